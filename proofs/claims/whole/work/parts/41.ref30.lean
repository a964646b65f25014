/-- the law's next word is laid -/
def wEm (w : Int → Int) (n a b : Int) : Int → Int := wS (wS w (2801 + 2 * n) a) (2801 + 2 * n + 1) b
theorem dX12_emits_0 : decode cX12_emits 0 = .ok (.aload_n 0, 1) := by decide +kernel
theorem dX12_emits_1 : decode cX12_emits 1 = .ok (.getfield 13, 3) := by decide +kernel
theorem dX12_emits_4 : decode cX12_emits 4 = .ok (.sipush 2801, 3) := by decide +kernel
theorem dX12_emits_7 : decode cX12_emits 7 = .ok (.iconst 2, 1) := by decide +kernel
theorem dX12_emits_8 : decode cX12_emits 8 = .ok (.aload_n 0, 1) := by decide +kernel
theorem dX12_emits_9 : decode cX12_emits 9 = .ok (.getfield 175, 3) := by decide +kernel
theorem dX12_emits_12 : decode cX12_emits 12 = .ok (.imul, 1) := by decide +kernel
theorem dX12_emits_13 : decode cX12_emits 13 = .ok (.iadd, 1) := by decide +kernel
theorem dX12_emits_14 : decode cX12_emits 14 = .ok (.iload_n 1, 1) := by decide +kernel
theorem dX12_emits_15 : decode cX12_emits 15 = .ok (.iastore, 1) := by decide +kernel
theorem dX12_emits_16 : decode cX12_emits 16 = .ok (.aload_n 0, 1) := by decide +kernel
theorem dX12_emits_17 : decode cX12_emits 17 = .ok (.getfield 13, 3) := by decide +kernel
theorem dX12_emits_20 : decode cX12_emits 20 = .ok (.sipush 2801, 3) := by decide +kernel
theorem dX12_emits_23 : decode cX12_emits 23 = .ok (.iconst 2, 1) := by decide +kernel
theorem dX12_emits_24 : decode cX12_emits 24 = .ok (.aload_n 0, 1) := by decide +kernel
theorem dX12_emits_25 : decode cX12_emits 25 = .ok (.getfield 175, 3) := by decide +kernel
theorem dX12_emits_28 : decode cX12_emits 28 = .ok (.imul, 1) := by decide +kernel
theorem dX12_emits_29 : decode cX12_emits 29 = .ok (.iadd, 1) := by decide +kernel
theorem dX12_emits_30 : decode cX12_emits 30 = .ok (.iconst 1, 1) := by decide +kernel
theorem dX12_emits_31 : decode cX12_emits 31 = .ok (.iadd, 1) := by decide +kernel
theorem dX12_emits_32 : decode cX12_emits 32 = .ok (.iload_n 2, 1) := by decide +kernel
theorem dX12_emits_33 : decode cX12_emits 33 = .ok (.iastore, 1) := by decide +kernel
theorem dX12_emits_34 : decode cX12_emits 34 = .ok (.aload_n 0, 1) := by decide +kernel
theorem dX12_emits_35 : decode cX12_emits 35 = .ok (.dup, 1) := by decide +kernel
theorem dX12_emits_36 : decode cX12_emits 36 = .ok (.getfield 175, 3) := by decide +kernel
theorem dX12_emits_39 : decode cX12_emits 39 = .ok (.iconst 1, 1) := by decide +kernel
theorem dX12_emits_40 : decode cX12_emits 40 = .ok (.iadd, 1) := by decide +kernel
theorem dX12_emits_41 : decode cX12_emits 41 = .ok (.putfield 175, 3) := by decide +kernel
theorem dX12_emits_44 : decode cX12_emits 44 = .ok (.return_, 1) := by decide +kernel
set_option maxHeartbeats 4000000 in
set_option maxRecDepth 100000 in
theorem ct_X12_emits {E : xE} {z : Nat} {T : Nat → Nat × Int} {F : Nat → Nat → Int} {I : Nat → Int → Int} {P : Nat → Nat → Option Nat} {Y : Nat → Int → Option Nat} {m : Nat} {w : Int → Int} (hw : wM T P m){a b : Int} (h16 : 0 ≤ F m 16 ∧ F m 16 < 400) : Ct E 0 mX12_emits 0 0 [.ref m, J a, J b] (z, T, F, upA I (m + 1) w, P, Y) (xd none (z, T, upF F m 16 (F m 16 + 1), upA I (m + 1) (wEm w (F m 16) a b), P, Y)) := by
  obtain ⟨⟨q0, q1, q2, q3⟩, -⟩ := id hw
  refine Ct.of [some (.ref m), some (J a), some (J b)] kt_X12_emits rfl (Nat.le_of_ble_eq_true rfl) rfl (fun d hd => ?_)
  generalize hX : xN E _ _ _ = X
  refine xg_aloadn 1 dX12_emits_0 rfl rfl rfl ?_
  refine xg_getP 4 kf_RX12_13 dX12_emits_1 rfl (by assumption) (by assumption) ?_
  refine xg_sipush 7 dX12_emits_4 rfl (by decide) ?_
  refine xg_iconst 8 dX12_emits_7 rfl ?_
  refine xg_aloadn 9 dX12_emits_8 rfl rfl rfl ?_
  refine xg_getI 12 kf_RX12_175 dX12_emits_9 rfl (by assumption) ?_
  refine xg_imul 13 dX12_emits_12 rfl ?_
  refine xg_iadd 14 dX12_emits_13 rfl ?_
  refine xg_iloadn 15 dX12_emits_14 rfl rfl rfl ?_
  refine xg_iastW 16 dX12_emits_15 rfl (by assumption) (by first | omega | exact hR _ | exact ⟨hR _, by omega⟩ | exact ⟨by omega, hR _⟩ | exact ⟨hR _, hR _⟩) ?_
  refine xg_aloadn 17 dX12_emits_16 rfl rfl rfl ?_
  refine xg_getP 20 kf_RX12_13 dX12_emits_17 rfl (by assumption) (by assumption) ?_
  refine xg_sipush 23 dX12_emits_20 rfl (by decide) ?_
  refine xg_iconst 24 dX12_emits_23 rfl ?_
  refine xg_aloadn 25 dX12_emits_24 rfl rfl rfl ?_
  refine xg_getI 28 kf_RX12_175 dX12_emits_25 rfl (by assumption) ?_
  refine xg_imul 29 dX12_emits_28 rfl ?_
  refine xg_iadd 30 dX12_emits_29 rfl ?_
  refine xg_iconst 31 dX12_emits_30 rfl ?_
  refine xg_iadd 32 dX12_emits_31 rfl ?_
  refine xg_iloadn 33 dX12_emits_32 rfl rfl rfl ?_
  refine xg_iastW 34 dX12_emits_33 rfl (by assumption) (by first | omega | exact hR _ | exact ⟨hR _, by omega⟩ | exact ⟨by omega, hR _⟩ | exact ⟨hR _, hR _⟩) ?_
  refine xg_aloadn 35 dX12_emits_34 rfl rfl rfl ?_
  refine xg_dup 36 dX12_emits_35 rfl rfl ?_
  refine xg_getI 39 kf_RX12_175 dX12_emits_36 rfl (by assumption) ?_
  refine xg_iconst 40 dX12_emits_39 rfl ?_
  refine xg_iadd 41 dX12_emits_40 rfl ?_
  refine xg_putI 44 kf_RX12_175 dX12_emits_41 rfl (by assumption) ?_
  subst hX
  exact xg_return dX12_emits_44 rfl ⟨Nat.le_refl _, Nat.le_refl _⟩ ⟨rfl, rfl⟩

