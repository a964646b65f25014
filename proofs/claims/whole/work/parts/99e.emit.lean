theorem dX4_emit_0 : decode cX4_emit 0 = .ok (.aload_n 0, 1) := by decide +kernel
theorem dX4_emit_1 : decode cX4_emit 1 = .ok (.getfield 32, 3) := by decide +kernel
theorem dX4_emit_4 : decode cX4_emit 4 = .ok (.ifCond .lt 35, 3) := by decide +kernel
theorem dX4_emit_7 : decode cX4_emit 7 = .ok (.aload_n 0, 1) := by decide +kernel
theorem dX4_emit_8 : decode cX4_emit 8 = .ok (.getfield 32, 3) := by decide +kernel
theorem dX4_emit_11 : decode cX4_emit 11 = .ok (.aload_n 0, 1) := by decide +kernel
theorem dX4_emit_12 : decode cX4_emit 12 = .ok (.getfield 25, 3) := by decide +kernel
theorem dX4_emit_15 : decode cX4_emit 15 = .ok (.arraylength, 1) := by decide +kernel
theorem dX4_emit_16 : decode cX4_emit 16 = .ok (.if_icmp .ge 23, 3) := by decide +kernel
theorem dX4_emit_19 : decode cX4_emit 19 = .ok (.aload_n 0, 1) := by decide +kernel
theorem dX4_emit_20 : decode cX4_emit 20 = .ok (.getfield 25, 3) := by decide +kernel
theorem dX4_emit_23 : decode cX4_emit 23 = .ok (.aload_n 0, 1) := by decide +kernel
theorem dX4_emit_24 : decode cX4_emit 24 = .ok (.getfield 32, 3) := by decide +kernel
theorem dX4_emit_27 : decode cX4_emit 27 = .ok (.iload_n 1, 1) := by decide +kernel
theorem dX4_emit_28 : decode cX4_emit 28 = .ok (.iastore, 1) := by decide +kernel
theorem dX4_emit_29 : decode cX4_emit 29 = .ok (.aload_n 0, 1) := by decide +kernel
theorem dX4_emit_30 : decode cX4_emit 30 = .ok (.dup, 1) := by decide +kernel
theorem dX4_emit_31 : decode cX4_emit 31 = .ok (.getfield 32, 3) := by decide +kernel
theorem dX4_emit_34 : decode cX4_emit 34 = .ok (.iconst 1, 1) := by decide +kernel
theorem dX4_emit_35 : decode cX4_emit 35 = .ok (.iadd, 1) := by decide +kernel
theorem dX4_emit_36 : decode cX4_emit 36 = .ok (.putfield 32, 3) := by decide +kernel
theorem dX4_emit_39 : decode cX4_emit 39 = .ok (.return_, 1) := by decide +kernel
/-- one code more (where there is room) -/
def lEmI (F : Nat → Nat → Int) (I : Nat → Int → Int) (r : Nat) (v : Int) : Nat → Int → Int := if F r 6 < 400 then upI I (r + 4) (F r 6) v else I
def lEmF (F : Nat → Nat → Int) (r : Nat) : Nat → Nat → Int := if F r 6 < 400 then upF F r 6 (F r 6 + 1) else F
set_option maxHeartbeats 4000000 in
set_option maxRecDepth 100000 in
theorem ct_X4_emit {E : xE} {z : Nat} {T : Nat → Nat × Int} {F : Nat → Nat → Int} {I : Nat → Int → Int} {P : Nat → Nat → Option Nat} {Y : Nat → Int → Option Nat} {r s : Nat} {v : Int} (hR : wLrd T P r s) (hc : 0 ≤ F r 6 ∧ F r 6 ≤ 400) : Ct E 0 mX4_emit 0 0 [.ref r, J v] (z, T, F, I, P, Y) (xd none (z, T, lEmF F r, lEmI F I r v, P, Y)) := by
  obtain ⟨s0, -, -, -, -, p4, q4, r4⟩ := id hR
  refine Ct.of [some (.ref r), some (J v)] kt_X4_emit rfl (Nat.le_of_ble_eq_true rfl) rfl (fun d hd => ?_)
  generalize hX : xN E _ _ _ = X
  refine xg_aloadn 1 dX4_emit_0 rfl rfl rfl ?_
  refine xg_getI 4 kf_RX4_32 dX4_emit_1 rfl s0 ?_
  refine xg_iflt 39 7 dX4_emit_4 rfl rfl (by omega) (fun hb4 => ?_) (fun hb4 => ?_)
  · exfalso; omega
  · skip
    refine xg_aloadn 8 dX4_emit_7 rfl rfl rfl ?_
    refine xg_getI 11 kf_RX4_32 dX4_emit_8 rfl s0 ?_
    refine xg_aloadn 12 dX4_emit_11 rfl rfl rfl ?_
    refine xg_getP 15 kf_RX4_25 dX4_emit_12 rfl s0 p4 ?_
    refine xg_alen 16 dX4_emit_15 rfl q4 r4 ?_
    refine xg_icge 39 19 dX4_emit_16 rfl rfl (by omega) (fun hb16 => ?_) (fun hb16 => ?_)
    · skip
      subst hX
      exact xg_return dX4_emit_39 rfl ⟨Nat.le_refl _, Nat.le_refl _⟩ ⟨rfl, by unfold lEmF lEmI; first | rw [if_neg (by omega), if_neg (by omega)] | rw [if_pos (by omega), if_pos (by omega)]⟩
    · skip
      refine xg_aloadn 20 dX4_emit_19 rfl rfl rfl ?_
      refine xg_getP 23 kf_RX4_25 dX4_emit_20 rfl s0 p4 ?_
      refine xg_aloadn 24 dX4_emit_23 rfl rfl rfl ?_
      refine xg_getI 27 kf_RX4_32 dX4_emit_24 rfl s0 ?_
      refine xg_iloadn 28 dX4_emit_27 rfl rfl rfl ?_
      refine xg_iast 29 dX4_emit_28 rfl q4 (by rw [r4]; omega) ?_
      refine xg_aloadn 30 dX4_emit_29 rfl rfl rfl ?_
      refine xg_dup 31 dX4_emit_30 rfl rfl ?_
      refine xg_getI 34 kf_RX4_32 dX4_emit_31 rfl s0 ?_
      refine xg_iconst 35 dX4_emit_34 rfl ?_
      refine xg_iadd 36 dX4_emit_35 rfl ?_
      refine xg_putI 39 kf_RX4_32 dX4_emit_36 rfl s0 ?_
      subst hX
      exact xg_return dX4_emit_39 rfl ⟨Nat.le_refl _, Nat.le_refl _⟩ ⟨rfl, by unfold lEmF lEmI; first | rw [if_neg (by omega), if_neg (by omega)] | rw [if_pos (by omega), if_pos (by omega)]⟩

