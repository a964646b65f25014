theorem dX12_readBound_0 : decode cX12_readBound 0 = .ok (.aload_n 0, 1) := by decide +kernel
theorem dX12_readBound_1 : decode cX12_readBound 1 = .ok (.iload_n 1, 1) := by decide +kernel
theorem dX12_readBound_2 : decode cX12_readBound 2 = .ok (.iconst 2, 1) := by decide +kernel
theorem dX12_readBound_3 : decode cX12_readBound 3 = .ok (.iload_n 2, 1) := by decide +kernel
theorem dX12_readBound_4 : decode cX12_readBound 4 = .ok (.invokevirtual 143, 3) := by decide +kernel
theorem dX12_readBound_7 : decode cX12_readBound 7 = .ok (.ifCond .ne 5, 3) := by decide +kernel
theorem dX12_readBound_10 : decode cX12_readBound 10 = .ok (.iconst 0, 1) := by decide +kernel
theorem dX12_readBound_11 : decode cX12_readBound 11 = .ok (.ireturn, 1) := by decide +kernel
theorem dX12_readBound_12 : decode cX12_readBound 12 = .ok (.aload_n 0, 1) := by decide +kernel
theorem dX12_readBound_13 : decode cX12_readBound 13 = .ok (.invokevirtual 130, 3) := by decide +kernel
theorem dX12_readBound_16 : decode cX12_readBound 16 = .ok (.pop, 1) := by decide +kernel
theorem dX12_readBound_17 : decode cX12_readBound 17 = .ok (.iconst 1, 1) := by decide +kernel
theorem dX12_readBound_18 : decode cX12_readBound 18 = .ok (.ireturn, 1) := by decide +kernel
set_option maxHeartbeats 4000000 in
set_option maxRecDepth 100000 in
theorem ct_X12_readBound {E : xE} {z : Nat} {T : Nat → Nat × Int} {F : Nat → Nat → Int} {I : Nat → Int → Int} {P : Nat → Nat → Option Nat} {Y : Nat → Int → Option Nat} {m : Nat} {w : Int → Int} (hw : wM T P m)(hR : w32 w)(hT : ∀ j : Int, -128 ≤ I (m + 6) j ∧ I (m + 6) j ≤ 127) (hE : 0 ≤ F m 10 ∧ F m 10 ≤ F m 11 ∧ F m 11 ≤ 400) {k hi : Int} (hk : 0 ≤ k ∧ k < 3601) (hlh : 2 ≤ hi ∧ hi ≤ 1000) (hOk : ∀ v : Int, 2 ≤ v → v ≤ hi → wOk (wS w k v)) : Ct E 4 mX12_readBound 0 0 [.ref m, J k, J hi] (z, T, F, upA I (m + 1) w, P, Y) (xd (some (J (bI (decide (0 ≤ sNum (I (m + 6)) (sSkp (I (m + 6)) (F m 11) 32 32 (F m 10)) (sSkp (I (m + 6)) (F m 11) 48 57 (sSkp (I (m + 6)) (F m 11) 32 32 (F m 10))) 2 hi))))) (z, T, fPos F m (sSkp (I (m + 6)) (F m 11) 48 57 (sSkp (I (m + 6)) (F m 11) 32 32 (F m 10))) (sSkp (I (m + 6)) (F m 11) 32 32 (F m 10)), upA I (m + 1) (if 0 ≤ sNum (I (m + 6)) (sSkp (I (m + 6)) (F m 11) 32 32 (F m 10)) (sSkp (I (m + 6)) (F m 11) 48 57 (sSkp (I (m + 6)) (F m 11) 32 32 (F m 10))) 2 hi then sHalt (wS w k (sNum (I (m + 6)) (sSkp (I (m + 6)) (F m 11) 32 32 (F m 10)) (sSkp (I (m + 6)) (F m 11) 48 57 (sSkp (I (m + 6)) (F m 11) 32 32 (F m 10))) 2 hi)) else w), P, Y)) := by
  obtain ⟨⟨q0, q1, q2, q3⟩, -⟩ := id hw
  have hnb := sNum_bd (t := I (m + 6)) (b := sSkp (I (m + 6)) (F m 11) 32 32 (F m 10)) (q := sSkp (I (m + 6)) (F m 11) 48 57 (sSkp (I (m + 6)) (F m 11) 32 32 (F m 10))) (lo := 2) (hi := hi) (by omega)
  refine Ct.of [some (.ref m), some (J k), some (J hi)] kt_X12_readBound rfl (Nat.le_of_ble_eq_true rfl) rfl (fun d hd => ?_)
  generalize hX : xN E _ _ _ = X
  refine xg_aloadn 1 dX12_readBound_0 rfl rfl rfl ?_
  refine xg_iloadn 2 dX12_readBound_1 rfl rfl rfl ?_
  refine xg_iconst 3 dX12_readBound_2 rfl ?_
  refine xg_iloadn 4 dX12_readBound_3 rfl rfl rfl ?_
  refine xg_callV 7 12 [_, _, _] _ kv_X12_readNumber ⟨_, _, rfl⟩ kl_RX12_143 dX12_readBound_4 rfl (by assumption) (by omega) rfl rfl (Nat.le_of_ble_eq_true rfl) (by omega) ⟨Nat.le_refl _, Nat.le_refl _⟩ (ct_X12_readNumber hw hR hT hE hk (by omega)) rfl ?_
  refine xg_dne 12 10 dX12_readBound_7 rfl rfl (fun hb7 => ?_) (fun hb7 => ?_)
  · skip
    rw [if_pos hb7]
    refine xg_aloadn 13 dX12_readBound_12 rfl rfl rfl ?_
    refine xg_callV 16 12 [] _ kv_X12_isHalted ⟨_, _, rfl⟩ kl_RX12_130 dX12_readBound_13 rfl (by assumption) (by omega) rfl rfl (Nat.le_of_ble_eq_true rfl) (by omega) ⟨Nat.le_refl _, Nat.le_refl _⟩ (ct_X12_isHalted hw (hOk _ (by omega) (by omega))) rfl ?_
    refine xg_pop 17 dX12_readBound_16 rfl rfl ?_
    refine xg_iconst 18 dX12_readBound_17 rfl ?_
    subst hX
    exact xg_zreturn dX12_readBound_18 rfl (by first | exact bI_01 _ | omega) ⟨Nat.le_refl _, Nat.le_refl _⟩ ⟨congrArg (fun v => some (J v)) (bI_t (by omega)).symm, by rw [if_pos hb7]⟩
  · skip
    refine xg_iconst 11 dX12_readBound_10 rfl ?_
    subst hX
    exact xg_zreturn dX12_readBound_11 rfl (by first | exact bI_01 _ | omega) ⟨Nat.le_refl _, Nat.le_refl _⟩ ⟨congrArg (fun v => some (J v)) (bI_f (by omega)).symm, by rw [if_neg hb7, if_neg hb7, wS_id]⟩

