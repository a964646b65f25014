theorem dX12_readNumber_0 : decode cX12_readNumber 0 = .ok (.aload_n 0, 1) := by decide +kernel
theorem dX12_readNumber_1 : decode cX12_readNumber 1 = .ok (.iload_n 2, 1) := by decide +kernel
theorem dX12_readNumber_2 : decode cX12_readNumber 2 = .ok (.iload_n 3, 1) := by decide +kernel
theorem dX12_readNumber_3 : decode cX12_readNumber 3 = .ok (.invokevirtual 115, 3) := by decide +kernel
theorem dX12_readNumber_6 : decode cX12_readNumber 6 = .ok (.istore 4, 2) := by decide +kernel
theorem dX12_readNumber_8 : decode cX12_readNumber 8 = .ok (.aload_n 0, 1) := by decide +kernel
theorem dX12_readNumber_9 : decode cX12_readNumber 9 = .ok (.getfield 13, 3) := by decide +kernel
theorem dX12_readNumber_12 : decode cX12_readNumber 12 = .ok (.iload_n 1, 1) := by decide +kernel
theorem dX12_readNumber_13 : decode cX12_readNumber 13 = .ok (.iload 4, 2) := by decide +kernel
theorem dX12_readNumber_15 : decode cX12_readNumber 15 = .ok (.ifCond .ge 12, 3) := by decide +kernel
theorem dX12_readNumber_18 : decode cX12_readNumber 18 = .ok (.aload_n 0, 1) := by decide +kernel
theorem dX12_readNumber_19 : decode cX12_readNumber 19 = .ok (.getfield 13, 3) := by decide +kernel
theorem dX12_readNumber_22 : decode cX12_readNumber 22 = .ok (.iload_n 1, 1) := by decide +kernel
theorem dX12_readNumber_23 : decode cX12_readNumber 23 = .ok (.iaload, 1) := by decide +kernel
theorem dX12_readNumber_24 : decode cX12_readNumber 24 = .ok (.goto 5, 3) := by decide +kernel
theorem dX12_readNumber_27 : decode cX12_readNumber 27 = .ok (.iload 4, 2) := by decide +kernel
theorem dX12_readNumber_29 : decode cX12_readNumber 29 = .ok (.iastore, 1) := by decide +kernel
theorem dX12_readNumber_30 : decode cX12_readNumber 30 = .ok (.iload 4, 2) := by decide +kernel
theorem dX12_readNumber_32 : decode cX12_readNumber 32 = .ok (.ifCond .lt 7, 3) := by decide +kernel
theorem dX12_readNumber_35 : decode cX12_readNumber 35 = .ok (.iconst 1, 1) := by decide +kernel
theorem dX12_readNumber_36 : decode cX12_readNumber 36 = .ok (.goto 4, 3) := by decide +kernel
theorem dX12_readNumber_39 : decode cX12_readNumber 39 = .ok (.iconst 0, 1) := by decide +kernel
theorem dX12_readNumber_40 : decode cX12_readNumber 40 = .ok (.ireturn, 1) := by decide +kernel
set_option maxHeartbeats 4000000 in
set_option maxRecDepth 100000 in
theorem ct_X12_readNumber {E : xE} {z : Nat} {T : Nat → Nat × Int} {F : Nat → Nat → Int} {I : Nat → Int → Int} {P : Nat → Nat → Option Nat} {Y : Nat → Int → Option Nat} {m : Nat} {w : Int → Int} (hw : wM T P m)(hR : w32 w)(hT : ∀ j : Int, -128 ≤ I (m + 6) j ∧ I (m + 6) j ≤ 127) (hE : 0 ≤ F m 10 ∧ F m 10 ≤ F m 11 ∧ F m 11 ≤ 400) {k lo hi : Int} (hk : 0 ≤ k ∧ k < 3601) (hlh : 0 ≤ lo ∧ lo ≤ hi ∧ hi ≤ 1000) : Ct E 3 mX12_readNumber 0 0 [.ref m, J k, J lo, J hi] (z, T, F, upA I (m + 1) w, P, Y) (xd (some (J (bI (decide (0 ≤ sNum (I (m + 6)) (sSkp (I (m + 6)) (F m 11) 32 32 (F m 10)) (sSkp (I (m + 6)) (F m 11) 48 57 (sSkp (I (m + 6)) (F m 11) 32 32 (F m 10))) lo hi))))) (z, T, fPos F m (sSkp (I (m + 6)) (F m 11) 48 57 (sSkp (I (m + 6)) (F m 11) 32 32 (F m 10))) (sSkp (I (m + 6)) (F m 11) 32 32 (F m 10)), upA I (m + 1) (wS w k (if 0 ≤ sNum (I (m + 6)) (sSkp (I (m + 6)) (F m 11) 32 32 (F m 10)) (sSkp (I (m + 6)) (F m 11) 48 57 (sSkp (I (m + 6)) (F m 11) 32 32 (F m 10))) lo hi then sNum (I (m + 6)) (sSkp (I (m + 6)) (F m 11) 32 32 (F m 10)) (sSkp (I (m + 6)) (F m 11) 48 57 (sSkp (I (m + 6)) (F m 11) 32 32 (F m 10))) lo hi else w k)), P, Y)) := by
  obtain ⟨⟨q0, q1, q2, q3⟩, -⟩ := id hw
  have hnb := sNum_bd (t := I (m + 6)) (b := sSkp (I (m + 6)) (F m 11) 32 32 (F m 10)) (q := sSkp (I (m + 6)) (F m 11) 48 57 (sSkp (I (m + 6)) (F m 11) 32 32 (F m 10))) (lo := lo) (hi := hi) (by omega)
  refine Ct.of [some (.ref m), some (J k), some (J lo), some (J hi), none] kt_X12_readNumber rfl (Nat.le_of_ble_eq_true rfl) rfl (fun d hd => ?_)
  generalize hX : xN E _ _ _ = X
  refine xg_aloadn 1 dX12_readNumber_0 rfl rfl rfl ?_
  refine xg_iloadn 2 dX12_readNumber_1 rfl rfl rfl ?_
  refine xg_iloadn 3 dX12_readNumber_2 rfl rfl rfl ?_
  refine xg_callV 6 12 [_, _] _ kv_X12_number ⟨_, _, rfl⟩ kl_RX12_115 dX12_readNumber_3 rfl (by assumption) (by omega) rfl rfl (Nat.le_of_ble_eq_true rfl) (by omega) ⟨Nat.le_refl _, Nat.le_refl _⟩ (ct_X12_number hw hT (by omega) (by omega)) rfl ?_
  refine xg_istore 8 _ dX12_readNumber_6 rfl rfl (by decide) (Or.inr rfl) ?_
  refine xg_aloadn 9 dX12_readNumber_8 rfl rfl rfl ?_
  refine xg_getP 12 kf_RX12_13 dX12_readNumber_9 rfl (by assumption) (by assumption) ?_
  refine xg_iloadn 13 dX12_readNumber_12 rfl rfl rfl ?_
  refine xg_iload 15 dX12_readNumber_13 rfl rfl ?_
  refine xg_ifge 27 18 dX12_readNumber_15 rfl rfl (by first | omega | exact hR _ | exact ⟨hR _, by omega⟩ | exact ⟨by omega, hR _⟩ | exact ⟨hR _, hR _⟩) (fun hb15 => ?_) (fun hb15 => ?_)
  · skip
    refine xg_iload 29 dX12_readNumber_27 rfl rfl ?_
    refine xg_iastW 30 dX12_readNumber_29 rfl (by assumption) (by first | omega | exact hR _ | exact ⟨hR _, by omega⟩ | exact ⟨by omega, hR _⟩ | exact ⟨hR _, hR _⟩) ?_
    refine xg_iload 32 dX12_readNumber_30 rfl rfl ?_
    refine xg_iflt 39 35 dX12_readNumber_32 rfl rfl (by first | omega | exact hR _ | exact ⟨hR _, by omega⟩ | exact ⟨by omega, hR _⟩ | exact ⟨hR _, hR _⟩) (fun hb32 => ?_) (fun hb32 => ?_)
    · first
      | (exfalso; omega)
      | skip
        refine xg_iconst 40 dX12_readNumber_39 rfl ?_
        subst hX
        exact xg_zreturn dX12_readNumber_40 rfl (by first | exact bI_01 _ | omega) ⟨Nat.le_refl _, Nat.le_refl _⟩ ⟨congrArg (fun v => some (J v)) (by first | exact (bI_t (by omega)).symm | exact (bI_f (by omega)).symm), by first | rw [if_pos (by omega)] | rw [if_neg (by omega)]⟩
    · first
      | (exfalso; omega)
      | skip
        refine xg_iconst 36 dX12_readNumber_35 rfl ?_
        refine xg_goto 40 dX12_readNumber_36 rfl ?_
        subst hX
        exact xg_zreturn dX12_readNumber_40 rfl (by first | exact bI_01 _ | omega) ⟨Nat.le_refl _, Nat.le_refl _⟩ ⟨congrArg (fun v => some (J v)) (by first | exact (bI_t (by omega)).symm | exact (bI_f (by omega)).symm), by first | rw [if_pos (by omega)] | rw [if_neg (by omega)]⟩
  · skip
    refine xg_aloadn 19 dX12_readNumber_18 rfl rfl rfl ?_
    refine xg_getP 22 kf_RX12_13 dX12_readNumber_19 rfl (by assumption) (by assumption) ?_
    refine xg_iloadn 23 dX12_readNumber_22 rfl rfl rfl ?_
    refine xg_ialdW 24 dX12_readNumber_23 rfl (by assumption) (by first | omega | exact hR _ | exact ⟨hR _, by omega⟩ | exact ⟨by omega, hR _⟩ | exact ⟨hR _, hR _⟩) ?_
    refine xg_goto 29 dX12_readNumber_24 rfl ?_
    refine xg_iastW 30 dX12_readNumber_29 rfl (by assumption) (by first | omega | exact hR _ | exact ⟨hR _, by omega⟩ | exact ⟨by omega, hR _⟩ | exact ⟨hR _, hR _⟩) ?_
    refine xg_iload 32 dX12_readNumber_30 rfl rfl ?_
    refine xg_iflt 39 35 dX12_readNumber_32 rfl rfl (by first | omega | exact hR _ | exact ⟨hR _, by omega⟩ | exact ⟨by omega, hR _⟩ | exact ⟨hR _, hR _⟩) (fun hb32 => ?_) (fun hb32 => ?_)
    · first
      | (exfalso; omega)
      | skip
        refine xg_iconst 40 dX12_readNumber_39 rfl ?_
        subst hX
        exact xg_zreturn dX12_readNumber_40 rfl (by first | exact bI_01 _ | omega) ⟨Nat.le_refl _, Nat.le_refl _⟩ ⟨congrArg (fun v => some (J v)) (by first | exact (bI_t (by omega)).symm | exact (bI_f (by omega)).symm), by first | rw [if_pos (by omega)] | rw [if_neg (by omega)]⟩
    · first
      | (exfalso; omega)
      | skip
        refine xg_iconst 36 dX12_readNumber_35 rfl ?_
        refine xg_goto 40 dX12_readNumber_36 rfl ?_
        subst hX
        exact xg_zreturn dX12_readNumber_40 rfl (by first | exact bI_01 _ | omega) ⟨Nat.le_refl _, Nat.le_refl _⟩ ⟨congrArg (fun v => some (J v)) (by first | exact (bI_t (by omega)).symm | exact (bI_f (by omega)).symm), by first | rw [if_pos (by omega)] | rw [if_neg (by omega)]⟩

theorem dX12_readPlan_0 : decode cX12_readPlan 0 = .ok (.aload_n 0, 1) := by decide +kernel
theorem dX12_readPlan_1 : decode cX12_readPlan 1 = .ok (.invokevirtual 130, 3) := by decide +kernel
theorem dX12_readPlan_4 : decode cX12_readPlan 4 = .ok (.pop, 1) := by decide +kernel
theorem dX12_readPlan_5 : decode cX12_readPlan 5 = .ok (.aload_n 0, 1) := by decide +kernel
theorem dX12_readPlan_6 : decode cX12_readPlan 6 = .ok (.getfield 13, 3) := by decide +kernel
theorem dX12_readPlan_9 : decode cX12_readPlan 9 = .ok (.iconst 3, 1) := by decide +kernel
theorem dX12_readPlan_10 : decode cX12_readPlan 10 = .ok (.iload_n 1, 1) := by decide +kernel
theorem dX12_readPlan_11 : decode cX12_readPlan 11 = .ok (.ifCond .eq 7, 3) := by decide +kernel
theorem dX12_readPlan_14 : decode cX12_readPlan 14 = .ok (.iconst 1, 1) := by decide +kernel
theorem dX12_readPlan_15 : decode cX12_readPlan 15 = .ok (.goto 4, 3) := by decide +kernel
theorem dX12_readPlan_18 : decode cX12_readPlan 18 = .ok (.iconst 0, 1) := by decide +kernel
theorem dX12_readPlan_19 : decode cX12_readPlan 19 = .ok (.iastore, 1) := by decide +kernel
theorem dX12_readPlan_20 : decode cX12_readPlan 20 = .ok (.iconst 1, 1) := by decide +kernel
theorem dX12_readPlan_21 : decode cX12_readPlan 21 = .ok (.ireturn, 1) := by decide +kernel
set_option maxHeartbeats 4000000 in
set_option maxRecDepth 100000 in
theorem ct_X12_readPlan {E : xE} {z : Nat} {T : Nat → Nat × Int} {F : Nat → Nat → Int} {I : Nat → Int → Int} {P : Nat → Nat → Option Nat} {Y : Nat → Int → Option Nat} {m : Nat} {w : Int → Int} (hw : wM T P m) (hO : wOk w){b : Bool} : Ct E 4 mX12_readPlan 0 0 [.ref m, J (bI b)] (z, T, F, upA I (m + 1) w, P, Y) (xd (some (J 1)) (z, T, F, upA I (m + 1) (wS (sHalt w) 3 (bI b)), P, Y)) := by
  obtain ⟨⟨q0, q1, q2, q3⟩, -⟩ := id hw
  obtain ⟨hR, o0, o1, o2, o3, o4, o5, o6, oc, o13, o14, o16, o17, o18, ov⟩ := id hO
  have hN := wN_i o0.1
  have bb := bI_01 b
  refine Ct.of [some (.ref m), some (J (bI b))] kt_X12_readPlan rfl (Nat.le_of_ble_eq_true rfl) rfl (fun d hd => ?_)
  generalize hX : xN E _ _ _ = X
  refine xg_aloadn 1 dX12_readPlan_0 rfl rfl rfl ?_
  refine xg_callV 4 12 [] _ kv_X12_isHalted ⟨_, _, rfl⟩ kl_RX12_130 dX12_readPlan_1 rfl (by assumption) (by omega) rfl rfl (Nat.le_of_ble_eq_true rfl) (by omega) ⟨Nat.le_refl _, Nat.le_refl _⟩ (ct_X12_isHalted hw hO) rfl ?_
  refine xg_pop 5 dX12_readPlan_4 rfl rfl ?_
  refine xg_aloadn 6 dX12_readPlan_5 rfl rfl rfl ?_
  refine xg_getP 9 kf_RX12_13 dX12_readPlan_6 rfl (by assumption) (by assumption) ?_
  refine xg_iconst 10 dX12_readPlan_9 rfl ?_
  refine xg_iloadn 11 dX12_readPlan_10 rfl rfl rfl ?_
  refine xg_ifeq 18 14 dX12_readPlan_11 rfl rfl (by first | omega | exact hR _ | exact ⟨hR _, by omega⟩ | exact ⟨by omega, hR _⟩ | exact ⟨hR _, hR _⟩) (fun hb11 => ?_) (fun hb11 => ?_)
  · skip
    refine xg_iconst 19 dX12_readPlan_18 rfl ?_
    refine xg_iastW 20 dX12_readPlan_19 rfl (by assumption) (by first | omega | exact hR _ | exact ⟨hR _, by omega⟩ | exact ⟨by omega, hR _⟩ | exact ⟨hR _, hR _⟩) ?_
    refine xg_iconst 21 dX12_readPlan_20 rfl ?_
    subst hX
    exact xg_zreturn dX12_readPlan_21 rfl (by first | exact bI_01 _ | omega) ⟨Nat.le_refl _, Nat.le_refl _⟩ ⟨rfl, by rw [show bI b = 0 from hb11]⟩
  · skip
    refine xg_iconst 15 dX12_readPlan_14 rfl ?_
    refine xg_goto 19 dX12_readPlan_15 rfl ?_
    refine xg_iastW 20 dX12_readPlan_19 rfl (by assumption) (by first | omega | exact hR _ | exact ⟨hR _, by omega⟩ | exact ⟨by omega, hR _⟩ | exact ⟨hR _, hR _⟩) ?_
    refine xg_iconst 21 dX12_readPlan_20 rfl ?_
    subst hX
    exact xg_zreturn dX12_readPlan_21 rfl (by first | exact bI_01 _ | omega) ⟨Nat.le_refl _, Nat.le_refl _⟩ ⟨rfl, by rw [show bI b = 1 by omega]⟩

