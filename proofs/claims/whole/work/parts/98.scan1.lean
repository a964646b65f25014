theorem dX7_charSort_0 : decode cX7_charSort 0 = .ok (.iload_n 0, 1) := by decide +kernel
theorem dX7_charSort_1 : decode cX7_charSort 1 = .ok (.bipush 97, 2) := by decide +kernel
theorem dX7_charSort_3 : decode cX7_charSort 3 = .ok (.if_icmp .lt 12, 3) := by decide +kernel
theorem dX7_charSort_6 : decode cX7_charSort 6 = .ok (.iload_n 0, 1) := by decide +kernel
theorem dX7_charSort_7 : decode cX7_charSort 7 = .ok (.bipush 122, 2) := by decide +kernel
theorem dX7_charSort_9 : decode cX7_charSort 9 = .ok (.if_icmp .gt 6, 3) := by decide +kernel
theorem dX7_charSort_12 : decode cX7_charSort 12 = .ok (.bipush 50, 2) := by decide +kernel
theorem dX7_charSort_14 : decode cX7_charSort 14 = .ok (.ireturn, 1) := by decide +kernel
theorem dX7_charSort_15 : decode cX7_charSort 15 = .ok (.iload_n 0, 1) := by decide +kernel
theorem dX7_charSort_16 : decode cX7_charSort 16 = .ok (.bipush 48, 2) := by decide +kernel
theorem dX7_charSort_18 : decode cX7_charSort 18 = .ok (.if_icmp .lt 14, 3) := by decide +kernel
theorem dX7_charSort_21 : decode cX7_charSort 21 = .ok (.iload_n 0, 1) := by decide +kernel
theorem dX7_charSort_22 : decode cX7_charSort 22 = .ok (.bipush 57, 2) := by decide +kernel
theorem dX7_charSort_24 : decode cX7_charSort 24 = .ok (.if_icmp .gt 8, 3) := by decide +kernel
theorem dX7_charSort_27 : decode cX7_charSort 27 = .ok (.bipush 51, 2) := by decide +kernel
theorem dX7_charSort_29 : decode cX7_charSort 29 = .ok (.goto 5, 3) := by decide +kernel
theorem dX7_charSort_32 : decode cX7_charSort 32 = .ok (.bipush 100, 2) := by decide +kernel
theorem dX7_charSort_34 : decode cX7_charSort 34 = .ok (.ireturn, 1) := by decide +kernel
theorem dX7_fail_0 : decode cX7_fail 0 = .ok (.aload_n 0, 1) := by decide +kernel
theorem dX7_fail_1 : decode cX7_fail 1 = .ok (.getfield 21, 3) := by decide +kernel
theorem dX7_fail_4 : decode cX7_fail 4 = .ok (.iconst (-1), 1) := by decide +kernel
theorem dX7_fail_5 : decode cX7_fail 5 = .ok (.if_icmp .ne 34, 3) := by decide +kernel
theorem dX7_fail_8 : decode cX7_fail 8 = .ok (.aload_n 0, 1) := by decide +kernel
theorem dX7_fail_9 : decode cX7_fail 9 = .ok (.getfield 28, 3) := by decide +kernel
theorem dX7_fail_12 : decode cX7_fail 12 = .ok (.ifCond .lt 27, 3) := by decide +kernel
theorem dX7_fail_15 : decode cX7_fail 15 = .ok (.aload_n 0, 1) := by decide +kernel
theorem dX7_fail_16 : decode cX7_fail 16 = .ok (.getfield 28, 3) := by decide +kernel
theorem dX7_fail_19 : decode cX7_fail 19 = .ok (.aload_n 0, 1) := by decide +kernel
theorem dX7_fail_20 : decode cX7_fail 20 = .ok (.getfield 25, 3) := by decide +kernel
theorem dX7_fail_23 : decode cX7_fail 23 = .ok (.if_icmp .ge 16, 3) := by decide +kernel
theorem dX7_fail_26 : decode cX7_fail 26 = .ok (.aload_n 0, 1) := by decide +kernel
theorem dX7_fail_27 : decode cX7_fail 27 = .ok (.aload_n 0, 1) := by decide +kernel
theorem dX7_fail_28 : decode cX7_fail 28 = .ok (.getfield 9, 3) := by decide +kernel
theorem dX7_fail_31 : decode cX7_fail 31 = .ok (.aload_n 0, 1) := by decide +kernel
theorem dX7_fail_32 : decode cX7_fail 32 = .ok (.getfield 28, 3) := by decide +kernel
theorem dX7_fail_35 : decode cX7_fail 35 = .ok (.iaload, 1) := by decide +kernel
theorem dX7_fail_36 : decode cX7_fail 36 = .ok (.putfield 21, 3) := by decide +kernel
theorem dX7_fail_39 : decode cX7_fail 39 = .ok (.iconst 0, 1) := by decide +kernel
theorem dX7_fail_40 : decode cX7_fail 40 = .ok (.ireturn, 1) := by decide +kernel
theorem dX7_is_0 : decode cX7_is 0 = .ok (.aload_n 0, 1) := by decide +kernel
theorem dX7_is_1 : decode cX7_is 1 = .ok (.getfield 28, 3) := by decide +kernel
theorem dX7_is_4 : decode cX7_is 4 = .ok (.ifCond .lt 31, 3) := by decide +kernel
theorem dX7_is_7 : decode cX7_is 7 = .ok (.aload_n 0, 1) := by decide +kernel
theorem dX7_is_8 : decode cX7_is 8 = .ok (.getfield 28, 3) := by decide +kernel
theorem dX7_is_11 : decode cX7_is 11 = .ok (.aload_n 0, 1) := by decide +kernel
theorem dX7_is_12 : decode cX7_is 12 = .ok (.getfield 25, 3) := by decide +kernel
theorem dX7_is_15 : decode cX7_is 15 = .ok (.if_icmp .ge 20, 3) := by decide +kernel
theorem dX7_is_18 : decode cX7_is 18 = .ok (.aload_n 0, 1) := by decide +kernel
theorem dX7_is_19 : decode cX7_is 19 = .ok (.getfield 15, 3) := by decide +kernel
theorem dX7_is_22 : decode cX7_is 22 = .ok (.aload_n 0, 1) := by decide +kernel
theorem dX7_is_23 : decode cX7_is 23 = .ok (.getfield 28, 3) := by decide +kernel
theorem dX7_is_26 : decode cX7_is 26 = .ok (.iaload, 1) := by decide +kernel
theorem dX7_is_27 : decode cX7_is 27 = .ok (.iload_n 1, 1) := by decide +kernel
theorem dX7_is_28 : decode cX7_is 28 = .ok (.if_icmp .ne 7, 3) := by decide +kernel
theorem dX7_is_31 : decode cX7_is 31 = .ok (.iconst 1, 1) := by decide +kernel
theorem dX7_is_32 : decode cX7_is 32 = .ok (.goto 4, 3) := by decide +kernel
theorem dX7_is_35 : decode cX7_is 35 = .ok (.iconst 0, 1) := by decide +kernel
theorem dX7_is_36 : decode cX7_is 36 = .ok (.ireturn, 1) := by decide +kernel
theorem dX7_takes_0 : decode cX7_takes 0 = .ok (.aload_n 0, 1) := by decide +kernel
theorem dX7_takes_1 : decode cX7_takes 1 = .ok (.getfield 28, 3) := by decide +kernel
theorem dX7_takes_4 : decode cX7_takes 4 = .ok (.ifCond .lt 27, 3) := by decide +kernel
theorem dX7_takes_7 : decode cX7_takes 7 = .ok (.aload_n 0, 1) := by decide +kernel
theorem dX7_takes_8 : decode cX7_takes 8 = .ok (.getfield 28, 3) := by decide +kernel
theorem dX7_takes_11 : decode cX7_takes 11 = .ok (.aload_n 0, 1) := by decide +kernel
theorem dX7_takes_12 : decode cX7_takes 12 = .ok (.getfield 25, 3) := by decide +kernel
theorem dX7_takes_15 : decode cX7_takes 15 = .ok (.if_icmp .ge 16, 3) := by decide +kernel
theorem dX7_takes_18 : decode cX7_takes 18 = .ok (.aload_n 0, 1) := by decide +kernel
theorem dX7_takes_19 : decode cX7_takes 19 = .ok (.getfield 15, 3) := by decide +kernel
theorem dX7_takes_22 : decode cX7_takes 22 = .ok (.aload_n 0, 1) := by decide +kernel
theorem dX7_takes_23 : decode cX7_takes 23 = .ok (.getfield 28, 3) := by decide +kernel
theorem dX7_takes_26 : decode cX7_takes 26 = .ok (.iaload, 1) := by decide +kernel
theorem dX7_takes_27 : decode cX7_takes 27 = .ok (.iload_n 1, 1) := by decide +kernel
theorem dX7_takes_28 : decode cX7_takes 28 = .ok (.if_icmp .eq 5, 3) := by decide +kernel
theorem dX7_takes_31 : decode cX7_takes 31 = .ok (.iconst 0, 1) := by decide +kernel
theorem dX7_takes_32 : decode cX7_takes 32 = .ok (.ireturn, 1) := by decide +kernel
theorem dX7_takes_33 : decode cX7_takes 33 = .ok (.aload_n 0, 1) := by decide +kernel
theorem dX7_takes_34 : decode cX7_takes 34 = .ok (.dup, 1) := by decide +kernel
theorem dX7_takes_35 : decode cX7_takes 35 = .ok (.getfield 28, 3) := by decide +kernel
theorem dX7_takes_38 : decode cX7_takes 38 = .ok (.iconst 1, 1) := by decide +kernel
theorem dX7_takes_39 : decode cX7_takes 39 = .ok (.iadd, 1) := by decide +kernel
theorem dX7_takes_40 : decode cX7_takes 40 = .ok (.putfield 28, 3) := by decide +kernel
theorem dX7_takes_43 : decode cX7_takes 43 = .ok (.iconst 1, 1) := by decide +kernel
theorem dX7_takes_44 : decode cX7_takes 44 = .ok (.ireturn, 1) := by decide +kernel
theorem dX7_needs_0 : decode cX7_needs 0 = .ok (.aload_n 0, 1) := by decide +kernel
theorem dX7_needs_1 : decode cX7_needs 1 = .ok (.iload_n 1, 1) := by decide +kernel
theorem dX7_needs_2 : decode cX7_needs 2 = .ok (.invokevirtual 64, 3) := by decide +kernel
theorem dX7_needs_5 : decode cX7_needs 5 = .ok (.ifCond .ne 10, 3) := by decide +kernel
theorem dX7_needs_8 : decode cX7_needs 8 = .ok (.aload_n 0, 1) := by decide +kernel
theorem dX7_needs_9 : decode cX7_needs 9 = .ok (.invokevirtual 68, 3) := by decide +kernel
theorem dX7_needs_12 : decode cX7_needs 12 = .ok (.ifCond .eq 7, 3) := by decide +kernel
theorem dX7_needs_15 : decode cX7_needs 15 = .ok (.iconst 1, 1) := by decide +kernel
theorem dX7_needs_16 : decode cX7_needs 16 = .ok (.goto 4, 3) := by decide +kernel
theorem dX7_needs_19 : decode cX7_needs 19 = .ok (.iconst 0, 1) := by decide +kernel
theorem dX7_needs_20 : decode cX7_needs 20 = .ok (.ireturn, 1) := by decide +kernel
/-- the sort of a character -/
def zCs (c : Int) : Int := if 97 ≤ c ∧ c ≤ 122 then 50 else if 48 ≤ c ∧ c ≤ 57 then 51 else 100
/-- the scan at s stands at a token of sort k -/
abbrev zAt (F : Nat → Nat → Int) (I : Nat → Int → Int) (s : Nat) (k : Int) : Prop := 0 ≤ F s 4 ∧ F s 4 < F s 3 ∧ I (s + 2) (F s 4) = k
/-- a scan's ranges -/
def zOk (F : Nat → Nat → Int) (I : Nat → Int → Int) (s : Nat) : Prop := (0 ≤ F s 3 ∧ F s 3 ≤ 401) ∧ (0 ≤ F s 4 ∧ F s 4 ≤ 1000) ∧ (-1 ≤ F s 5 ∧ F s 5 ≤ 1000) ∧ ∀ j : Int, 0 ≤ j → j < F s 3 → -1000000 ≤ I (s + 2) j ∧ I (s + 2) j ≤ 1000000
/-- the fault is told, once -/
def zFl (F : Nat → Nat → Int) (I : Nat → Int → Int) (s : Nat) : Nat → Nat → Int := if F s 5 = -1 ∧ 0 ≤ F s 4 ∧ F s 4 < F s 3 then upF F s 5 (I (s + 1) (F s 4)) else F
def zTk (F : Nat → Nat → Int) (I : Nat → Int → Int) (s : Nat) (k : Int) : Nat → Nat → Int := if zAt F I s k then upF F s 4 (F s 4 + 1) else F
def zNd (F : Nat → Nat → Int) (I : Nat → Int → Int) (s : Nat) (k : Int) : Nat → Nat → Int := if zAt F I s k then upF F s 4 (F s 4 + 1) else zFl F I s
set_option maxHeartbeats 4000000 in
set_option maxRecDepth 100000 in
theorem ct_X7_charSort {E : xE} {z : Nat} {T : Nat → Nat × Int} {F : Nat → Nat → Int} {I : Nat → Int → Int} {P : Nat → Nat → Option Nat} {Y : Nat → Int → Option Nat}  {ch : Int} (hc : -2147483648 ≤ ch ∧ ch < 2147483648) : Ct E 0 mX7_charSort 0 0 [J ch] (z, T, F, I, P, Y) (xd (some (J (zCs ch))) (z, T, F, I, P, Y)) := by
  refine Ct.of [some (J ch)] kt_X7_charSort rfl (Nat.le_of_ble_eq_true rfl) rfl (fun d hd => ?_)
  generalize hX : xN E _ _ _ = X
  refine xg_iloadn 1 dX7_charSort_0 rfl rfl rfl ?_
  refine xg_bipush 3 dX7_charSort_1 rfl (by decide) ?_
  refine xg_iclt 15 6 dX7_charSort_3 rfl rfl (by omega) (fun hb3 => ?_) (fun hb3 => ?_)
  · skip
    refine xg_iloadn 16 dX7_charSort_15 rfl rfl rfl ?_
    refine xg_bipush 18 dX7_charSort_16 rfl (by decide) ?_
    refine xg_iclt 32 21 dX7_charSort_18 rfl rfl (by omega) (fun hb18 => ?_) (fun hb18 => ?_)
    · skip
      refine xg_bipush 34 dX7_charSort_32 rfl (by decide) ?_
      subst hX
      exact xg_ireturn dX7_charSort_34 rfl ⟨Nat.le_refl _, Nat.le_refl _⟩ ⟨by unfold zCs; first | (exfalso; omega) | rw [if_neg (by omega), if_neg (by omega)] | rw [if_neg (by omega), if_pos (by omega)], rfl⟩
    · skip
      refine xg_iloadn 22 dX7_charSort_21 rfl rfl rfl ?_
      refine xg_bipush 24 dX7_charSort_22 rfl (by decide) ?_
      refine xg_icgt 32 27 dX7_charSort_24 rfl rfl (by omega) (fun hb24 => ?_) (fun hb24 => ?_)
      · skip
        refine xg_bipush 34 dX7_charSort_32 rfl (by decide) ?_
        subst hX
        exact xg_ireturn dX7_charSort_34 rfl ⟨Nat.le_refl _, Nat.le_refl _⟩ ⟨by unfold zCs; first | (exfalso; omega) | rw [if_neg (by omega), if_neg (by omega)] | rw [if_neg (by omega), if_pos (by omega)], rfl⟩
      · skip
        refine xg_bipush 29 dX7_charSort_27 rfl (by decide) ?_
        refine xg_goto 34 dX7_charSort_29 rfl ?_
        subst hX
        exact xg_ireturn dX7_charSort_34 rfl ⟨Nat.le_refl _, Nat.le_refl _⟩ ⟨by unfold zCs; first | (exfalso; omega) | rw [if_neg (by omega), if_neg (by omega)] | rw [if_neg (by omega), if_pos (by omega)], rfl⟩
  · skip
    refine xg_iloadn 7 dX7_charSort_6 rfl rfl rfl ?_
    refine xg_bipush 9 dX7_charSort_7 rfl (by decide) ?_
    refine xg_icgt 15 12 dX7_charSort_9 rfl rfl (by omega) (fun hb9 => ?_) (fun hb9 => ?_)
    · skip
      refine xg_iloadn 16 dX7_charSort_15 rfl rfl rfl ?_
      refine xg_bipush 18 dX7_charSort_16 rfl (by decide) ?_
      refine xg_iclt 32 21 dX7_charSort_18 rfl rfl (by omega) (fun hb18 => ?_) (fun hb18 => ?_)
      · skip
        refine xg_bipush 34 dX7_charSort_32 rfl (by decide) ?_
        subst hX
        exact xg_ireturn dX7_charSort_34 rfl ⟨Nat.le_refl _, Nat.le_refl _⟩ ⟨by unfold zCs; first | (exfalso; omega) | rw [if_neg (by omega), if_neg (by omega)] | rw [if_neg (by omega), if_pos (by omega)], rfl⟩
      · skip
        refine xg_iloadn 22 dX7_charSort_21 rfl rfl rfl ?_
        refine xg_bipush 24 dX7_charSort_22 rfl (by decide) ?_
        refine xg_icgt 32 27 dX7_charSort_24 rfl rfl (by omega) (fun hb24 => ?_) (fun hb24 => ?_)
        · skip
          refine xg_bipush 34 dX7_charSort_32 rfl (by decide) ?_
          subst hX
          exact xg_ireturn dX7_charSort_34 rfl ⟨Nat.le_refl _, Nat.le_refl _⟩ ⟨by unfold zCs; first | (exfalso; omega) | rw [if_neg (by omega), if_neg (by omega)] | rw [if_neg (by omega), if_pos (by omega)], rfl⟩
        · skip
          refine xg_bipush 29 dX7_charSort_27 rfl (by decide) ?_
          refine xg_goto 34 dX7_charSort_29 rfl ?_
          subst hX
          exact xg_ireturn dX7_charSort_34 rfl ⟨Nat.le_refl _, Nat.le_refl _⟩ ⟨by unfold zCs; first | (exfalso; omega) | rw [if_neg (by omega), if_neg (by omega)] | rw [if_neg (by omega), if_pos (by omega)], rfl⟩
    · skip
      refine xg_bipush 14 dX7_charSort_12 rfl (by decide) ?_
      subst hX
      exact xg_ireturn dX7_charSort_14 rfl ⟨Nat.le_refl _, Nat.le_refl _⟩ ⟨by unfold zCs; rw [if_pos (by omega)], rfl⟩

set_option maxHeartbeats 4000000 in
set_option maxRecDepth 100000 in
theorem ct_X7_fail {E : xE} {z : Nat} {T : Nat → Nat × Int} {F : Nat → Nat → Int} {I : Nat → Int → Int} {P : Nat → Nat → Option Nat} {Y : Nat → Int → Option Nat} {s : Nat} (hs : wScn T P s) (hz : zOk F I s) : Ct E 0 mX7_fail 0 0 [.ref s] (z, T, F, I, P, Y) (xd (some (J 0)) (z, T, zFl F I s, I, P, Y)) := by
  obtain ⟨s0, ⟨p0, q0, r0⟩, ⟨p1, q1, r1⟩, -⟩ := id hs
  obtain ⟨⟨a1, a2⟩, ⟨a3, a4⟩, ⟨a5, a6⟩, a7⟩ := id hz
  refine Ct.of [some (.ref s)] kt_X7_fail rfl (Nat.le_of_ble_eq_true rfl) rfl (fun d hd => ?_)
  generalize hX : xN E _ _ _ = X
  refine xg_aloadn 1 dX7_fail_0 rfl rfl rfl ?_
  refine xg_getI 4 kf_RX7_21 dX7_fail_1 rfl s0 ?_
  refine xg_iconst 5 dX7_fail_4 rfl ?_
  refine xg_icne 39 8 dX7_fail_5 rfl rfl (by omega) (fun hb5 => ?_) (fun hb5 => ?_)
  · skip
    refine xg_iconst 40 dX7_fail_39 rfl ?_
    subst hX
    exact xg_zreturn dX7_fail_40 rfl (by first | exact bI_01 _ | omega) ⟨Nat.le_refl _, Nat.le_refl _⟩ ⟨rfl, by unfold zFl; first | rw [if_neg (by omega)] | rw [if_pos (by omega)]⟩
  · skip
    refine xg_aloadn 9 dX7_fail_8 rfl rfl rfl ?_
    refine xg_getI 12 kf_RX7_28 dX7_fail_9 rfl s0 ?_
    refine xg_iflt 39 15 dX7_fail_12 rfl rfl (by omega) (fun hb12 => ?_) (fun hb12 => ?_)
    · skip
      refine xg_iconst 40 dX7_fail_39 rfl ?_
      subst hX
      exact xg_zreturn dX7_fail_40 rfl (by first | exact bI_01 _ | omega) ⟨Nat.le_refl _, Nat.le_refl _⟩ ⟨rfl, by unfold zFl; first | rw [if_neg (by omega)] | rw [if_pos (by omega)]⟩
    · skip
      refine xg_aloadn 16 dX7_fail_15 rfl rfl rfl ?_
      refine xg_getI 19 kf_RX7_28 dX7_fail_16 rfl s0 ?_
      refine xg_aloadn 20 dX7_fail_19 rfl rfl rfl ?_
      refine xg_getI 23 kf_RX7_25 dX7_fail_20 rfl s0 ?_
      refine xg_icge 39 26 dX7_fail_23 rfl rfl (by omega) (fun hb23 => ?_) (fun hb23 => ?_)
      · skip
        refine xg_iconst 40 dX7_fail_39 rfl ?_
        subst hX
        exact xg_zreturn dX7_fail_40 rfl (by first | exact bI_01 _ | omega) ⟨Nat.le_refl _, Nat.le_refl _⟩ ⟨rfl, by unfold zFl; first | rw [if_neg (by omega)] | rw [if_pos (by omega)]⟩
      · skip
        refine xg_aloadn 27 dX7_fail_26 rfl rfl rfl ?_
        refine xg_aloadn 28 dX7_fail_27 rfl rfl rfl ?_
        refine xg_getP 31 kf_RX7_9 dX7_fail_28 rfl s0 p0 ?_
        refine xg_aloadn 32 dX7_fail_31 rfl rfl rfl ?_
        refine xg_getI 35 kf_RX7_28 dX7_fail_32 rfl s0 ?_
        refine xg_iald 36 dX7_fail_35 rfl q0 (by rw [r0]; omega) ?_
        refine xg_putI 39 kf_RX7_21 dX7_fail_36 rfl s0 ?_
        refine xg_iconst 40 dX7_fail_39 rfl ?_
        subst hX
        exact xg_zreturn dX7_fail_40 rfl (by first | exact bI_01 _ | omega) ⟨Nat.le_refl _, Nat.le_refl _⟩ ⟨rfl, by unfold zFl; first | rw [if_neg (by omega)] | rw [if_pos (by omega)]⟩

set_option maxHeartbeats 4000000 in
set_option maxRecDepth 100000 in
theorem ct_X7_is {E : xE} {z : Nat} {T : Nat → Nat × Int} {F : Nat → Nat → Int} {I : Nat → Int → Int} {P : Nat → Nat → Option Nat} {Y : Nat → Int → Option Nat} {s : Nat} {k : Int} (hs : wScn T P s) (hz : zOk F I s) (hk : -2147483648 ≤ k ∧ k < 2147483648) : Ct E 0 mX7_is 0 0 [.ref s, J k] (z, T, F, I, P, Y) (xd (some (J (bI (decide (zAt F I s k))))) (z, T, F, I, P, Y)) := by
  obtain ⟨s0, ⟨p0, q0, r0⟩, ⟨p1, q1, r1⟩, -⟩ := id hs
  obtain ⟨⟨a1, a2⟩, ⟨a3, a4⟩, ⟨a5, a6⟩, a7⟩ := id hz
  refine Ct.of [some (.ref s), some (J k)] kt_X7_is rfl (Nat.le_of_ble_eq_true rfl) rfl (fun d hd => ?_)
  generalize hX : xN E _ _ _ = X
  refine xg_aloadn 1 dX7_is_0 rfl rfl rfl ?_
  refine xg_getI 4 kf_RX7_28 dX7_is_1 rfl s0 ?_
  refine xg_iflt 35 7 dX7_is_4 rfl rfl (by omega) (fun hb4 => ?_) (fun hb4 => ?_)
  · skip
    refine xg_iconst 36 dX7_is_35 rfl ?_
    subst hX
    exact xg_zreturn dX7_is_36 rfl (by first | exact bI_01 _ | omega) ⟨Nat.le_refl _, Nat.le_refl _⟩ ⟨congrArg (fun v => some (J v)) (by first | exact (bI_t (by omega)).symm | exact (bI_f (by omega)).symm), rfl⟩
  · skip
    refine xg_aloadn 8 dX7_is_7 rfl rfl rfl ?_
    refine xg_getI 11 kf_RX7_28 dX7_is_8 rfl s0 ?_
    refine xg_aloadn 12 dX7_is_11 rfl rfl rfl ?_
    refine xg_getI 15 kf_RX7_25 dX7_is_12 rfl s0 ?_
    refine xg_icge 35 18 dX7_is_15 rfl rfl (by omega) (fun hb15 => ?_) (fun hb15 => ?_)
    · skip
      refine xg_iconst 36 dX7_is_35 rfl ?_
      subst hX
      exact xg_zreturn dX7_is_36 rfl (by first | exact bI_01 _ | omega) ⟨Nat.le_refl _, Nat.le_refl _⟩ ⟨congrArg (fun v => some (J v)) (by first | exact (bI_t (by omega)).symm | exact (bI_f (by omega)).symm), rfl⟩
    · skip
      refine xg_aloadn 19 dX7_is_18 rfl rfl rfl ?_
      refine xg_getP 22 kf_RX7_15 dX7_is_19 rfl s0 p1 ?_
      refine xg_aloadn 23 dX7_is_22 rfl rfl rfl ?_
      refine xg_getI 26 kf_RX7_28 dX7_is_23 rfl s0 ?_
      refine xg_iald 27 dX7_is_26 rfl q1 (by rw [r1]; omega) ?_
      refine xg_iloadn 28 dX7_is_27 rfl rfl rfl ?_
      refine xg_icne 35 31 dX7_is_28 rfl rfl (by have := a7 (F s 4) (by omega) (by omega); omega) (fun hb28 => ?_) (fun hb28 => ?_)
      · skip
        refine xg_iconst 36 dX7_is_35 rfl ?_
        subst hX
        exact xg_zreturn dX7_is_36 rfl (by first | exact bI_01 _ | omega) ⟨Nat.le_refl _, Nat.le_refl _⟩ ⟨congrArg (fun v => some (J v)) (by first | exact (bI_t (by omega)).symm | exact (bI_f (by omega)).symm), rfl⟩
      · skip
        refine xg_iconst 32 dX7_is_31 rfl ?_
        refine xg_goto 36 dX7_is_32 rfl ?_
        subst hX
        exact xg_zreturn dX7_is_36 rfl (by first | exact bI_01 _ | omega) ⟨Nat.le_refl _, Nat.le_refl _⟩ ⟨congrArg (fun v => some (J v)) (by first | exact (bI_t (by omega)).symm | exact (bI_f (by omega)).symm), rfl⟩

set_option maxHeartbeats 4000000 in
set_option maxRecDepth 100000 in
theorem ct_X7_takes {E : xE} {z : Nat} {T : Nat → Nat × Int} {F : Nat → Nat → Int} {I : Nat → Int → Int} {P : Nat → Nat → Option Nat} {Y : Nat → Int → Option Nat} {s : Nat} {k : Int} (hs : wScn T P s) (hz : zOk F I s) (hk : -2147483648 ≤ k ∧ k < 2147483648) : Ct E 0 mX7_takes 0 0 [.ref s, J k] (z, T, F, I, P, Y) (xd (some (J (bI (decide (zAt F I s k))))) (z, T, zTk F I s k, I, P, Y)) := by
  obtain ⟨s0, ⟨p0, q0, r0⟩, ⟨p1, q1, r1⟩, -⟩ := id hs
  obtain ⟨⟨a1, a2⟩, ⟨a3, a4⟩, ⟨a5, a6⟩, a7⟩ := id hz
  refine Ct.of [some (.ref s), some (J k)] kt_X7_takes rfl (Nat.le_of_ble_eq_true rfl) rfl (fun d hd => ?_)
  generalize hX : xN E _ _ _ = X
  refine xg_aloadn 1 dX7_takes_0 rfl rfl rfl ?_
  refine xg_getI 4 kf_RX7_28 dX7_takes_1 rfl s0 ?_
  refine xg_iflt 31 7 dX7_takes_4 rfl rfl (by omega) (fun hb4 => ?_) (fun hb4 => ?_)
  · skip
    refine xg_iconst 32 dX7_takes_31 rfl ?_
    subst hX
    exact xg_zreturn dX7_takes_32 rfl (by first | exact bI_01 _ | omega) ⟨Nat.le_refl _, Nat.le_refl _⟩ ⟨congrArg (fun v => some (J v)) (by first | exact (bI_t (by omega)).symm | exact (bI_f (by omega)).symm), by unfold zTk; rw [if_neg (by omega)]⟩
  · skip
    refine xg_aloadn 8 dX7_takes_7 rfl rfl rfl ?_
    refine xg_getI 11 kf_RX7_28 dX7_takes_8 rfl s0 ?_
    refine xg_aloadn 12 dX7_takes_11 rfl rfl rfl ?_
    refine xg_getI 15 kf_RX7_25 dX7_takes_12 rfl s0 ?_
    refine xg_icge 31 18 dX7_takes_15 rfl rfl (by omega) (fun hb15 => ?_) (fun hb15 => ?_)
    · skip
      refine xg_iconst 32 dX7_takes_31 rfl ?_
      subst hX
      exact xg_zreturn dX7_takes_32 rfl (by first | exact bI_01 _ | omega) ⟨Nat.le_refl _, Nat.le_refl _⟩ ⟨congrArg (fun v => some (J v)) (by first | exact (bI_t (by omega)).symm | exact (bI_f (by omega)).symm), by unfold zTk; rw [if_neg (by omega)]⟩
    · skip
      refine xg_aloadn 19 dX7_takes_18 rfl rfl rfl ?_
      refine xg_getP 22 kf_RX7_15 dX7_takes_19 rfl s0 p1 ?_
      refine xg_aloadn 23 dX7_takes_22 rfl rfl rfl ?_
      refine xg_getI 26 kf_RX7_28 dX7_takes_23 rfl s0 ?_
      refine xg_iald 27 dX7_takes_26 rfl q1 (by rw [r1]; omega) ?_
      refine xg_iloadn 28 dX7_takes_27 rfl rfl rfl ?_
      refine xg_iceq 33 31 dX7_takes_28 rfl rfl (by have := a7 (F s 4) (by omega) (by omega); omega) (fun hb28 => ?_) (fun hb28 => ?_)
      · skip
        refine xg_aloadn 34 dX7_takes_33 rfl rfl rfl ?_
        refine xg_dup 35 dX7_takes_34 rfl rfl ?_
        refine xg_getI 38 kf_RX7_28 dX7_takes_35 rfl s0 ?_
        refine xg_iconst 39 dX7_takes_38 rfl ?_
        refine xg_iadd 40 dX7_takes_39 rfl ?_
        refine xg_putI 43 kf_RX7_28 dX7_takes_40 rfl s0 ?_
        refine xg_iconst 44 dX7_takes_43 rfl ?_
        subst hX
        exact xg_zreturn dX7_takes_44 rfl (by first | exact bI_01 _ | omega) ⟨Nat.le_refl _, Nat.le_refl _⟩ ⟨congrArg (fun v => some (J v)) (by first | exact (bI_t (by omega)).symm | exact (bI_f (by omega)).symm), by unfold zTk; rw [if_pos (by omega)]⟩
      · skip
        refine xg_iconst 32 dX7_takes_31 rfl ?_
        subst hX
        exact xg_zreturn dX7_takes_32 rfl (by first | exact bI_01 _ | omega) ⟨Nat.le_refl _, Nat.le_refl _⟩ ⟨congrArg (fun v => some (J v)) (by first | exact (bI_t (by omega)).symm | exact (bI_f (by omega)).symm), by unfold zTk; rw [if_neg (by omega)]⟩

set_option maxHeartbeats 4000000 in
set_option maxRecDepth 100000 in
theorem ct_X7_needs {E : xE} {z : Nat} {T : Nat → Nat × Int} {F : Nat → Nat → Int} {I : Nat → Int → Int} {P : Nat → Nat → Option Nat} {Y : Nat → Int → Option Nat} {s : Nat} {k : Int} (hs : wScn T P s) (hz : zOk F I s) (hk : -2147483648 ≤ k ∧ k < 2147483648) : Ct E 1 mX7_needs 0 0 [.ref s, J k] (z, T, F, I, P, Y) (xd (some (J (bI (decide (zAt F I s k))))) (z, T, zNd F I s k, I, P, Y)) := by
  obtain ⟨s0, ⟨p0, q0, r0⟩, ⟨p1, q1, r1⟩, -⟩ := id hs
  obtain ⟨⟨a1, a2⟩, ⟨a3, a4⟩, ⟨a5, a6⟩, a7⟩ := id hz
  refine Ct.of [some (.ref s), some (J k)] kt_X7_needs rfl (Nat.le_of_ble_eq_true rfl) rfl (fun d hd => ?_)
  generalize hX : xN E _ _ _ = X
  refine xg_aloadn 1 dX7_needs_0 rfl rfl rfl ?_
  refine xg_iloadn 2 dX7_needs_1 rfl rfl rfl ?_
  refine xg_callV 5 7 [_] _ kv_X7_takes ⟨_, _, rfl⟩ kl_RX7_64 dX7_needs_2 rfl s0 (by omega) rfl rfl (Nat.le_of_ble_eq_true rfl) (by omega) ⟨Nat.le_refl _, Nat.le_refl _⟩ (ct_X7_takes hs hz hk) rfl ?_
  refine xg_dne 15 8 dX7_needs_5 rfl rfl (fun hb5 => ?_) (fun hb5 => ?_)
  · skip
    refine xg_iconst 16 dX7_needs_15 rfl ?_
    refine xg_goto 20 dX7_needs_16 rfl ?_
    subst hX
    exact xg_zreturn dX7_needs_20 rfl (by first | exact bI_01 _ | omega) ⟨Nat.le_refl _, Nat.le_refl _⟩ ⟨congrArg (fun v => some (J v)) (by first | exact (bI_t (by omega)).symm | exact (bI_f (by omega)).symm), by unfold zNd; first | rw [if_neg (by assumption)] | (unfold zTk; rw [if_pos (by assumption), if_pos (by assumption)])⟩
  · skip
    refine xg_aloadn 9 dX7_needs_8 rfl rfl rfl ?_
    rw [show zTk F I s k = F from if_neg hb5]
    refine xg_callV 12 7 [] _ kv_X7_fail ⟨_, _, rfl⟩ kl_RX7_68 dX7_needs_9 rfl s0 (by omega) rfl rfl (Nat.le_of_ble_eq_true rfl) (by omega) ⟨Nat.le_refl _, Nat.le_refl _⟩ (ct_X7_fail hs hz) rfl ?_
    refine xg_ifeq 19 15 dX7_needs_12 rfl rfl (by omega) (fun hb12 => ?_) (fun hb12 => ?_)
    · skip
      refine xg_iconst 20 dX7_needs_19 rfl ?_
      subst hX
      exact xg_zreturn dX7_needs_20 rfl (by first | exact bI_01 _ | omega) ⟨Nat.le_refl _, Nat.le_refl _⟩ ⟨congrArg (fun v => some (J v)) (by first | exact (bI_t (by omega)).symm | exact (bI_f (by omega)).symm), by unfold zNd; first | rw [if_neg (by assumption)] | (unfold zTk; rw [if_pos (by assumption), if_pos (by assumption)])⟩
    · exfalso; omega

