theorem dX7_takesFrom_0 : decode cX7_takesFrom 0 = .ok (.aload_n 0, 1) := by decide +kernel
theorem dX7_takesFrom_1 : decode cX7_takesFrom 1 = .ok (.getfield 28, 3) := by decide +kernel
theorem dX7_takesFrom_4 : decode cX7_takesFrom 4 = .ok (.ifCond .lt 40, 3) := by decide +kernel
theorem dX7_takesFrom_7 : decode cX7_takesFrom 7 = .ok (.aload_n 0, 1) := by decide +kernel
theorem dX7_takesFrom_8 : decode cX7_takesFrom 8 = .ok (.getfield 28, 3) := by decide +kernel
theorem dX7_takesFrom_11 : decode cX7_takesFrom 11 = .ok (.aload_n 0, 1) := by decide +kernel
theorem dX7_takesFrom_12 : decode cX7_takesFrom 12 = .ok (.getfield 25, 3) := by decide +kernel
theorem dX7_takesFrom_15 : decode cX7_takesFrom 15 = .ok (.if_icmp .ge 29, 3) := by decide +kernel
theorem dX7_takesFrom_18 : decode cX7_takesFrom 18 = .ok (.aload_n 0, 1) := by decide +kernel
theorem dX7_takesFrom_19 : decode cX7_takesFrom 19 = .ok (.getfield 15, 3) := by decide +kernel
theorem dX7_takesFrom_22 : decode cX7_takesFrom 22 = .ok (.aload_n 0, 1) := by decide +kernel
theorem dX7_takesFrom_23 : decode cX7_takesFrom 23 = .ok (.getfield 28, 3) := by decide +kernel
theorem dX7_takesFrom_26 : decode cX7_takesFrom 26 = .ok (.iaload, 1) := by decide +kernel
theorem dX7_takesFrom_27 : decode cX7_takesFrom 27 = .ok (.iload_n 1, 1) := by decide +kernel
theorem dX7_takesFrom_28 : decode cX7_takesFrom 28 = .ok (.if_icmp .lt 16, 3) := by decide +kernel
theorem dX7_takesFrom_31 : decode cX7_takesFrom 31 = .ok (.aload_n 0, 1) := by decide +kernel
theorem dX7_takesFrom_32 : decode cX7_takesFrom 32 = .ok (.getfield 15, 3) := by decide +kernel
theorem dX7_takesFrom_35 : decode cX7_takesFrom 35 = .ok (.aload_n 0, 1) := by decide +kernel
theorem dX7_takesFrom_36 : decode cX7_takesFrom 36 = .ok (.getfield 28, 3) := by decide +kernel
theorem dX7_takesFrom_39 : decode cX7_takesFrom 39 = .ok (.iaload, 1) := by decide +kernel
theorem dX7_takesFrom_40 : decode cX7_takesFrom 40 = .ok (.iload_n 2, 1) := by decide +kernel
theorem dX7_takesFrom_41 : decode cX7_takesFrom 41 = .ok (.if_icmp .le 5, 3) := by decide +kernel
theorem dX7_takesFrom_44 : decode cX7_takesFrom 44 = .ok (.iconst (-1), 1) := by decide +kernel
theorem dX7_takesFrom_45 : decode cX7_takesFrom 45 = .ok (.ireturn, 1) := by decide +kernel
theorem dX7_takesFrom_46 : decode cX7_takesFrom 46 = .ok (.aload_n 0, 1) := by decide +kernel
theorem dX7_takesFrom_47 : decode cX7_takesFrom 47 = .ok (.dup, 1) := by decide +kernel
theorem dX7_takesFrom_48 : decode cX7_takesFrom 48 = .ok (.getfield 28, 3) := by decide +kernel
theorem dX7_takesFrom_51 : decode cX7_takesFrom 51 = .ok (.iconst 1, 1) := by decide +kernel
theorem dX7_takesFrom_52 : decode cX7_takesFrom 52 = .ok (.iadd, 1) := by decide +kernel
theorem dX7_takesFrom_53 : decode cX7_takesFrom 53 = .ok (.putfield 28, 3) := by decide +kernel
theorem dX7_takesFrom_56 : decode cX7_takesFrom 56 = .ok (.aload_n 0, 1) := by decide +kernel
theorem dX7_takesFrom_57 : decode cX7_takesFrom 57 = .ok (.getfield 15, 3) := by decide +kernel
theorem dX7_takesFrom_60 : decode cX7_takesFrom 60 = .ok (.aload_n 0, 1) := by decide +kernel
theorem dX7_takesFrom_61 : decode cX7_takesFrom 61 = .ok (.getfield 28, 3) := by decide +kernel
theorem dX7_takesFrom_64 : decode cX7_takesFrom 64 = .ok (.iconst 1, 1) := by decide +kernel
theorem dX7_takesFrom_65 : decode cX7_takesFrom 65 = .ok (.isub, 1) := by decide +kernel
theorem dX7_takesFrom_66 : decode cX7_takesFrom 66 = .ok (.iaload, 1) := by decide +kernel
theorem dX7_takesFrom_67 : decode cX7_takesFrom 67 = .ok (.ireturn, 1) := by decide +kernel
theorem dX7_needsNumber_0 : decode cX7_needsNumber 0 = .ok (.aload_n 0, 1) := by decide +kernel
theorem dX7_needsNumber_1 : decode cX7_needsNumber 1 = .ok (.getfield 28, 3) := by decide +kernel
theorem dX7_needsNumber_4 : decode cX7_needsNumber 4 = .ok (.ifCond .lt 14, 3) := by decide +kernel
theorem dX7_needsNumber_7 : decode cX7_needsNumber 7 = .ok (.aload_n 0, 1) := by decide +kernel
theorem dX7_needsNumber_8 : decode cX7_needsNumber 8 = .ok (.getfield 28, 3) := by decide +kernel
theorem dX7_needsNumber_11 : decode cX7_needsNumber 11 = .ok (.aload_n 0, 1) := by decide +kernel
theorem dX7_needsNumber_12 : decode cX7_needsNumber 12 = .ok (.getfield 25, 3) := by decide +kernel
theorem dX7_needsNumber_15 : decode cX7_needsNumber 15 = .ok (.if_icmp .lt 5, 3) := by decide +kernel
theorem dX7_needsNumber_18 : decode cX7_needsNumber 18 = .ok (.iconst (-1), 1) := by decide +kernel
theorem dX7_needsNumber_19 : decode cX7_needsNumber 19 = .ok (.ireturn, 1) := by decide +kernel
theorem dX7_needsNumber_20 : decode cX7_needsNumber 20 = .ok (.aload_n 0, 1) := by decide +kernel
theorem dX7_needsNumber_21 : decode cX7_needsNumber 21 = .ok (.getfield 15, 3) := by decide +kernel
theorem dX7_needsNumber_24 : decode cX7_needsNumber 24 = .ok (.aload_n 0, 1) := by decide +kernel
theorem dX7_needsNumber_25 : decode cX7_needsNumber 25 = .ok (.getfield 28, 3) := by decide +kernel
theorem dX7_needsNumber_28 : decode cX7_needsNumber 28 = .ok (.iaload, 1) := by decide +kernel
theorem dX7_needsNumber_29 : decode cX7_needsNumber 29 = .ok (.bipush 51, 2) := by decide +kernel
theorem dX7_needsNumber_31 : decode cX7_needsNumber 31 = .ok (.if_icmp .ne 29, 3) := by decide +kernel
theorem dX7_needsNumber_34 : decode cX7_needsNumber 34 = .ok (.aload_n 0, 1) := by decide +kernel
theorem dX7_needsNumber_35 : decode cX7_needsNumber 35 = .ok (.getfield 18, 3) := by decide +kernel
theorem dX7_needsNumber_38 : decode cX7_needsNumber 38 = .ok (.aload_n 0, 1) := by decide +kernel
theorem dX7_needsNumber_39 : decode cX7_needsNumber 39 = .ok (.getfield 28, 3) := by decide +kernel
theorem dX7_needsNumber_42 : decode cX7_needsNumber 42 = .ok (.iaload, 1) := by decide +kernel
theorem dX7_needsNumber_43 : decode cX7_needsNumber 43 = .ok (.iload_n 1, 1) := by decide +kernel
theorem dX7_needsNumber_44 : decode cX7_needsNumber 44 = .ok (.if_icmp .lt 16, 3) := by decide +kernel
theorem dX7_needsNumber_47 : decode cX7_needsNumber 47 = .ok (.aload_n 0, 1) := by decide +kernel
theorem dX7_needsNumber_48 : decode cX7_needsNumber 48 = .ok (.getfield 18, 3) := by decide +kernel
theorem dX7_needsNumber_51 : decode cX7_needsNumber 51 = .ok (.aload_n 0, 1) := by decide +kernel
theorem dX7_needsNumber_52 : decode cX7_needsNumber 52 = .ok (.getfield 28, 3) := by decide +kernel
theorem dX7_needsNumber_55 : decode cX7_needsNumber 55 = .ok (.iaload, 1) := by decide +kernel
theorem dX7_needsNumber_56 : decode cX7_needsNumber 56 = .ok (.iload_n 2, 1) := by decide +kernel
theorem dX7_needsNumber_57 : decode cX7_needsNumber 57 = .ok (.if_icmp .le 18, 3) := by decide +kernel
theorem dX7_needsNumber_60 : decode cX7_needsNumber 60 = .ok (.aload_n 0, 1) := by decide +kernel
theorem dX7_needsNumber_61 : decode cX7_needsNumber 61 = .ok (.aload_n 0, 1) := by decide +kernel
theorem dX7_needsNumber_62 : decode cX7_needsNumber 62 = .ok (.getfield 9, 3) := by decide +kernel
theorem dX7_needsNumber_65 : decode cX7_needsNumber 65 = .ok (.aload_n 0, 1) := by decide +kernel
theorem dX7_needsNumber_66 : decode cX7_needsNumber 66 = .ok (.getfield 28, 3) := by decide +kernel
theorem dX7_needsNumber_69 : decode cX7_needsNumber 69 = .ok (.iaload, 1) := by decide +kernel
theorem dX7_needsNumber_70 : decode cX7_needsNumber 70 = .ok (.putfield 21, 3) := by decide +kernel
theorem dX7_needsNumber_73 : decode cX7_needsNumber 73 = .ok (.iconst (-1), 1) := by decide +kernel
theorem dX7_needsNumber_74 : decode cX7_needsNumber 74 = .ok (.ireturn, 1) := by decide +kernel
theorem dX7_needsNumber_75 : decode cX7_needsNumber 75 = .ok (.aload_n 0, 1) := by decide +kernel
theorem dX7_needsNumber_76 : decode cX7_needsNumber 76 = .ok (.dup, 1) := by decide +kernel
theorem dX7_needsNumber_77 : decode cX7_needsNumber 77 = .ok (.getfield 28, 3) := by decide +kernel
theorem dX7_needsNumber_80 : decode cX7_needsNumber 80 = .ok (.iconst 1, 1) := by decide +kernel
theorem dX7_needsNumber_81 : decode cX7_needsNumber 81 = .ok (.iadd, 1) := by decide +kernel
theorem dX7_needsNumber_82 : decode cX7_needsNumber 82 = .ok (.putfield 28, 3) := by decide +kernel
theorem dX7_needsNumber_85 : decode cX7_needsNumber 85 = .ok (.aload_n 0, 1) := by decide +kernel
theorem dX7_needsNumber_86 : decode cX7_needsNumber 86 = .ok (.getfield 18, 3) := by decide +kernel
theorem dX7_needsNumber_89 : decode cX7_needsNumber 89 = .ok (.aload_n 0, 1) := by decide +kernel
theorem dX7_needsNumber_90 : decode cX7_needsNumber 90 = .ok (.getfield 28, 3) := by decide +kernel
theorem dX7_needsNumber_93 : decode cX7_needsNumber 93 = .ok (.iconst 1, 1) := by decide +kernel
theorem dX7_needsNumber_94 : decode cX7_needsNumber 94 = .ok (.isub, 1) := by decide +kernel
theorem dX7_needsNumber_95 : decode cX7_needsNumber 95 = .ok (.iaload, 1) := by decide +kernel
theorem dX7_needsNumber_96 : decode cX7_needsNumber 96 = .ok (.ireturn, 1) := by decide +kernel
/-- the scan at s stands at a token whose sort lies between lo and hi -/
abbrev zFr (F : Nat → Nat → Int) (I : Nat → Int → Int) (s : Nat) (lo hi : Int) : Prop := 0 ≤ F s 4 ∧ F s 4 < F s 3 ∧ lo ≤ I (s + 2) (F s 4) ∧ I (s + 2) (F s 4) ≤ hi
def zFrF (F : Nat → Nat → Int) (I : Nat → Int → Int) (s : Nat) (lo hi : Int) : Nat → Nat → Int := if zFr F I s lo hi then upF F s 4 (F s 4 + 1) else F
def zFrA (F : Nat → Nat → Int) (I : Nat → Int → Int) (s : Nat) (lo hi : Int) : Int := if zFr F I s lo hi then I (s + 2) (F s 4) else -1
/-- at a number between lo and hi -/
abbrev zNb (F : Nat → Nat → Int) (I : Nat → Int → Int) (s : Nat) (lo hi : Int) : Prop := I (s + 2) (F s 4) = 51 ∧ lo ≤ I (s + 3) (F s 4) ∧ I (s + 3) (F s 4) ≤ hi
def zNbF (F : Nat → Nat → Int) (I : Nat → Int → Int) (s : Nat) (lo hi : Int) : Nat → Nat → Int := if ¬ (0 ≤ F s 4 ∧ F s 4 < F s 3) then F else if zNb F I s lo hi then upF F s 4 (F s 4 + 1) else upF F s 5 (I (s + 1) (F s 4))
def zNbA (F : Nat → Nat → Int) (I : Nat → Int → Int) (s : Nat) (lo hi : Int) : Int := if ¬ (0 ≤ F s 4 ∧ F s 4 < F s 3) then -1 else if zNb F I s lo hi then I (s + 3) (F s 4) else -1
set_option maxHeartbeats 4000000 in
set_option maxRecDepth 100000 in
theorem ct_X7_takesFrom {E : xE} {z : Nat} {T : Nat → Nat × Int} {F : Nat → Nat → Int} {I : Nat → Int → Int} {P : Nat → Nat → Option Nat} {Y : Nat → Int → Option Nat} {s : Nat} {lo hi : Int} (hs : wScn T P s) (hz : zOk F I s) (hk : -1000 ≤ lo ∧ lo ≤ 1000 ∧ -1000 ≤ hi ∧ hi ≤ 1000) : Ct E 0 mX7_takesFrom 0 0 [.ref s, J lo, J hi] (z, T, F, I, P, Y) (xd (some (J (zFrA F I s lo hi))) (z, T, zFrF F I s lo hi, I, P, Y)) := by
  obtain ⟨s0, ⟨p0, q0, r0⟩, ⟨p1, q1, r1⟩, p2, q2, r2⟩ := id hs
  obtain ⟨⟨a1, a2⟩, ⟨a3, a4⟩, ⟨a5, a6⟩, a7⟩ := id hz
  refine Ct.of [some (.ref s), some (J lo), some (J hi)] kt_X7_takesFrom rfl (Nat.le_of_ble_eq_true rfl) rfl (fun d hd => ?_)
  generalize hX : xN E _ _ _ = X
  refine xg_aloadn 1 dX7_takesFrom_0 rfl rfl rfl ?_
  refine xg_getI 4 kf_RX7_28 dX7_takesFrom_1 rfl s0 ?_
  refine xg_iflt 44 7 dX7_takesFrom_4 rfl rfl (by omega) (fun hb4 => ?_) (fun hb4 => ?_)
  · skip
    refine xg_iconst 45 dX7_takesFrom_44 rfl ?_
    subst hX
    exact xg_ireturn dX7_takesFrom_45 rfl ⟨Nat.le_refl _, Nat.le_refl _⟩ ⟨by unfold zFrA; rw [if_neg (by omega)], by unfold zFrF; rw [if_neg (by omega)]⟩
  · skip
    refine xg_aloadn 8 dX7_takesFrom_7 rfl rfl rfl ?_
    refine xg_getI 11 kf_RX7_28 dX7_takesFrom_8 rfl s0 ?_
    refine xg_aloadn 12 dX7_takesFrom_11 rfl rfl rfl ?_
    refine xg_getI 15 kf_RX7_25 dX7_takesFrom_12 rfl s0 ?_
    refine xg_icge 44 18 dX7_takesFrom_15 rfl rfl (by omega) (fun hb15 => ?_) (fun hb15 => ?_)
    · skip
      refine xg_iconst 45 dX7_takesFrom_44 rfl ?_
      subst hX
      exact xg_ireturn dX7_takesFrom_45 rfl ⟨Nat.le_refl _, Nat.le_refl _⟩ ⟨by unfold zFrA; rw [if_neg (by omega)], by unfold zFrF; rw [if_neg (by omega)]⟩
    · skip
      refine xg_aloadn 19 dX7_takesFrom_18 rfl rfl rfl ?_
      refine xg_getP 22 kf_RX7_15 dX7_takesFrom_19 rfl s0 p1 ?_
      refine xg_aloadn 23 dX7_takesFrom_22 rfl rfl rfl ?_
      refine xg_getI 26 kf_RX7_28 dX7_takesFrom_23 rfl s0 ?_
      refine xg_iald 27 dX7_takesFrom_26 rfl q1 (by rw [r1]; omega) ?_
      refine xg_iloadn 28 dX7_takesFrom_27 rfl rfl rfl ?_
      refine xg_iclt 44 31 dX7_takesFrom_28 rfl rfl (by have := a7 (F s 4) (by omega) (by omega); omega) (fun hb28 => ?_) (fun hb28 => ?_)
      · skip
        refine xg_iconst 45 dX7_takesFrom_44 rfl ?_
        subst hX
        exact xg_ireturn dX7_takesFrom_45 rfl ⟨Nat.le_refl _, Nat.le_refl _⟩ ⟨by unfold zFrA; rw [if_neg (by omega)], by unfold zFrF; rw [if_neg (by omega)]⟩
      · skip
        refine xg_aloadn 32 dX7_takesFrom_31 rfl rfl rfl ?_
        refine xg_getP 35 kf_RX7_15 dX7_takesFrom_32 rfl s0 p1 ?_
        refine xg_aloadn 36 dX7_takesFrom_35 rfl rfl rfl ?_
        refine xg_getI 39 kf_RX7_28 dX7_takesFrom_36 rfl s0 ?_
        refine xg_iald 40 dX7_takesFrom_39 rfl q1 (by rw [r1]; omega) ?_
        refine xg_iloadn 41 dX7_takesFrom_40 rfl rfl rfl ?_
        refine xg_icle 46 44 dX7_takesFrom_41 rfl rfl (by have := a7 (F s 4) (by omega) (by omega); omega) (fun hb41 => ?_) (fun hb41 => ?_)
        · skip
          refine xg_aloadn 47 dX7_takesFrom_46 rfl rfl rfl ?_
          refine xg_dup 48 dX7_takesFrom_47 rfl rfl ?_
          refine xg_getI 51 kf_RX7_28 dX7_takesFrom_48 rfl s0 ?_
          refine xg_iconst 52 dX7_takesFrom_51 rfl ?_
          refine xg_iadd 53 dX7_takesFrom_52 rfl ?_
          refine xg_putI 56 kf_RX7_28 dX7_takesFrom_53 rfl s0 ?_
          refine xg_aloadn 57 dX7_takesFrom_56 rfl rfl rfl ?_
          refine xg_getP 60 kf_RX7_15 dX7_takesFrom_57 rfl s0 p1 ?_
          refine xg_aloadn 61 dX7_takesFrom_60 rfl rfl rfl ?_
          refine xg_getI 64 kf_RX7_28 dX7_takesFrom_61 rfl s0 ?_
          rw [upF_at]
          refine xg_iconst 65 dX7_takesFrom_64 rfl ?_
          refine xg_isub 66 dX7_takesFrom_65 rfl ?_
          rw [show F s 4 + 1 - 1 = F s 4 by omega]
          refine xg_iald 67 dX7_takesFrom_66 rfl q1 (by rw [r1]; omega) ?_
          subst hX
          exact xg_ireturn dX7_takesFrom_67 rfl ⟨Nat.le_refl _, Nat.le_refl _⟩ ⟨by unfold zFrA; rw [if_pos (by omega)], by unfold zFrF; rw [if_pos (by omega)]⟩
        · skip
          refine xg_iconst 45 dX7_takesFrom_44 rfl ?_
          subst hX
          exact xg_ireturn dX7_takesFrom_45 rfl ⟨Nat.le_refl _, Nat.le_refl _⟩ ⟨by unfold zFrA; rw [if_neg (by omega)], by unfold zFrF; rw [if_neg (by omega)]⟩

set_option maxHeartbeats 4000000 in
set_option maxRecDepth 100000 in
theorem ct_X7_needsNumber {E : xE} {z : Nat} {T : Nat → Nat × Int} {F : Nat → Nat → Int} {I : Nat → Int → Int} {P : Nat → Nat → Option Nat} {Y : Nat → Int → Option Nat} {s : Nat} {lo hi : Int} (hs : wScn T P s) (hz : zOk F I s) (a8 : ∀ j : Int, 0 ≤ j → j < F s 3 → -1000000 ≤ I (s + 3) j ∧ I (s + 3) j ≤ 1000000) (hk : -1000 ≤ lo ∧ lo ≤ 1000 ∧ -1000 ≤ hi ∧ hi ≤ 1000) : Ct E 0 mX7_needsNumber 0 0 [.ref s, J lo, J hi] (z, T, F, I, P, Y) (xd (some (J (zNbA F I s lo hi))) (z, T, zNbF F I s lo hi, I, P, Y)) := by
  obtain ⟨s0, ⟨p0, q0, r0⟩, ⟨p1, q1, r1⟩, p2, q2, r2⟩ := id hs
  obtain ⟨⟨a1, a2⟩, ⟨a3, a4⟩, ⟨a5, a6⟩, a7⟩ := id hz
  refine Ct.of [some (.ref s), some (J lo), some (J hi)] kt_X7_needsNumber rfl (Nat.le_of_ble_eq_true rfl) rfl (fun d hd => ?_)
  generalize hX : xN E _ _ _ = X
  refine xg_aloadn 1 dX7_needsNumber_0 rfl rfl rfl ?_
  refine xg_getI 4 kf_RX7_28 dX7_needsNumber_1 rfl s0 ?_
  refine xg_iflt 18 7 dX7_needsNumber_4 rfl rfl (by omega) (fun hb4 => ?_) (fun hb4 => ?_)
  · skip
    refine xg_iconst 19 dX7_needsNumber_18 rfl ?_
    subst hX
    exact xg_ireturn dX7_needsNumber_19 rfl ⟨Nat.le_refl _, Nat.le_refl _⟩ ⟨by unfold zNbA; rw [if_pos (by omega)], by unfold zNbF; rw [if_pos (by omega)]⟩
  · skip
    refine xg_aloadn 8 dX7_needsNumber_7 rfl rfl rfl ?_
    refine xg_getI 11 kf_RX7_28 dX7_needsNumber_8 rfl s0 ?_
    refine xg_aloadn 12 dX7_needsNumber_11 rfl rfl rfl ?_
    refine xg_getI 15 kf_RX7_25 dX7_needsNumber_12 rfl s0 ?_
    refine xg_iclt 20 18 dX7_needsNumber_15 rfl rfl (by omega) (fun hb15 => ?_) (fun hb15 => ?_)
    · skip
      refine xg_aloadn 21 dX7_needsNumber_20 rfl rfl rfl ?_
      refine xg_getP 24 kf_RX7_15 dX7_needsNumber_21 rfl s0 p1 ?_
      refine xg_aloadn 25 dX7_needsNumber_24 rfl rfl rfl ?_
      refine xg_getI 28 kf_RX7_28 dX7_needsNumber_25 rfl s0 ?_
      refine xg_iald 29 dX7_needsNumber_28 rfl q1 (by rw [r1]; omega) ?_
      refine xg_bipush 31 dX7_needsNumber_29 rfl (by decide) ?_
      refine xg_icne 60 34 dX7_needsNumber_31 rfl rfl (by have := a7 (F s 4) (by omega) (by omega); omega) (fun hb31 => ?_) (fun hb31 => ?_)
      · skip
        refine xg_aloadn 61 dX7_needsNumber_60 rfl rfl rfl ?_
        refine xg_aloadn 62 dX7_needsNumber_61 rfl rfl rfl ?_
        refine xg_getP 65 kf_RX7_9 dX7_needsNumber_62 rfl s0 p0 ?_
        refine xg_aloadn 66 dX7_needsNumber_65 rfl rfl rfl ?_
        refine xg_getI 69 kf_RX7_28 dX7_needsNumber_66 rfl s0 ?_
        refine xg_iald 70 dX7_needsNumber_69 rfl q0 (by rw [r0]; omega) ?_
        refine xg_putI 73 kf_RX7_21 dX7_needsNumber_70 rfl s0 ?_
        refine xg_iconst 74 dX7_needsNumber_73 rfl ?_
        subst hX
        exact xg_ireturn dX7_needsNumber_74 rfl ⟨Nat.le_refl _, Nat.le_refl _⟩ ⟨by unfold zNbA; rw [if_neg (by omega), if_neg (by omega)], by unfold zNbF; rw [if_neg (by omega), if_neg (by omega)]⟩
      · skip
        refine xg_aloadn 35 dX7_needsNumber_34 rfl rfl rfl ?_
        refine xg_getP 38 kf_RX7_18 dX7_needsNumber_35 rfl s0 p2 ?_
        refine xg_aloadn 39 dX7_needsNumber_38 rfl rfl rfl ?_
        refine xg_getI 42 kf_RX7_28 dX7_needsNumber_39 rfl s0 ?_
        refine xg_iald 43 dX7_needsNumber_42 rfl q2 (by rw [r2]; omega) ?_
        refine xg_iloadn 44 dX7_needsNumber_43 rfl rfl rfl ?_
        refine xg_iclt 60 47 dX7_needsNumber_44 rfl rfl (by have := a8 (F s 4) (by omega) (by omega); omega) (fun hb44 => ?_) (fun hb44 => ?_)
        · skip
          refine xg_aloadn 61 dX7_needsNumber_60 rfl rfl rfl ?_
          refine xg_aloadn 62 dX7_needsNumber_61 rfl rfl rfl ?_
          refine xg_getP 65 kf_RX7_9 dX7_needsNumber_62 rfl s0 p0 ?_
          refine xg_aloadn 66 dX7_needsNumber_65 rfl rfl rfl ?_
          refine xg_getI 69 kf_RX7_28 dX7_needsNumber_66 rfl s0 ?_
          refine xg_iald 70 dX7_needsNumber_69 rfl q0 (by rw [r0]; omega) ?_
          refine xg_putI 73 kf_RX7_21 dX7_needsNumber_70 rfl s0 ?_
          refine xg_iconst 74 dX7_needsNumber_73 rfl ?_
          subst hX
          exact xg_ireturn dX7_needsNumber_74 rfl ⟨Nat.le_refl _, Nat.le_refl _⟩ ⟨by unfold zNbA; rw [if_neg (by omega), if_neg (by omega)], by unfold zNbF; rw [if_neg (by omega), if_neg (by omega)]⟩
        · skip
          refine xg_aloadn 48 dX7_needsNumber_47 rfl rfl rfl ?_
          refine xg_getP 51 kf_RX7_18 dX7_needsNumber_48 rfl s0 p2 ?_
          refine xg_aloadn 52 dX7_needsNumber_51 rfl rfl rfl ?_
          refine xg_getI 55 kf_RX7_28 dX7_needsNumber_52 rfl s0 ?_
          refine xg_iald 56 dX7_needsNumber_55 rfl q2 (by rw [r2]; omega) ?_
          refine xg_iloadn 57 dX7_needsNumber_56 rfl rfl rfl ?_
          refine xg_icle 75 60 dX7_needsNumber_57 rfl rfl (by have := a8 (F s 4) (by omega) (by omega); omega) (fun hb57 => ?_) (fun hb57 => ?_)
          · skip
            refine xg_aloadn 76 dX7_needsNumber_75 rfl rfl rfl ?_
            refine xg_dup 77 dX7_needsNumber_76 rfl rfl ?_
            refine xg_getI 80 kf_RX7_28 dX7_needsNumber_77 rfl s0 ?_
            refine xg_iconst 81 dX7_needsNumber_80 rfl ?_
            refine xg_iadd 82 dX7_needsNumber_81 rfl ?_
            refine xg_putI 85 kf_RX7_28 dX7_needsNumber_82 rfl s0 ?_
            refine xg_aloadn 86 dX7_needsNumber_85 rfl rfl rfl ?_
            refine xg_getP 89 kf_RX7_18 dX7_needsNumber_86 rfl s0 p2 ?_
            refine xg_aloadn 90 dX7_needsNumber_89 rfl rfl rfl ?_
            refine xg_getI 93 kf_RX7_28 dX7_needsNumber_90 rfl s0 ?_
            rw [upF_at]
            refine xg_iconst 94 dX7_needsNumber_93 rfl ?_
            refine xg_isub 95 dX7_needsNumber_94 rfl ?_
            rw [show F s 4 + 1 - 1 = F s 4 by omega]
            refine xg_iald 96 dX7_needsNumber_95 rfl q2 (by rw [r2]; omega) ?_
            subst hX
            exact xg_ireturn dX7_needsNumber_96 rfl ⟨Nat.le_refl _, Nat.le_refl _⟩ ⟨by unfold zNbA; rw [if_neg (by omega), if_pos (by omega)], by unfold zNbF; rw [if_neg (by omega), if_pos (by omega)]⟩
          · skip
            refine xg_aloadn 61 dX7_needsNumber_60 rfl rfl rfl ?_
            refine xg_aloadn 62 dX7_needsNumber_61 rfl rfl rfl ?_
            refine xg_getP 65 kf_RX7_9 dX7_needsNumber_62 rfl s0 p0 ?_
            refine xg_aloadn 66 dX7_needsNumber_65 rfl rfl rfl ?_
            refine xg_getI 69 kf_RX7_28 dX7_needsNumber_66 rfl s0 ?_
            refine xg_iald 70 dX7_needsNumber_69 rfl q0 (by rw [r0]; omega) ?_
            refine xg_putI 73 kf_RX7_21 dX7_needsNumber_70 rfl s0 ?_
            refine xg_iconst 74 dX7_needsNumber_73 rfl ?_
            subst hX
            exact xg_ireturn dX7_needsNumber_74 rfl ⟨Nat.le_refl _, Nat.le_refl _⟩ ⟨by unfold zNbA; rw [if_neg (by omega), if_neg (by omega)], by unfold zNbF; rw [if_neg (by omega), if_neg (by omega)]⟩
    · skip
      refine xg_iconst 19 dX7_needsNumber_18 rfl ?_
      subst hX
      exact xg_ireturn dX7_needsNumber_19 rfl ⟨Nat.le_refl _, Nat.le_refl _⟩ ⟨by unfold zNbA; rw [if_pos (by omega)], by unfold zNbF; rw [if_pos (by omega)]⟩

