/-- the journal a: where its arrays lie -/
def wJou (T : Nat → Nat × Int) (P : Nat → Nat → Option Nat) (a : Nat) : Prop := (T a).1 = 3 ∧ (P a 0 = some (a + 1) ∧ P a 1 = some (a + 2) ∧ P a 2 = some (a + 3) ∧ P a 3 = some (a + 4)) ∧ ((T (a + 1)).1 = 14 ∧ (T (a + 1)).2 = 60) ∧ ((T (a + 2)).1 = 14 ∧ (T (a + 2)).2 = 60) ∧ ((T (a + 3)).1 = 14 ∧ (T (a + 3)).2 = 60) ∧ ((T (a + 4)).1 = 14 ∧ (T (a + 4)).2 = 60)
/-- what the journal tells of its row k, newest first -/
def sTold5 (F : Nat → Nat → Int) (I : Nat → Int → Int) (a : Nat) (k c : Int) : Int := if 0 ≤ k ∧ k < F a 5 then I (a + 1 + c.toNat) ((F a 4 + F a 5 - 1 - k) % 60) else -1
theorem dX2_told_0 : decode cX2_told 0 = .ok (.iload_n 1, 1) := by decide +kernel
theorem dX2_told_1 : decode cX2_told 1 = .ok (.ifCond .lt 11, 3) := by decide +kernel
theorem dX2_told_4 : decode cX2_told 4 = .ok (.iload_n 1, 1) := by decide +kernel
theorem dX2_told_5 : decode cX2_told 5 = .ok (.aload_n 0, 1) := by decide +kernel
theorem dX2_told_6 : decode cX2_told 6 = .ok (.getfield 28, 3) := by decide +kernel
theorem dX2_told_9 : decode cX2_told 9 = .ok (.if_icmp .lt 5, 3) := by decide +kernel
theorem dX2_told_12 : decode cX2_told 12 = .ok (.iconst (-1), 1) := by decide +kernel
theorem dX2_told_13 : decode cX2_told 13 = .ok (.ireturn, 1) := by decide +kernel
theorem dX2_told_14 : decode cX2_told 14 = .ok (.aload_n 0, 1) := by decide +kernel
theorem dX2_told_15 : decode cX2_told 15 = .ok (.getfield 24, 3) := by decide +kernel
theorem dX2_told_18 : decode cX2_told 18 = .ok (.aload_n 0, 1) := by decide +kernel
theorem dX2_told_19 : decode cX2_told 19 = .ok (.getfield 28, 3) := by decide +kernel
theorem dX2_told_22 : decode cX2_told 22 = .ok (.iadd, 1) := by decide +kernel
theorem dX2_told_23 : decode cX2_told 23 = .ok (.iconst 1, 1) := by decide +kernel
theorem dX2_told_24 : decode cX2_told 24 = .ok (.isub, 1) := by decide +kernel
theorem dX2_told_25 : decode cX2_told 25 = .ok (.iload_n 1, 1) := by decide +kernel
theorem dX2_told_26 : decode cX2_told 26 = .ok (.isub, 1) := by decide +kernel
theorem dX2_told_27 : decode cX2_told 27 = .ok (.bipush 60, 2) := by decide +kernel
theorem dX2_told_29 : decode cX2_told 29 = .ok (.irem, 1) := by decide +kernel
theorem dX2_told_30 : decode cX2_told 30 = .ok (.istore_n 3, 1) := by decide +kernel
theorem dX2_told_31 : decode cX2_told 31 = .ok (.iload_n 2, 1) := by decide +kernel
theorem dX2_told_32 : decode cX2_told 32 = .ok (.tableswitch 60 0 3 #[32, 39, 46, 53], 32) := by decide +kernel
theorem dX2_told_64 : decode cX2_told 64 = .ok (.aload_n 0, 1) := by decide +kernel
theorem dX2_told_65 : decode cX2_told 65 = .ok (.getfield 9, 3) := by decide +kernel
theorem dX2_told_68 : decode cX2_told 68 = .ok (.iload_n 3, 1) := by decide +kernel
theorem dX2_told_69 : decode cX2_told 69 = .ok (.iaload, 1) := by decide +kernel
theorem dX2_told_70 : decode cX2_told 70 = .ok (.ireturn, 1) := by decide +kernel
theorem dX2_told_71 : decode cX2_told 71 = .ok (.aload_n 0, 1) := by decide +kernel
theorem dX2_told_72 : decode cX2_told 72 = .ok (.getfield 15, 3) := by decide +kernel
theorem dX2_told_75 : decode cX2_told 75 = .ok (.iload_n 3, 1) := by decide +kernel
theorem dX2_told_76 : decode cX2_told 76 = .ok (.iaload, 1) := by decide +kernel
theorem dX2_told_77 : decode cX2_told 77 = .ok (.ireturn, 1) := by decide +kernel
theorem dX2_told_78 : decode cX2_told 78 = .ok (.aload_n 0, 1) := by decide +kernel
theorem dX2_told_79 : decode cX2_told 79 = .ok (.getfield 18, 3) := by decide +kernel
theorem dX2_told_82 : decode cX2_told 82 = .ok (.iload_n 3, 1) := by decide +kernel
theorem dX2_told_83 : decode cX2_told 83 = .ok (.iaload, 1) := by decide +kernel
theorem dX2_told_84 : decode cX2_told 84 = .ok (.ireturn, 1) := by decide +kernel
theorem dX2_told_85 : decode cX2_told 85 = .ok (.aload_n 0, 1) := by decide +kernel
theorem dX2_told_86 : decode cX2_told 86 = .ok (.getfield 21, 3) := by decide +kernel
theorem dX2_told_89 : decode cX2_told 89 = .ok (.iload_n 3, 1) := by decide +kernel
theorem dX2_told_90 : decode cX2_told 90 = .ok (.iaload, 1) := by decide +kernel
theorem dX2_told_91 : decode cX2_told 91 = .ok (.ireturn, 1) := by decide +kernel
theorem dX2_told_92 : decode cX2_told 92 = .ok (.iconst (-1), 1) := by decide +kernel
theorem dX2_told_93 : decode cX2_told 93 = .ok (.ireturn, 1) := by decide +kernel
set_option maxHeartbeats 4000000 in
set_option maxRecDepth 100000 in
theorem ct_X2_told {E : xE} {z : Nat} {T : Nat → Nat × Int} {F : Nat → Nat → Int} {I : Nat → Int → Int} {P : Nat → Nat → Option Nat} {Y : Nat → Int → Option Nat} {a : Nat} {k c : Int} (hw : wJou T P a) (h4 : 0 ≤ F a 4 ∧ F a 4 < 60) (h5 : 0 ≤ F a 5 ∧ F a 5 ≤ 60) (hk : -2147483648 ≤ k ∧ k < 2147483648) (hc : 0 ≤ c ∧ c ≤ 3) : Ct E 0 mX2_told 0 0 [.ref a, J k, J c] (z, T, F, I, P, Y) (xd (some (J (sTold5 F I a k c))) (z, T, F, I, P, Y)) := by
  obtain ⟨w0, ⟨p0, p1, p2, p3⟩, ⟨a1, b1⟩, ⟨a2, b2⟩, ⟨a3, b3⟩, a4, b4⟩ := id hw
  refine Ct.of [some (.ref a), some (J k), some (J c), none] kt_X2_told rfl (Nat.le_of_ble_eq_true rfl) rfl (fun d hd => ?_)
  generalize hX : xN E _ _ _ = X
  refine xg_iloadn 1 dX2_told_0 rfl rfl rfl ?_
  refine xg_iflt 12 4 dX2_told_1 rfl rfl (by omega) (fun hb1 => ?_) (fun hb1 => ?_)
  · skip
    refine xg_iconst 13 dX2_told_12 rfl ?_
    subst hX
    exact xg_ireturn dX2_told_13 rfl ⟨Nat.le_refl _, Nat.le_refl _⟩ ⟨congrArg (fun v => some (J v)) (by unfold sTold5; rw [if_neg (by omega)]), rfl⟩
  · skip
    refine xg_iloadn 5 dX2_told_4 rfl rfl rfl ?_
    refine xg_aloadn 6 dX2_told_5 rfl rfl rfl ?_
    refine xg_getI 9 kf_RX2_28 dX2_told_6 rfl (by assumption) ?_
    refine xg_iclt 14 12 dX2_told_9 rfl rfl (by omega) (fun hb9 => ?_) (fun hb9 => ?_)
    · skip
      refine xg_aloadn 15 dX2_told_14 rfl rfl rfl ?_
      refine xg_getI 18 kf_RX2_24 dX2_told_15 rfl (by assumption) ?_
      refine xg_aloadn 19 dX2_told_18 rfl rfl rfl ?_
      refine xg_getI 22 kf_RX2_28 dX2_told_19 rfl (by assumption) ?_
      refine xg_iadd 23 dX2_told_22 rfl ?_
      refine xg_iconst 24 dX2_told_23 rfl ?_
      refine xg_isub 25 dX2_told_24 rfl ?_
      refine xg_iloadn 26 dX2_told_25 rfl rfl rfl ?_
      refine xg_isub 27 dX2_told_26 rfl ?_
      refine xg_bipush 29 dX2_told_27 rfl (by decide) ?_
      refine xg_irem 30 dX2_told_29 rfl (by omega) ?_
      refine xg_istoren 31 _ dX2_told_30 rfl rfl rfl (by decide) (Or.inr rfl) ?_
      refine xg_iloadn 32 dX2_told_31 rfl rfl rfl ?_
      rcases (show c = 0 ∨ c = 1 ∨ c = 2 ∨ c = 3 ∨ (c < 0 ∨ 3 < c) by omega) with ht | ht | ht | ht | ht
      · refine xg_tin (o := 32) 64 dX2_told_32 (by omega) ⟨by omega, by omega⟩ (by rw [show (c - 0).toNat = 0 by omega]; rfl) rfl ?_
        refine xg_aloadn 65 dX2_told_64 rfl rfl rfl ?_
        refine xg_getP 68 kf_RX2_9 dX2_told_65 rfl (by assumption) (by assumption) ?_
        refine xg_iloadn 69 dX2_told_68 rfl rfl rfl ?_
        refine xg_iald 70 dX2_told_69 rfl (by assumption) (by omega) ?_
        subst hX
        exact xg_ireturn dX2_told_70 rfl ⟨Nat.le_refl _, Nat.le_refl _⟩ ⟨congrArg (fun v => some (J v)) (by unfold sTold5; rw [if_pos (by omega), ht]; rfl), rfl⟩
      · refine xg_tin (o := 39) 71 dX2_told_32 (by omega) ⟨by omega, by omega⟩ (by rw [show (c - 0).toNat = 1 by omega]; rfl) rfl ?_
        refine xg_aloadn 72 dX2_told_71 rfl rfl rfl ?_
        refine xg_getP 75 kf_RX2_15 dX2_told_72 rfl (by assumption) (by assumption) ?_
        refine xg_iloadn 76 dX2_told_75 rfl rfl rfl ?_
        refine xg_iald 77 dX2_told_76 rfl (by assumption) (by omega) ?_
        subst hX
        exact xg_ireturn dX2_told_77 rfl ⟨Nat.le_refl _, Nat.le_refl _⟩ ⟨congrArg (fun v => some (J v)) (by unfold sTold5; rw [if_pos (by omega), ht]; rfl), rfl⟩
      · refine xg_tin (o := 46) 78 dX2_told_32 (by omega) ⟨by omega, by omega⟩ (by rw [show (c - 0).toNat = 2 by omega]; rfl) rfl ?_
        refine xg_aloadn 79 dX2_told_78 rfl rfl rfl ?_
        refine xg_getP 82 kf_RX2_18 dX2_told_79 rfl (by assumption) (by assumption) ?_
        refine xg_iloadn 83 dX2_told_82 rfl rfl rfl ?_
        refine xg_iald 84 dX2_told_83 rfl (by assumption) (by omega) ?_
        subst hX
        exact xg_ireturn dX2_told_84 rfl ⟨Nat.le_refl _, Nat.le_refl _⟩ ⟨congrArg (fun v => some (J v)) (by unfold sTold5; rw [if_pos (by omega), ht]; rfl), rfl⟩
      · refine xg_tin (o := 53) 85 dX2_told_32 (by omega) ⟨by omega, by omega⟩ (by rw [show (c - 0).toNat = 3 by omega]; rfl) rfl ?_
        refine xg_aloadn 86 dX2_told_85 rfl rfl rfl ?_
        refine xg_getP 89 kf_RX2_21 dX2_told_86 rfl (by assumption) (by assumption) ?_
        refine xg_iloadn 90 dX2_told_89 rfl rfl rfl ?_
        refine xg_iald 91 dX2_told_90 rfl (by assumption) (by omega) ?_
        subst hX
        exact xg_ireturn dX2_told_91 rfl ⟨Nat.le_refl _, Nat.le_refl _⟩ ⟨congrArg (fun v => some (J v)) (by unfold sTold5; rw [if_pos (by omega), ht]; rfl), rfl⟩
      · refine xg_tout 92 dX2_told_32 (by omega) ht rfl ?_
        exfalso; omega
    · skip
      refine xg_iconst 13 dX2_told_12 rfl ?_
      subst hX
      exact xg_ireturn dX2_told_13 rfl ⟨Nat.le_refl _, Nat.le_refl _⟩ ⟨congrArg (fun v => some (J v)) (by unfold sTold5; rw [if_neg (by omega)]), rfl⟩

