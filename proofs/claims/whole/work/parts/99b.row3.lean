theorem sMstR_r2 {i g : Int → Int} (h : ∀ j : Int, 0 ≤ j → j < 60 → i j ≠ -1 → -1 ≤ g j ∧ g j ≤ 100) : ∀ k : Nat, k ≤ 60 → 0 ≤ sMstR i g k ∧ sMstR i g k ≤ 100
  | 0, _ => by rw [sMstR]; omega
  | k + 1, hk => by
    have h1 := sMstR_r2 h k (by omega)
    have h2 := h (k : Int) (by omega) (by omega)
    rw [sMstR]
    by_cases c : i (k : Int) = -1
    · rw [if_pos c]; exact h1
    · rw [if_neg c]
      have h3 := h2 c
      by_cases d : sMstR i g k < g (k : Int)
      · rw [if_pos d]; omega
      · rw [if_neg d]; exact h1
set_option maxHeartbeats 4000000 in
set_option maxRecDepth 100000 in
theorem ct_X6_keysAlsoIn2 {E : xE} {z : Nat} {T : Nat → Nat × Int} {F : Nat → Nat → Int} {I : Nat → Int → Int} {P : Nat → Nat → Option Nat} {Y : Nat → Int → Option Nat} {a b : Nat} (hw : wRow T P a) (hv : wRow T P b) (hI : ∀ j : Int, 0 ≤ j → j < 60 → -1 ≤ I (a + 1) j ∧ I (a + 1) j ≤ 100) (hJ : ∀ j : Int, 0 ≤ j → j < 60 → -1 ≤ I (b + 1) j ∧ I (b + 1) j ≤ 100) : Ct E 0 mX6_keysAlsoIn 0 0 [.ref a, .ref b] (z, T, F, I, P, Y) (xd (some (J (sAlso (I (a + 1)) (I (b + 1)) 60))) (z, T, F, I, P, Y)) := by
  obtain ⟨w0, w1, w2, ⟨w3, w4⟩, w5, w6⟩ := hw
  obtain ⟨u0, u1, u2, ⟨u3, u4⟩, u5, u6⟩ := hv
  refine Ct.of [some (.ref a), some (.ref b), none, none] kt_X6_keysAlsoIn rfl (Nat.le_of_ble_eq_true rfl) rfl (fun d hd => ?_)
  generalize hX : xN E _ _ _ = X
  refine xg_iconst 1 dX6_keysAlsoIn_0 rfl ?_
  refine xg_istoren 2 _ dX6_keysAlsoIn_1 rfl rfl rfl (by decide) (Or.inr rfl) ?_
  refine xg_iconst 3 dX6_keysAlsoIn_2 rfl ?_
  refine xg_istoren 4 _ dX6_keysAlsoIn_3 rfl rfl rfl (by decide) (Or.inr rfl) ?_
  have loop4 : ∀ (mm : Nat) (k : Nat) (n : Int), k ≤ 60 → n = sAlso (I (a + 1)) (I (b + 1)) k → 60 - (k : Int) < (mm : Int) → xG E mX6_keysAlsoIn (xR d 0 0) X 4 [some (.ref a), some (.ref b), some (J n), some (J (k : Int))] [] (z, T, F, I, P, Y) 0 0 := by
    intro mm
    induction mm with
    | zero => intro k n hk hn hm; exfalso; omega
    | succ mm ih =>
      intro k n hk hn hm
      refine xg_iloadn 5 dX6_keysAlsoIn_4 rfl rfl rfl ?_
      refine xg_bipush 7 dX6_keysAlsoIn_5 rfl (by decide) ?_
      refine xg_icge 39 10 dX6_keysAlsoIn_7 rfl rfl (by first | omega | (have := hI (k : Int) (by omega) (by omega); have := hJ (k : Int) (by omega) (by omega); omega)) (fun hb7 => ?_) (fun hb7 => ?_)
      · skip
        refine xg_iloadn 40 dX6_keysAlsoIn_39 rfl rfl rfl ?_
        subst hX
        exact xg_ireturn dX6_keysAlsoIn_40 rfl ⟨Nat.le_refl _, Nat.le_refl _⟩ ⟨by rw [hn, show k = 60 by omega], rfl⟩
      · skip
        refine xg_aloadn 11 dX6_keysAlsoIn_10 rfl rfl rfl ?_
        refine xg_getP 14 kf_RX6_9 dX6_keysAlsoIn_11 rfl (by assumption) (by assumption) ?_
        refine xg_iloadn 15 dX6_keysAlsoIn_14 rfl rfl rfl ?_
        refine xg_iald 16 dX6_keysAlsoIn_15 rfl (by assumption) (by first | omega | (have := hI (k : Int) (by omega) (by omega); have := hJ (k : Int) (by omega) (by omega); omega)) ?_
        refine xg_iconst 17 dX6_keysAlsoIn_16 rfl ?_
        refine xg_iceq 33 20 dX6_keysAlsoIn_17 rfl rfl (by first | omega | (have := hI (k : Int) (by omega) (by omega); have := hJ (k : Int) (by omega) (by omega); omega)) (fun hb17 => ?_) (fun hb17 => ?_)
        · skip
          refine xg_iinc 36 _ dX6_keysAlsoIn_33 rfl rfl rfl rfl (by decide) (Or.inr rfl) ?_
          refine xg_goto 4 dX6_keysAlsoIn_36 rfl ?_
          exact xg_weak _ (xle_s rfl (xle_s rfl (xle_s rfl (xle_s rfl xle_0)))) (ih (k + 1) _ (by omega) (by rw [sAlso, pSum_s, if_pos hb17, hn, sAlso, Int.add_zero]) (by omega))
        · skip
          refine xg_aloadn 21 dX6_keysAlsoIn_20 rfl rfl rfl ?_
          refine xg_getP 24 kf_RX6_9 dX6_keysAlsoIn_21 rfl (by assumption) (by assumption) ?_
          refine xg_iloadn 25 dX6_keysAlsoIn_24 rfl rfl rfl ?_
          refine xg_iald 26 dX6_keysAlsoIn_25 rfl (by assumption) (by first | omega | (have := hI (k : Int) (by omega) (by omega); have := hJ (k : Int) (by omega) (by omega); omega)) ?_
          refine xg_iconst 27 dX6_keysAlsoIn_26 rfl ?_
          refine xg_iceq 33 30 dX6_keysAlsoIn_27 rfl rfl (by first | omega | (have := hI (k : Int) (by omega) (by omega); have := hJ (k : Int) (by omega) (by omega); omega)) (fun hb27 => ?_) (fun hb27 => ?_)
          · skip
            refine xg_iinc 36 _ dX6_keysAlsoIn_33 rfl rfl rfl rfl (by decide) (Or.inr rfl) ?_
            refine xg_goto 4 dX6_keysAlsoIn_36 rfl ?_
            exact xg_weak _ (xle_s rfl (xle_s rfl (xle_s rfl (xle_s rfl xle_0)))) (ih (k + 1) _ (by omega) (by rw [sAlso, pSum_s, if_neg hb17, if_pos hb27, hn, sAlso, Int.add_zero]) (by omega))
          · skip
            refine xg_iinc 33 _ dX6_keysAlsoIn_30 rfl rfl rfl rfl (by decide) (Or.inr rfl) ?_
            refine xg_iinc 36 _ dX6_keysAlsoIn_33 rfl rfl rfl rfl (by decide) (Or.inr rfl) ?_
            refine xg_goto 4 dX6_keysAlsoIn_36 rfl ?_
            exact xg_weak _ (xle_s rfl (xle_s rfl (xle_s rfl (xle_s rfl xle_0)))) (ih (k + 1) _ (by omega) (by rw [sAlso, pSum_s, if_neg hb17, if_neg hb27, hn, sAlso]) (by omega))
  exact xg_weak _ (xle_s rfl (xle_s rfl (xle_s rfl (xle_s rfl xle_0)))) (loop4 61 0 0 (by omega) rfl (by omega))

set_option maxHeartbeats 4000000 in
set_option maxRecDepth 100000 in
theorem ct_X6_mostRewritten2 {E : xE} {z : Nat} {T : Nat → Nat × Int} {F : Nat → Nat → Int} {I : Nat → Int → Int} {P : Nat → Nat → Option Nat} {Y : Nat → Int → Option Nat} {a : Nat} (hw : wRow T P a) (hI : ∀ j : Int, 0 ≤ j → j < 60 → -1 ≤ I (a + 1) j ∧ I (a + 1) j ≤ 100) (hJ : ∀ j : Int, 0 ≤ j → j < 60 → I (a + 1) j ≠ -1 → -1 ≤ I (a + 2) j ∧ I (a + 2) j ≤ 100) : Ct E 0 mX6_mostRewritten 0 0 [.ref a] (z, T, F, I, P, Y) (xd (some (J (sMstR (I (a + 1)) (I (a + 2)) 60))) (z, T, F, I, P, Y)) := by
  obtain ⟨w0, w1, w2, ⟨w3, w4⟩, w5, w6⟩ := hw
  refine Ct.of [some (.ref a), none, none] kt_X6_mostRewritten rfl (Nat.le_of_ble_eq_true rfl) rfl (fun d hd => ?_)
  generalize hX : xN E _ _ _ = X
  refine xg_iconst 1 dX6_mostRewritten_0 rfl ?_
  refine xg_istoren 2 _ dX6_mostRewritten_1 rfl rfl rfl (by decide) (Or.inr rfl) ?_
  refine xg_iconst 3 dX6_mostRewritten_2 rfl ?_
  refine xg_istoren 4 _ dX6_mostRewritten_3 rfl rfl rfl (by decide) (Or.inr rfl) ?_
  have loop4 : ∀ (mm : Nat) (k : Nat), (k ≤ 60) → 60 - (k : Int) < (mm : Int) → xG E mX6_mostRewritten (xR d 0 0) X 4 [some (.ref a), some (J (sMstR (I (a + 1)) (I (a + 2)) k)), some (J (k : Int))] [] (z, T, F, I, P, Y) 0 0 := by
    intro mm
    induction mm with
    | zero => intro k hk hm; exfalso; omega
    | succ mm ih =>
      intro k hk hm
      have hm := sMstR_r2 (i := I (a + 1)) hJ k hk
      refine xg_iloadn 5 dX6_mostRewritten_4 rfl rfl rfl ?_
      refine xg_bipush 7 dX6_mostRewritten_5 rfl (by decide) ?_
      refine xg_icge 43 10 dX6_mostRewritten_7 rfl rfl (by first | omega | (have := hI (k : Int) (by omega) (by omega); omega) | (have := hJ (k : Int) (by omega) (by omega) (by omega); omega)) (fun hb7 => ?_) (fun hb7 => ?_)
      · skip
        refine xg_iloadn 44 dX6_mostRewritten_43 rfl rfl rfl ?_
        subst hX
        exact xg_ireturn dX6_mostRewritten_44 rfl ⟨Nat.le_refl _, Nat.le_refl _⟩ ⟨by rw [show k = 60 by omega], rfl⟩
      · skip
        refine xg_aloadn 11 dX6_mostRewritten_10 rfl rfl rfl ?_
        refine xg_getP 14 kf_RX6_9 dX6_mostRewritten_11 rfl (by assumption) (by assumption) ?_
        refine xg_iloadn 15 dX6_mostRewritten_14 rfl rfl rfl ?_
        refine xg_iald 16 dX6_mostRewritten_15 rfl (by assumption) (by first | omega | (have := hI (k : Int) (by omega) (by omega); omega) | (have := hJ (k : Int) (by omega) (by omega) (by omega); omega)) ?_
        refine xg_iconst 17 dX6_mostRewritten_16 rfl ?_
        refine xg_iceq 37 20 dX6_mostRewritten_17 rfl rfl (by first | omega | (have := hI (k : Int) (by omega) (by omega); omega) | (have := hJ (k : Int) (by omega) (by omega) (by omega); omega)) (fun hb17 => ?_) (fun hb17 => ?_)
        · skip
          refine xg_iinc 40 _ dX6_mostRewritten_37 rfl rfl rfl rfl (by decide) (Or.inr rfl) ?_
          refine xg_goto 4 dX6_mostRewritten_40 rfl ?_
          exact xg_weak _ (xle_s rfl (xle_s (by rw [sMstR, if_pos hb17]) (xle_s rfl xle_0))) (ih (k + 1) (by omega) (by omega))
        · skip
          refine xg_aloadn 21 dX6_mostRewritten_20 rfl rfl rfl ?_
          refine xg_getP 24 kf_RX6_15 dX6_mostRewritten_21 rfl (by assumption) (by assumption) ?_
          refine xg_iloadn 25 dX6_mostRewritten_24 rfl rfl rfl ?_
          refine xg_iald 26 dX6_mostRewritten_25 rfl (by assumption) (by first | omega | (have := hI (k : Int) (by omega) (by omega); omega) | (have := hJ (k : Int) (by omega) (by omega) (by omega); omega)) ?_
          refine xg_iloadn 27 dX6_mostRewritten_26 rfl rfl rfl ?_
          refine xg_icle 37 30 dX6_mostRewritten_27 rfl rfl (by first | omega | (have := hI (k : Int) (by omega) (by omega); omega) | (have := hJ (k : Int) (by omega) (by omega) (by omega); omega)) (fun hb27 => ?_) (fun hb27 => ?_)
          · skip
            refine xg_iinc 40 _ dX6_mostRewritten_37 rfl rfl rfl rfl (by decide) (Or.inr rfl) ?_
            refine xg_goto 4 dX6_mostRewritten_40 rfl ?_
            exact xg_weak _ (xle_s rfl (xle_s (by rw [sMstR, if_neg hb17, if_neg (by omega)]) (xle_s rfl xle_0))) (ih (k + 1) (by omega) (by omega))
          · skip
            refine xg_aloadn 31 dX6_mostRewritten_30 rfl rfl rfl ?_
            refine xg_getP 34 kf_RX6_15 dX6_mostRewritten_31 rfl (by assumption) (by assumption) ?_
            refine xg_iloadn 35 dX6_mostRewritten_34 rfl rfl rfl ?_
            refine xg_iald 36 dX6_mostRewritten_35 rfl (by assumption) (by first | omega | (have := hI (k : Int) (by omega) (by omega); omega) | (have := hJ (k : Int) (by omega) (by omega) (by omega); omega)) ?_
            refine xg_istoren 37 _ dX6_mostRewritten_36 rfl rfl rfl (by decide) (Or.inr rfl) ?_
            refine xg_iinc 40 _ dX6_mostRewritten_37 rfl rfl rfl rfl (by decide) (Or.inr rfl) ?_
            refine xg_goto 4 dX6_mostRewritten_40 rfl ?_
            exact xg_weak _ (xle_s rfl (xle_s (by rw [sMstR, if_neg hb17, if_pos (by omega)]) (xle_s rfl xle_0))) (ih (k + 1) (by omega) (by omega))
  exact xg_weak _ (xle_s rfl (xle_s rfl (xle_s rfl xle_0))) (loop4 61 0 (by omega) (by omega))

