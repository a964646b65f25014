theorem xg_own1 {E : xE} {M : xM} {R : Room} {X : xX} {pc : Nat} {L : List (Option Value)} {st : List Value} {z : Nat} {T : Nat → Nat × Int} {F : Nat → Nat → Int} {I : Nat → Int → Int} {P : Nat → Nat → Option Nat} {Y : Nat → Int → Option Nat} {c n : Nat} (a : Nat) (kk : xG E M R X pc L st (z, T, F, upA I a (I a), P, Y) c n) : xG E M R X pc L st (z, T, F, I, P, Y) c n := by rw [upA_id] at kk; exact kk
/-- the first n cells hold v -/
def wV (u : Int → Int) (v n : Int) : Int → Int := fun j => if 0 ≤ j ∧ j < n then v else u j
theorem wV_0 (u : Int → Int) (v : Int) : wV u v 0 = u := by funext j; exact if_neg (by omega)
theorem wV_s (u : Int → Int) (v : Int) (n : Nat) : wS (wV u v (n : Int)) (n : Int) v = wV u v ((n + 1 : Nat) : Int) := by
  funext j
  unfold wS wV
  by_cases hj : j = n
  · rw [if_pos hj, if_pos (by omega)]
  · rw [if_neg hj]
    by_cases h1 : 0 ≤ j ∧ j < n
    · rw [if_pos h1, if_pos (by omega)]
    · rw [if_neg h1, if_neg (by omega)]
/-- a row's cells, emptied -/
def iWipe (I : Nat → Int → Int) (a : Nat) (n : Int) : Nat → Int → Int := upA (upA I (a + 1) (wV (I (a + 1)) (-1) n)) (a + 2) (wV (I (a + 2)) 0 n)
set_option maxHeartbeats 4000000 in
set_option maxRecDepth 100000 in
theorem ct_X6_wipe {E : xE} {z : Nat} {T : Nat → Nat × Int} {F : Nat → Nat → Int} {I : Nat → Int → Int} {P : Nat → Nat → Option Nat} {Y : Nat → Int → Option Nat} {a : Nat} (hw : wRow T P a) : Ct E 0 mX6_wipe 0 0 [.ref a] (z, T, F, I, P, Y) (xd none (z, T, upF (upF (upF F a 2 0) a 3 0) a 4 0, iWipe I a 60, P, Y)) := by
  obtain ⟨w0, w1, w2, ⟨w3, w4⟩, w5, w6⟩ := hw
  have u4 : a + 1 ≠ a + 2 := by omega
  refine Ct.of [some (.ref a), none] kt_X6_wipe rfl (Nat.le_of_ble_eq_true rfl) rfl (fun d hd => ?_)
  generalize hX : xN E _ _ _ = X
  refine xg_iconst 1 dX6_wipe_0 rfl ?_
  refine xg_istoren 2 _ dX6_wipe_1 rfl rfl rfl (by decide) (Or.inr rfl) ?_
  have loop2 : ∀ (mm : Nat) (k : Nat), (k ≤ 60) → 60 - (k : Int) < (mm : Int) → xG E mX6_wipe (xR d 0 0) X 2 [some (.ref a), some (J (k : Int))] [] (z, T, F, upA (upA I (a + 1) (wV (I (a + 1)) (-1) (k : Int))) (a + 2) (wV (I (a + 2)) 0 (k : Int)), P, Y) 0 0 := by
    intro mm
    induction mm with
    | zero => intro k hk hm; exfalso; omega
    | succ mm ih =>
      intro k hk hm
      refine xg_iloadn 3 dX6_wipe_2 rfl rfl rfl ?_
      refine xg_bipush 5 dX6_wipe_3 rfl (by decide) ?_
      refine xg_icge 28 8 dX6_wipe_5 rfl rfl (by omega) (fun hb5 => ?_) (fun hb5 => ?_)
      · skip
        refine xg_aloadn 29 dX6_wipe_28 rfl rfl rfl ?_
        refine xg_iconst 30 dX6_wipe_29 rfl ?_
        refine xg_putI 33 kf_RX6_18 dX6_wipe_30 rfl (by assumption) ?_
        refine xg_aloadn 34 dX6_wipe_33 rfl rfl rfl ?_
        refine xg_iconst 35 dX6_wipe_34 rfl ?_
        refine xg_putI 38 kf_RX6_22 dX6_wipe_35 rfl (by assumption) ?_
        refine xg_aloadn 39 dX6_wipe_38 rfl rfl rfl ?_
        refine xg_iconst 40 dX6_wipe_39 rfl ?_
        refine xg_putZ 43 kf_RX6_25 dX6_wipe_40 rfl (by assumption) (by omega) ?_
        subst hX
        exact xg_return dX6_wipe_43 rfl ⟨Nat.le_refl _, Nat.le_refl _⟩ ⟨rfl, by rw [show k = 60 by omega]; rfl⟩
      · skip
        refine xg_aloadn 9 dX6_wipe_8 rfl rfl rfl ?_
        refine xg_getP 12 kf_RX6_9 dX6_wipe_9 rfl (by assumption) (by assumption) ?_
        refine xg_iloadn 13 dX6_wipe_12 rfl rfl rfl ?_
        refine xg_iconst 14 dX6_wipe_13 rfl ?_
        refine xg_iastU 15 dX6_wipe_14 rfl ⟨w3, u4⟩ (by omega) ?_
        refine xg_aloadn 16 dX6_wipe_15 rfl rfl rfl ?_
        refine xg_getP 19 kf_RX6_15 dX6_wipe_16 rfl (by assumption) (by assumption) ?_
        refine xg_iloadn 20 dX6_wipe_19 rfl rfl rfl ?_
        refine xg_iconst 21 dX6_wipe_20 rfl ?_
        refine xg_iastW 22 dX6_wipe_21 rfl (by assumption) (by omega) ?_
        refine xg_iinc 25 _ dX6_wipe_22 rfl rfl rfl rfl (by decide) (Or.inr rfl) ?_
        refine xg_goto 2 dX6_wipe_25 rfl ?_
        rw [wV_s, wV_s]
        exact xg_weak _ (xle_s rfl (xle_s rfl xle_0)) (ih (k + 1) (by omega) (by omega))
  have l0 := loop2 61 0 (by omega) (by omega)
  rw [show ((0 : Nat) : Int) = 0 from rfl, wV_0, wV_0] at l0
  refine xg_own1 (a + 2) ?_
  refine xg_own (a + 1) (a + 2) ?_
  exact xg_weak _ (xle_s rfl (xle_s rfl xle_0)) l0

