theorem dX6_copyFrom_0 : decode cX6_copyFrom 0 = .ok (.aload_n 1, 1) := by decide +kernel
theorem dX6_copyFrom_1 : decode cX6_copyFrom 1 = .ok (.getfield 9, 3) := by decide +kernel
theorem dX6_copyFrom_4 : decode cX6_copyFrom 4 = .ok (.iconst 0, 1) := by decide +kernel
theorem dX6_copyFrom_5 : decode cX6_copyFrom 5 = .ok (.aload_n 0, 1) := by decide +kernel
theorem dX6_copyFrom_6 : decode cX6_copyFrom 6 = .ok (.getfield 9, 3) := by decide +kernel
theorem dX6_copyFrom_9 : decode cX6_copyFrom 9 = .ok (.iconst 0, 1) := by decide +kernel
theorem dX6_copyFrom_10 : decode cX6_copyFrom 10 = .ok (.bipush 60, 2) := by decide +kernel
theorem dX6_copyFrom_12 : decode cX6_copyFrom 12 = .ok (.invokestatic 29, 3) := by decide +kernel
theorem dX6_copyFrom_15 : decode cX6_copyFrom 15 = .ok (.aload_n 1, 1) := by decide +kernel
theorem dX6_copyFrom_16 : decode cX6_copyFrom 16 = .ok (.getfield 15, 3) := by decide +kernel
theorem dX6_copyFrom_19 : decode cX6_copyFrom 19 = .ok (.iconst 0, 1) := by decide +kernel
theorem dX6_copyFrom_20 : decode cX6_copyFrom 20 = .ok (.aload_n 0, 1) := by decide +kernel
theorem dX6_copyFrom_21 : decode cX6_copyFrom 21 = .ok (.getfield 15, 3) := by decide +kernel
theorem dX6_copyFrom_24 : decode cX6_copyFrom 24 = .ok (.iconst 0, 1) := by decide +kernel
theorem dX6_copyFrom_25 : decode cX6_copyFrom 25 = .ok (.bipush 60, 2) := by decide +kernel
theorem dX6_copyFrom_27 : decode cX6_copyFrom 27 = .ok (.invokestatic 29, 3) := by decide +kernel
theorem dX6_copyFrom_30 : decode cX6_copyFrom 30 = .ok (.aload_n 0, 1) := by decide +kernel
theorem dX6_copyFrom_31 : decode cX6_copyFrom 31 = .ok (.aload_n 1, 1) := by decide +kernel
theorem dX6_copyFrom_32 : decode cX6_copyFrom 32 = .ok (.getfield 18, 3) := by decide +kernel
theorem dX6_copyFrom_35 : decode cX6_copyFrom 35 = .ok (.putfield 18, 3) := by decide +kernel
theorem dX6_copyFrom_38 : decode cX6_copyFrom 38 = .ok (.aload_n 0, 1) := by decide +kernel
theorem dX6_copyFrom_39 : decode cX6_copyFrom 39 = .ok (.aload_n 1, 1) := by decide +kernel
theorem dX6_copyFrom_40 : decode cX6_copyFrom 40 = .ok (.getfield 22, 3) := by decide +kernel
theorem dX6_copyFrom_43 : decode cX6_copyFrom 43 = .ok (.putfield 22, 3) := by decide +kernel
theorem dX6_copyFrom_46 : decode cX6_copyFrom 46 = .ok (.aload_n 0, 1) := by decide +kernel
theorem dX6_copyFrom_47 : decode cX6_copyFrom 47 = .ok (.aload_n 1, 1) := by decide +kernel
theorem dX6_copyFrom_48 : decode cX6_copyFrom 48 = .ok (.getfield 25, 3) := by decide +kernel
theorem dX6_copyFrom_51 : decode cX6_copyFrom 51 = .ok (.putfield 25, 3) := by decide +kernel
theorem dX6_copyFrom_54 : decode cX6_copyFrom 54 = .ok (.return_, 1) := by decide +kernel
theorem dX5_copyFrom_0 : decode cX5_copyFrom 0 = .ok (.aload_n 1, 1) := by decide +kernel
theorem dX5_copyFrom_1 : decode cX5_copyFrom 1 = .ok (.getfield 9, 3) := by decide +kernel
theorem dX5_copyFrom_4 : decode cX5_copyFrom 4 = .ok (.iconst 0, 1) := by decide +kernel
theorem dX5_copyFrom_5 : decode cX5_copyFrom 5 = .ok (.aload_n 0, 1) := by decide +kernel
theorem dX5_copyFrom_6 : decode cX5_copyFrom 6 = .ok (.getfield 9, 3) := by decide +kernel
theorem dX5_copyFrom_9 : decode cX5_copyFrom 9 = .ok (.iconst 0, 1) := by decide +kernel
theorem dX5_copyFrom_10 : decode cX5_copyFrom 10 = .ok (.iconst 4, 1) := by decide +kernel
theorem dX5_copyFrom_11 : decode cX5_copyFrom 11 = .ok (.invokestatic 61, 3) := by decide +kernel
theorem dX5_copyFrom_14 : decode cX5_copyFrom 14 = .ok (.aload_n 1, 1) := by decide +kernel
theorem dX5_copyFrom_15 : decode cX5_copyFrom 15 = .ok (.getfield 15, 3) := by decide +kernel
theorem dX5_copyFrom_18 : decode cX5_copyFrom 18 = .ok (.iconst 0, 1) := by decide +kernel
theorem dX5_copyFrom_19 : decode cX5_copyFrom 19 = .ok (.aload_n 0, 1) := by decide +kernel
theorem dX5_copyFrom_20 : decode cX5_copyFrom 20 = .ok (.getfield 15, 3) := by decide +kernel
theorem dX5_copyFrom_23 : decode cX5_copyFrom 23 = .ok (.iconst 0, 1) := by decide +kernel
theorem dX5_copyFrom_24 : decode cX5_copyFrom 24 = .ok (.iconst 4, 1) := by decide +kernel
theorem dX5_copyFrom_25 : decode cX5_copyFrom 25 = .ok (.invokestatic 61, 3) := by decide +kernel
theorem dX5_copyFrom_28 : decode cX5_copyFrom 28 = .ok (.aload_n 1, 1) := by decide +kernel
theorem dX5_copyFrom_29 : decode cX5_copyFrom 29 = .ok (.getfield 18, 3) := by decide +kernel
theorem dX5_copyFrom_32 : decode cX5_copyFrom 32 = .ok (.iconst 0, 1) := by decide +kernel
theorem dX5_copyFrom_33 : decode cX5_copyFrom 33 = .ok (.aload_n 0, 1) := by decide +kernel
theorem dX5_copyFrom_34 : decode cX5_copyFrom 34 = .ok (.getfield 18, 3) := by decide +kernel
theorem dX5_copyFrom_37 : decode cX5_copyFrom 37 = .ok (.iconst 0, 1) := by decide +kernel
theorem dX5_copyFrom_38 : decode cX5_copyFrom 38 = .ok (.iconst 4, 1) := by decide +kernel
theorem dX5_copyFrom_39 : decode cX5_copyFrom 39 = .ok (.invokestatic 61, 3) := by decide +kernel
theorem dX5_copyFrom_42 : decode cX5_copyFrom 42 = .ok (.aload_n 1, 1) := by decide +kernel
theorem dX5_copyFrom_43 : decode cX5_copyFrom 43 = .ok (.getfield 21, 3) := by decide +kernel
theorem dX5_copyFrom_46 : decode cX5_copyFrom 46 = .ok (.iconst 0, 1) := by decide +kernel
theorem dX5_copyFrom_47 : decode cX5_copyFrom 47 = .ok (.aload_n 0, 1) := by decide +kernel
theorem dX5_copyFrom_48 : decode cX5_copyFrom 48 = .ok (.getfield 21, 3) := by decide +kernel
theorem dX5_copyFrom_51 : decode cX5_copyFrom 51 = .ok (.iconst 0, 1) := by decide +kernel
theorem dX5_copyFrom_52 : decode cX5_copyFrom 52 = .ok (.iconst 4, 1) := by decide +kernel
theorem dX5_copyFrom_53 : decode cX5_copyFrom 53 = .ok (.invokestatic 61, 3) := by decide +kernel
theorem dX5_copyFrom_56 : decode cX5_copyFrom 56 = .ok (.aload_n 0, 1) := by decide +kernel
theorem dX5_copyFrom_57 : decode cX5_copyFrom 57 = .ok (.aload_n 1, 1) := by decide +kernel
theorem dX5_copyFrom_58 : decode cX5_copyFrom 58 = .ok (.getfield 46, 3) := by decide +kernel
theorem dX5_copyFrom_61 : decode cX5_copyFrom 61 = .ok (.putfield 46, 3) := by decide +kernel
theorem dX5_copyFrom_64 : decode cX5_copyFrom 64 = .ok (.aload_n 0, 1) := by decide +kernel
theorem dX5_copyFrom_65 : decode cX5_copyFrom 65 = .ok (.aload_n 1, 1) := by decide +kernel
theorem dX5_copyFrom_66 : decode cX5_copyFrom 66 = .ok (.getfield 49, 3) := by decide +kernel
theorem dX5_copyFrom_69 : decode cX5_copyFrom 69 = .ok (.putfield 49, 3) := by decide +kernel
theorem dX5_copyFrom_72 : decode cX5_copyFrom 72 = .ok (.return_, 1) := by decide +kernel
theorem dX2_copyFrom_0 : decode cX2_copyFrom 0 = .ok (.aload_n 1, 1) := by decide +kernel
theorem dX2_copyFrom_1 : decode cX2_copyFrom 1 = .ok (.getfield 9, 3) := by decide +kernel
theorem dX2_copyFrom_4 : decode cX2_copyFrom 4 = .ok (.iconst 0, 1) := by decide +kernel
theorem dX2_copyFrom_5 : decode cX2_copyFrom 5 = .ok (.aload_n 0, 1) := by decide +kernel
theorem dX2_copyFrom_6 : decode cX2_copyFrom 6 = .ok (.getfield 9, 3) := by decide +kernel
theorem dX2_copyFrom_9 : decode cX2_copyFrom 9 = .ok (.iconst 0, 1) := by decide +kernel
theorem dX2_copyFrom_10 : decode cX2_copyFrom 10 = .ok (.bipush 60, 2) := by decide +kernel
theorem dX2_copyFrom_12 : decode cX2_copyFrom 12 = .ok (.invokestatic 35, 3) := by decide +kernel
theorem dX2_copyFrom_15 : decode cX2_copyFrom 15 = .ok (.aload_n 1, 1) := by decide +kernel
theorem dX2_copyFrom_16 : decode cX2_copyFrom 16 = .ok (.getfield 15, 3) := by decide +kernel
theorem dX2_copyFrom_19 : decode cX2_copyFrom 19 = .ok (.iconst 0, 1) := by decide +kernel
theorem dX2_copyFrom_20 : decode cX2_copyFrom 20 = .ok (.aload_n 0, 1) := by decide +kernel
theorem dX2_copyFrom_21 : decode cX2_copyFrom 21 = .ok (.getfield 15, 3) := by decide +kernel
theorem dX2_copyFrom_24 : decode cX2_copyFrom 24 = .ok (.iconst 0, 1) := by decide +kernel
theorem dX2_copyFrom_25 : decode cX2_copyFrom 25 = .ok (.bipush 60, 2) := by decide +kernel
theorem dX2_copyFrom_27 : decode cX2_copyFrom 27 = .ok (.invokestatic 35, 3) := by decide +kernel
theorem dX2_copyFrom_30 : decode cX2_copyFrom 30 = .ok (.aload_n 1, 1) := by decide +kernel
theorem dX2_copyFrom_31 : decode cX2_copyFrom 31 = .ok (.getfield 18, 3) := by decide +kernel
theorem dX2_copyFrom_34 : decode cX2_copyFrom 34 = .ok (.iconst 0, 1) := by decide +kernel
theorem dX2_copyFrom_35 : decode cX2_copyFrom 35 = .ok (.aload_n 0, 1) := by decide +kernel
theorem dX2_copyFrom_36 : decode cX2_copyFrom 36 = .ok (.getfield 18, 3) := by decide +kernel
theorem dX2_copyFrom_39 : decode cX2_copyFrom 39 = .ok (.iconst 0, 1) := by decide +kernel
theorem dX2_copyFrom_40 : decode cX2_copyFrom 40 = .ok (.bipush 60, 2) := by decide +kernel
theorem dX2_copyFrom_42 : decode cX2_copyFrom 42 = .ok (.invokestatic 35, 3) := by decide +kernel
theorem dX2_copyFrom_45 : decode cX2_copyFrom 45 = .ok (.aload_n 1, 1) := by decide +kernel
theorem dX2_copyFrom_46 : decode cX2_copyFrom 46 = .ok (.getfield 21, 3) := by decide +kernel
theorem dX2_copyFrom_49 : decode cX2_copyFrom 49 = .ok (.iconst 0, 1) := by decide +kernel
theorem dX2_copyFrom_50 : decode cX2_copyFrom 50 = .ok (.aload_n 0, 1) := by decide +kernel
theorem dX2_copyFrom_51 : decode cX2_copyFrom 51 = .ok (.getfield 21, 3) := by decide +kernel
theorem dX2_copyFrom_54 : decode cX2_copyFrom 54 = .ok (.iconst 0, 1) := by decide +kernel
theorem dX2_copyFrom_55 : decode cX2_copyFrom 55 = .ok (.bipush 60, 2) := by decide +kernel
theorem dX2_copyFrom_57 : decode cX2_copyFrom 57 = .ok (.invokestatic 35, 3) := by decide +kernel
theorem dX2_copyFrom_60 : decode cX2_copyFrom 60 = .ok (.aload_n 0, 1) := by decide +kernel
theorem dX2_copyFrom_61 : decode cX2_copyFrom 61 = .ok (.aload_n 1, 1) := by decide +kernel
theorem dX2_copyFrom_62 : decode cX2_copyFrom 62 = .ok (.getfield 24, 3) := by decide +kernel
theorem dX2_copyFrom_65 : decode cX2_copyFrom 65 = .ok (.putfield 24, 3) := by decide +kernel
theorem dX2_copyFrom_68 : decode cX2_copyFrom 68 = .ok (.aload_n 0, 1) := by decide +kernel
theorem dX2_copyFrom_69 : decode cX2_copyFrom 69 = .ok (.aload_n 1, 1) := by decide +kernel
theorem dX2_copyFrom_70 : decode cX2_copyFrom 70 = .ok (.getfield 28, 3) := by decide +kernel
theorem dX2_copyFrom_73 : decode cX2_copyFrom 73 = .ok (.putfield 28, 3) := by decide +kernel
theorem dX2_copyFrom_76 : decode cX2_copyFrom 76 = .ok (.return_, 1) := by decide +kernel
/-- a row copied from the row b into the row a -/
def iCpy (I : Nat → Int → Int) (a b n : Nat) (l : Int) : Nat → Int → Int := fun x => if a + 1 ≤ x ∧ x ≤ a + n then wCq (I x) (I (b + (x - a))) l else I x
theorem iCpy_0 (I : Nat → Int → Int) (a b : Nat) (l : Int) : iCpy I a b 0 l = I := by funext x; exact if_neg (by omega)
theorem iCpy_s (I : Nat → Int → Int) (a b n : Nat) (l : Int) (h : b + n < a ∨ a + n < b) : upA (iCpy I a b n l) (a + (n + 1)) (wCq (iCpy I a b n l (a + (n + 1))) (iCpy I a b n l (b + (n + 1))) l) = iCpy I a b (n + 1) l := by
  funext x
  unfold upA iCpy
  by_cases hx : x = a + (n + 1)
  · subst hx
    rw [if_pos rfl, if_neg (by omega), if_neg (by omega), if_pos (by omega), show a + (n + 1) - a = n + 1 by omega]
  · rw [if_neg hx]
    by_cases h2 : a + 1 ≤ x ∧ x ≤ a + n
    · rw [if_pos h2, if_pos (by omega)]
    · rw [if_neg h2, if_neg (by omega)]
theorem iCpy_at (I : Nat → Int → Int) (a b n k : Nat) (l : Int) (h : 1 ≤ k ∧ k ≤ n) : iCpy I a b n l (a + k) = wCq (I (a + k)) (I (b + k)) l := by unfold iCpy; rw [if_pos (by omega), show a + k - a = k by omega]
theorem iCpy_na (I : Nat → Int → Int) (a b n : Nat) (l : Int) {x : Nat} (h : x < a + 1 ∨ a + n < x) : iCpy I a b n l x = I x := if_neg (by omega)
set_option maxHeartbeats 4000000 in
set_option maxRecDepth 100000 in
theorem ct_X6_copyFrom {E : xE} {z : Nat} {T : Nat → Nat × Int} {F : Nat → Nat → Int} {I : Nat → Int → Int} {P : Nat → Nat → Option Nat} {Y : Nat → Int → Option Nat} {a b : Nat} (hw : wRow T P a) (hv : wRow T P b) (hab : b + 2 < a ∨ a + 2 < b) : Ct E 1 mX6_copyFrom 0 0 [.ref a, .ref b] (z, T, F, I, P, Y) (xd none (z, T, upF (upF (upF F a 2 (F b 2)) a 3 (F b 3)) a 4 (F b 4), iCpy I a b 2 60, P, Y)) := by
  obtain ⟨w0, w1, w2, ⟨w3, w4⟩, w5, w6⟩ := hw
  obtain ⟨u0, u1, u2, ⟨u3, u4⟩, u5, u6⟩ := hv
  have hne : b ≠ a := by omega
  refine Ct.of [some (.ref a), some (.ref b)] kt_X6_copyFrom rfl (Nat.le_of_ble_eq_true rfl) rfl (fun d hd => ?_)
  generalize hX : xN E _ _ _ = X
  refine xg_boo (b := b) (by assumption) (fun hz => ?_)
  refine xg_aloadn 1 dX6_copyFrom_0 rfl rfl rfl ?_
  refine xg_getP 4 kf_RX6_9 dX6_copyFrom_1 rfl (by assumption) (by assumption) ?_
  refine xg_iconst 5 dX6_copyFrom_4 rfl ?_
  refine xg_aloadn 6 dX6_copyFrom_5 rfl rfl rfl ?_
  refine xg_getP 9 kf_RX6_9 dX6_copyFrom_6 rfl (by assumption) (by assumption) ?_
  refine xg_iconst 10 dX6_copyFrom_9 rfl ?_
  refine xg_bipush 12 dX6_copyFrom_10 rfl (by decide) ?_
  refine xg_acp 15 kl_RX6_29 dX6_copyFrom_12 rfl (by assumption) (by assumption) (by omega) (by omega) (Nat.le_of_ble_eq_true rfl) (by omega) ?_
  rw [show upA I (a + 1) (wCq (I (a + 1)) (I (b + 1)) 60) = iCpy I a b 1 60 from by have e := iCpy_s I a b 0 60 (by omega); rw [iCpy_0] at e; exact e]
  refine xg_aloadn 16 dX6_copyFrom_15 rfl rfl rfl ?_
  refine xg_getP 19 kf_RX6_15 dX6_copyFrom_16 rfl (by assumption) (by assumption) ?_
  refine xg_iconst 20 dX6_copyFrom_19 rfl ?_
  refine xg_aloadn 21 dX6_copyFrom_20 rfl rfl rfl ?_
  refine xg_getP 24 kf_RX6_15 dX6_copyFrom_21 rfl (by assumption) (by assumption) ?_
  refine xg_iconst 25 dX6_copyFrom_24 rfl ?_
  refine xg_bipush 27 dX6_copyFrom_25 rfl (by decide) ?_
  refine xg_acp 30 kl_RX6_29 dX6_copyFrom_27 rfl (by assumption) (by assumption) (by omega) (by omega) (Nat.le_of_ble_eq_true rfl) (by omega) ?_
  rw [show upA (iCpy I a b 1 60) (a + 2) (wCq (iCpy I a b 1 60 (a + 2)) (iCpy I a b 1 60 (b + 2)) 60) = iCpy I a b 2 60 from iCpy_s I a b 1 60 (by omega)]
  refine xg_aloadn 31 dX6_copyFrom_30 rfl rfl rfl ?_
  refine xg_aloadn 32 dX6_copyFrom_31 rfl rfl rfl ?_
  refine xg_getI 35 kf_RX6_18 dX6_copyFrom_32 rfl (by assumption) ?_
  refine xg_putI 38 kf_RX6_18 dX6_copyFrom_35 rfl (by assumption) ?_
  refine xg_aloadn 39 dX6_copyFrom_38 rfl rfl rfl ?_
  refine xg_aloadn 40 dX6_copyFrom_39 rfl rfl rfl ?_
  refine xg_getI 43 kf_RX6_22 dX6_copyFrom_40 rfl (by assumption) ?_
  simp only [upF_na _ _ _ _ hne]
  refine xg_putI 46 kf_RX6_22 dX6_copyFrom_43 rfl (by assumption) ?_
  refine xg_aloadn 47 dX6_copyFrom_46 rfl rfl rfl ?_
  refine xg_aloadn 48 dX6_copyFrom_47 rfl rfl rfl ?_
  refine xg_getI 51 kf_RX6_25 dX6_copyFrom_48 rfl (by assumption) ?_
  simp only [upF_na _ _ _ _ hne]
  refine xg_putZJ 54 kf_RX6_25 dX6_copyFrom_51 rfl (by assumption) hz ?_
  subst hX
  exact xg_return dX6_copyFrom_54 rfl ⟨Nat.le_refl _, Nat.le_refl _⟩ ⟨rfl, rfl⟩

set_option maxHeartbeats 4000000 in
set_option maxRecDepth 100000 in
theorem ct_X5_copyFrom {E : xE} {z : Nat} {T : Nat → Nat × Int} {F : Nat → Nat → Int} {I : Nat → Int → Int} {P : Nat → Nat → Option Nat} {Y : Nat → Int → Option Nat} {a b : Nat} (hw : wLev T P a) (hv : wLev T P b) (hab : b + 4 < a ∨ a + 4 < b) : Ct E 1 mX5_copyFrom 0 0 [.ref a, .ref b] (z, T, F, I, P, Y) (xd none (z, T, upF (upF F a 4 (F b 4)) a 5 (F b 5), iCpy I a b 4 4, P, Y)) := by
  obtain ⟨w0, ⟨w1, w2, w3, w4⟩, ⟨k1, l1⟩, ⟨k2, l2⟩, ⟨k3, l3⟩, k4, l4⟩ := hw
  obtain ⟨u0, ⟨u1, u2, u3, u4⟩, ⟨v1, y1⟩, ⟨v2, y2⟩, ⟨v3, y3⟩, v4, y4⟩ := hv
  have hne : b ≠ a := by omega
  refine Ct.of [some (.ref a), some (.ref b)] kt_X5_copyFrom rfl (Nat.le_of_ble_eq_true rfl) rfl (fun d hd => ?_)
  generalize hX : xN E _ _ _ = X
  refine xg_aloadn 1 dX5_copyFrom_0 rfl rfl rfl ?_
  refine xg_getP 4 kf_RX5_9 dX5_copyFrom_1 rfl (by assumption) (by assumption) ?_
  refine xg_iconst 5 dX5_copyFrom_4 rfl ?_
  refine xg_aloadn 6 dX5_copyFrom_5 rfl rfl rfl ?_
  refine xg_getP 9 kf_RX5_9 dX5_copyFrom_6 rfl (by assumption) (by assumption) ?_
  refine xg_iconst 10 dX5_copyFrom_9 rfl ?_
  refine xg_iconst 11 dX5_copyFrom_10 rfl ?_
  refine xg_acp 14 kl_RX5_61 dX5_copyFrom_11 rfl (by assumption) (by assumption) (by omega) (by omega) (Nat.le_of_ble_eq_true rfl) (by omega) ?_
  rw [show upA I (a + 1) (wCq (I (a + 1)) (I (b + 1)) 4) = iCpy I a b 1 4 from by have e := iCpy_s I a b 0 4 (by omega); rw [iCpy_0] at e; exact e]
  refine xg_aloadn 15 dX5_copyFrom_14 rfl rfl rfl ?_
  refine xg_getP 18 kf_RX5_15 dX5_copyFrom_15 rfl (by assumption) (by assumption) ?_
  refine xg_iconst 19 dX5_copyFrom_18 rfl ?_
  refine xg_aloadn 20 dX5_copyFrom_19 rfl rfl rfl ?_
  refine xg_getP 23 kf_RX5_15 dX5_copyFrom_20 rfl (by assumption) (by assumption) ?_
  refine xg_iconst 24 dX5_copyFrom_23 rfl ?_
  refine xg_iconst 25 dX5_copyFrom_24 rfl ?_
  refine xg_acp 28 kl_RX5_61 dX5_copyFrom_25 rfl (by assumption) (by assumption) (by omega) (by omega) (Nat.le_of_ble_eq_true rfl) (by omega) ?_
  rw [show upA (iCpy I a b 1 4) (a + 2) (wCq (iCpy I a b 1 4 (a + 2)) (iCpy I a b 1 4 (b + 2)) 4) = iCpy I a b 2 4 from iCpy_s I a b 1 4 (by omega)]
  refine xg_aloadn 29 dX5_copyFrom_28 rfl rfl rfl ?_
  refine xg_getP 32 kf_RX5_18 dX5_copyFrom_29 rfl (by assumption) (by assumption) ?_
  refine xg_iconst 33 dX5_copyFrom_32 rfl ?_
  refine xg_aloadn 34 dX5_copyFrom_33 rfl rfl rfl ?_
  refine xg_getP 37 kf_RX5_18 dX5_copyFrom_34 rfl (by assumption) (by assumption) ?_
  refine xg_iconst 38 dX5_copyFrom_37 rfl ?_
  refine xg_iconst 39 dX5_copyFrom_38 rfl ?_
  refine xg_acp 42 kl_RX5_61 dX5_copyFrom_39 rfl (by assumption) (by assumption) (by omega) (by omega) (Nat.le_of_ble_eq_true rfl) (by omega) ?_
  rw [show upA (iCpy I a b 2 4) (a + 3) (wCq (iCpy I a b 2 4 (a + 3)) (iCpy I a b 2 4 (b + 3)) 4) = iCpy I a b 3 4 from iCpy_s I a b 2 4 (by omega)]
  refine xg_aloadn 43 dX5_copyFrom_42 rfl rfl rfl ?_
  refine xg_getP 46 kf_RX5_21 dX5_copyFrom_43 rfl (by assumption) (by assumption) ?_
  refine xg_iconst 47 dX5_copyFrom_46 rfl ?_
  refine xg_aloadn 48 dX5_copyFrom_47 rfl rfl rfl ?_
  refine xg_getP 51 kf_RX5_21 dX5_copyFrom_48 rfl (by assumption) (by assumption) ?_
  refine xg_iconst 52 dX5_copyFrom_51 rfl ?_
  refine xg_iconst 53 dX5_copyFrom_52 rfl ?_
  refine xg_acp 56 kl_RX5_61 dX5_copyFrom_53 rfl (by assumption) (by assumption) (by omega) (by omega) (Nat.le_of_ble_eq_true rfl) (by omega) ?_
  rw [show upA (iCpy I a b 3 4) (a + 4) (wCq (iCpy I a b 3 4 (a + 4)) (iCpy I a b 3 4 (b + 4)) 4) = iCpy I a b 4 4 from iCpy_s I a b 3 4 (by omega)]
  refine xg_aloadn 57 dX5_copyFrom_56 rfl rfl rfl ?_
  refine xg_aloadn 58 dX5_copyFrom_57 rfl rfl rfl ?_
  refine xg_getI 61 kf_RX5_46 dX5_copyFrom_58 rfl (by assumption) ?_
  refine xg_putI 64 kf_RX5_46 dX5_copyFrom_61 rfl (by assumption) ?_
  refine xg_aloadn 65 dX5_copyFrom_64 rfl rfl rfl ?_
  refine xg_aloadn 66 dX5_copyFrom_65 rfl rfl rfl ?_
  refine xg_getI 69 kf_RX5_49 dX5_copyFrom_66 rfl (by assumption) ?_
  simp only [upF_na _ _ _ _ hne]
  refine xg_putI 72 kf_RX5_49 dX5_copyFrom_69 rfl (by assumption) ?_
  subst hX
  exact xg_return dX5_copyFrom_72 rfl ⟨Nat.le_refl _, Nat.le_refl _⟩ ⟨rfl, rfl⟩

set_option maxHeartbeats 4000000 in
set_option maxRecDepth 100000 in
theorem ct_X2_copyFrom {E : xE} {z : Nat} {T : Nat → Nat × Int} {F : Nat → Nat → Int} {I : Nat → Int → Int} {P : Nat → Nat → Option Nat} {Y : Nat → Int → Option Nat} {a b : Nat} (hw : wJou T P a) (hv : wJou T P b) (hab : b + 4 < a ∨ a + 4 < b) : Ct E 1 mX2_copyFrom 0 0 [.ref a, .ref b] (z, T, F, I, P, Y) (xd none (z, T, upF (upF F a 4 (F b 4)) a 5 (F b 5), iCpy I a b 4 60, P, Y)) := by
  obtain ⟨w0, ⟨w1, w2, w3, w4⟩, ⟨k1, l1⟩, ⟨k2, l2⟩, ⟨k3, l3⟩, k4, l4⟩ := hw
  obtain ⟨u0, ⟨u1, u2, u3, u4⟩, ⟨v1, y1⟩, ⟨v2, y2⟩, ⟨v3, y3⟩, v4, y4⟩ := hv
  have hne : b ≠ a := by omega
  refine Ct.of [some (.ref a), some (.ref b)] kt_X2_copyFrom rfl (Nat.le_of_ble_eq_true rfl) rfl (fun d hd => ?_)
  generalize hX : xN E _ _ _ = X
  refine xg_aloadn 1 dX2_copyFrom_0 rfl rfl rfl ?_
  refine xg_getP 4 kf_RX2_9 dX2_copyFrom_1 rfl (by assumption) (by assumption) ?_
  refine xg_iconst 5 dX2_copyFrom_4 rfl ?_
  refine xg_aloadn 6 dX2_copyFrom_5 rfl rfl rfl ?_
  refine xg_getP 9 kf_RX2_9 dX2_copyFrom_6 rfl (by assumption) (by assumption) ?_
  refine xg_iconst 10 dX2_copyFrom_9 rfl ?_
  refine xg_bipush 12 dX2_copyFrom_10 rfl (by decide) ?_
  refine xg_acp 15 kl_RX2_35 dX2_copyFrom_12 rfl (by assumption) (by assumption) (by omega) (by omega) (Nat.le_of_ble_eq_true rfl) (by omega) ?_
  rw [show upA I (a + 1) (wCq (I (a + 1)) (I (b + 1)) 60) = iCpy I a b 1 60 from by have e := iCpy_s I a b 0 60 (by omega); rw [iCpy_0] at e; exact e]
  refine xg_aloadn 16 dX2_copyFrom_15 rfl rfl rfl ?_
  refine xg_getP 19 kf_RX2_15 dX2_copyFrom_16 rfl (by assumption) (by assumption) ?_
  refine xg_iconst 20 dX2_copyFrom_19 rfl ?_
  refine xg_aloadn 21 dX2_copyFrom_20 rfl rfl rfl ?_
  refine xg_getP 24 kf_RX2_15 dX2_copyFrom_21 rfl (by assumption) (by assumption) ?_
  refine xg_iconst 25 dX2_copyFrom_24 rfl ?_
  refine xg_bipush 27 dX2_copyFrom_25 rfl (by decide) ?_
  refine xg_acp 30 kl_RX2_35 dX2_copyFrom_27 rfl (by assumption) (by assumption) (by omega) (by omega) (Nat.le_of_ble_eq_true rfl) (by omega) ?_
  rw [show upA (iCpy I a b 1 60) (a + 2) (wCq (iCpy I a b 1 60 (a + 2)) (iCpy I a b 1 60 (b + 2)) 60) = iCpy I a b 2 60 from iCpy_s I a b 1 60 (by omega)]
  refine xg_aloadn 31 dX2_copyFrom_30 rfl rfl rfl ?_
  refine xg_getP 34 kf_RX2_18 dX2_copyFrom_31 rfl (by assumption) (by assumption) ?_
  refine xg_iconst 35 dX2_copyFrom_34 rfl ?_
  refine xg_aloadn 36 dX2_copyFrom_35 rfl rfl rfl ?_
  refine xg_getP 39 kf_RX2_18 dX2_copyFrom_36 rfl (by assumption) (by assumption) ?_
  refine xg_iconst 40 dX2_copyFrom_39 rfl ?_
  refine xg_bipush 42 dX2_copyFrom_40 rfl (by decide) ?_
  refine xg_acp 45 kl_RX2_35 dX2_copyFrom_42 rfl (by assumption) (by assumption) (by omega) (by omega) (Nat.le_of_ble_eq_true rfl) (by omega) ?_
  rw [show upA (iCpy I a b 2 60) (a + 3) (wCq (iCpy I a b 2 60 (a + 3)) (iCpy I a b 2 60 (b + 3)) 60) = iCpy I a b 3 60 from iCpy_s I a b 2 60 (by omega)]
  refine xg_aloadn 46 dX2_copyFrom_45 rfl rfl rfl ?_
  refine xg_getP 49 kf_RX2_21 dX2_copyFrom_46 rfl (by assumption) (by assumption) ?_
  refine xg_iconst 50 dX2_copyFrom_49 rfl ?_
  refine xg_aloadn 51 dX2_copyFrom_50 rfl rfl rfl ?_
  refine xg_getP 54 kf_RX2_21 dX2_copyFrom_51 rfl (by assumption) (by assumption) ?_
  refine xg_iconst 55 dX2_copyFrom_54 rfl ?_
  refine xg_bipush 57 dX2_copyFrom_55 rfl (by decide) ?_
  refine xg_acp 60 kl_RX2_35 dX2_copyFrom_57 rfl (by assumption) (by assumption) (by omega) (by omega) (Nat.le_of_ble_eq_true rfl) (by omega) ?_
  rw [show upA (iCpy I a b 3 60) (a + 4) (wCq (iCpy I a b 3 60 (a + 4)) (iCpy I a b 3 60 (b + 4)) 60) = iCpy I a b 4 60 from iCpy_s I a b 3 60 (by omega)]
  refine xg_aloadn 61 dX2_copyFrom_60 rfl rfl rfl ?_
  refine xg_aloadn 62 dX2_copyFrom_61 rfl rfl rfl ?_
  refine xg_getI 65 kf_RX2_24 dX2_copyFrom_62 rfl (by assumption) ?_
  refine xg_putI 68 kf_RX2_24 dX2_copyFrom_65 rfl (by assumption) ?_
  refine xg_aloadn 69 dX2_copyFrom_68 rfl rfl rfl ?_
  refine xg_aloadn 70 dX2_copyFrom_69 rfl rfl rfl ?_
  refine xg_getI 73 kf_RX2_28 dX2_copyFrom_70 rfl (by assumption) ?_
  simp only [upF_na _ _ _ _ hne]
  refine xg_putI 76 kf_RX2_28 dX2_copyFrom_73 rfl (by assumption) ?_
  subst hX
  exact xg_return dX2_copyFrom_76 rfl ⟨Nat.le_refl _, Nat.le_refl _⟩ ⟨rfl, rfl⟩

