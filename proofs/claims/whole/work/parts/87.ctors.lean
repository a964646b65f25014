theorem dX1_init_0 : decode cX1_init 0 = .ok (.aload_n 0, 1) := by decide +kernel
theorem dX1_init_1 : decode cX1_init 1 = .ok (.invokespecial 1, 3) := by decide +kernel
theorem dX1_init_4 : decode cX1_init 4 = .ok (.return_, 1) := by decide +kernel
theorem dX10_init_0 : decode cX10_init 0 = .ok (.aload_n 0, 1) := by decide +kernel
theorem dX10_init_1 : decode cX10_init 1 = .ok (.invokespecial 3, 3) := by decide +kernel
theorem dX10_init_4 : decode cX10_init 4 = .ok (.return_, 1) := by decide +kernel
theorem dX5_init_0 : decode cX5_init 0 = .ok (.aload_n 0, 1) := by decide +kernel
theorem dX5_init_1 : decode cX5_init 1 = .ok (.invokespecial 3, 3) := by decide +kernel
theorem dX5_init_4 : decode cX5_init 4 = .ok (.aload_n 0, 1) := by decide +kernel
theorem dX5_init_5 : decode cX5_init 5 = .ok (.iconst 4, 1) := by decide +kernel
theorem dX5_init_6 : decode cX5_init 6 = .ok (.newarray .int, 2) := by decide +kernel
theorem dX5_init_8 : decode cX5_init 8 = .ok (.putfield 9, 3) := by decide +kernel
theorem dX5_init_11 : decode cX5_init 11 = .ok (.aload_n 0, 1) := by decide +kernel
theorem dX5_init_12 : decode cX5_init 12 = .ok (.iconst 4, 1) := by decide +kernel
theorem dX5_init_13 : decode cX5_init 13 = .ok (.newarray .int, 2) := by decide +kernel
theorem dX5_init_15 : decode cX5_init 15 = .ok (.putfield 15, 3) := by decide +kernel
theorem dX5_init_18 : decode cX5_init 18 = .ok (.aload_n 0, 1) := by decide +kernel
theorem dX5_init_19 : decode cX5_init 19 = .ok (.iconst 4, 1) := by decide +kernel
theorem dX5_init_20 : decode cX5_init 20 = .ok (.newarray .int, 2) := by decide +kernel
theorem dX5_init_22 : decode cX5_init 22 = .ok (.putfield 18, 3) := by decide +kernel
theorem dX5_init_25 : decode cX5_init 25 = .ok (.aload_n 0, 1) := by decide +kernel
theorem dX5_init_26 : decode cX5_init 26 = .ok (.iconst 4, 1) := by decide +kernel
theorem dX5_init_27 : decode cX5_init 27 = .ok (.newarray .int, 2) := by decide +kernel
theorem dX5_init_29 : decode cX5_init 29 = .ok (.putfield 21, 3) := by decide +kernel
theorem dX5_init_32 : decode cX5_init 32 = .ok (.return_, 1) := by decide +kernel
theorem dX2_init_0 : decode cX2_init 0 = .ok (.aload_n 0, 1) := by decide +kernel
theorem dX2_init_1 : decode cX2_init 1 = .ok (.invokespecial 3, 3) := by decide +kernel
theorem dX2_init_4 : decode cX2_init 4 = .ok (.aload_n 0, 1) := by decide +kernel
theorem dX2_init_5 : decode cX2_init 5 = .ok (.bipush 60, 2) := by decide +kernel
theorem dX2_init_7 : decode cX2_init 7 = .ok (.newarray .int, 2) := by decide +kernel
theorem dX2_init_9 : decode cX2_init 9 = .ok (.putfield 9, 3) := by decide +kernel
theorem dX2_init_12 : decode cX2_init 12 = .ok (.aload_n 0, 1) := by decide +kernel
theorem dX2_init_13 : decode cX2_init 13 = .ok (.bipush 60, 2) := by decide +kernel
theorem dX2_init_15 : decode cX2_init 15 = .ok (.newarray .int, 2) := by decide +kernel
theorem dX2_init_17 : decode cX2_init 17 = .ok (.putfield 15, 3) := by decide +kernel
theorem dX2_init_20 : decode cX2_init 20 = .ok (.aload_n 0, 1) := by decide +kernel
theorem dX2_init_21 : decode cX2_init 21 = .ok (.bipush 60, 2) := by decide +kernel
theorem dX2_init_23 : decode cX2_init 23 = .ok (.newarray .int, 2) := by decide +kernel
theorem dX2_init_25 : decode cX2_init 25 = .ok (.putfield 18, 3) := by decide +kernel
theorem dX2_init_28 : decode cX2_init 28 = .ok (.aload_n 0, 1) := by decide +kernel
theorem dX2_init_29 : decode cX2_init 29 = .ok (.bipush 60, 2) := by decide +kernel
theorem dX2_init_31 : decode cX2_init 31 = .ok (.newarray .int, 2) := by decide +kernel
theorem dX2_init_33 : decode cX2_init 33 = .ok (.putfield 21, 3) := by decide +kernel
theorem dX2_init_36 : decode cX2_init 36 = .ok (.return_, 1) := by decide +kernel
theorem dX6_init_0 : decode cX6_init 0 = .ok (.aload_n 0, 1) := by decide +kernel
theorem dX6_init_1 : decode cX6_init 1 = .ok (.invokespecial 3, 3) := by decide +kernel
theorem dX6_init_4 : decode cX6_init 4 = .ok (.aload_n 0, 1) := by decide +kernel
theorem dX6_init_5 : decode cX6_init 5 = .ok (.bipush 60, 2) := by decide +kernel
theorem dX6_init_7 : decode cX6_init 7 = .ok (.newarray .int, 2) := by decide +kernel
theorem dX6_init_9 : decode cX6_init 9 = .ok (.putfield 9, 3) := by decide +kernel
theorem dX6_init_12 : decode cX6_init 12 = .ok (.aload_n 0, 1) := by decide +kernel
theorem dX6_init_13 : decode cX6_init 13 = .ok (.bipush 60, 2) := by decide +kernel
theorem dX6_init_15 : decode cX6_init 15 = .ok (.newarray .int, 2) := by decide +kernel
theorem dX6_init_17 : decode cX6_init 17 = .ok (.putfield 15, 3) := by decide +kernel
theorem dX6_init_20 : decode cX6_init 20 = .ok (.iconst 0, 1) := by decide +kernel
theorem dX6_init_21 : decode cX6_init 21 = .ok (.istore_n 1, 1) := by decide +kernel
theorem dX6_init_22 : decode cX6_init 22 = .ok (.iload_n 1, 1) := by decide +kernel
theorem dX6_init_23 : decode cX6_init 23 = .ok (.bipush 60, 2) := by decide +kernel
theorem dX6_init_25 : decode cX6_init 25 = .ok (.if_icmp .ge 16, 3) := by decide +kernel
theorem dX6_init_28 : decode cX6_init 28 = .ok (.aload_n 0, 1) := by decide +kernel
theorem dX6_init_29 : decode cX6_init 29 = .ok (.getfield 9, 3) := by decide +kernel
theorem dX6_init_32 : decode cX6_init 32 = .ok (.iload_n 1, 1) := by decide +kernel
theorem dX6_init_33 : decode cX6_init 33 = .ok (.iconst (-1), 1) := by decide +kernel
theorem dX6_init_34 : decode cX6_init 34 = .ok (.iastore, 1) := by decide +kernel
theorem dX6_init_35 : decode cX6_init 35 = .ok (.iinc 1 1, 3) := by decide +kernel
theorem dX6_init_38 : decode cX6_init 38 = .ok (.goto (-16), 3) := by decide +kernel
theorem dX6_init_41 : decode cX6_init 41 = .ok (.return_, 1) := by decide +kernel
theorem dX7_init_0 : decode cX7_init 0 = .ok (.aload_n 0, 1) := by decide +kernel
theorem dX7_init_1 : decode cX7_init 1 = .ok (.invokespecial 3, 3) := by decide +kernel
theorem dX7_init_4 : decode cX7_init 4 = .ok (.aload_n 0, 1) := by decide +kernel
theorem dX7_init_5 : decode cX7_init 5 = .ok (.sipush 401, 3) := by decide +kernel
theorem dX7_init_8 : decode cX7_init 8 = .ok (.newarray .int, 2) := by decide +kernel
theorem dX7_init_10 : decode cX7_init 10 = .ok (.putfield 9, 3) := by decide +kernel
theorem dX7_init_13 : decode cX7_init 13 = .ok (.aload_n 0, 1) := by decide +kernel
theorem dX7_init_14 : decode cX7_init 14 = .ok (.sipush 401, 3) := by decide +kernel
theorem dX7_init_17 : decode cX7_init 17 = .ok (.newarray .int, 2) := by decide +kernel
theorem dX7_init_19 : decode cX7_init 19 = .ok (.putfield 15, 3) := by decide +kernel
theorem dX7_init_22 : decode cX7_init 22 = .ok (.aload_n 0, 1) := by decide +kernel
theorem dX7_init_23 : decode cX7_init 23 = .ok (.sipush 401, 3) := by decide +kernel
theorem dX7_init_26 : decode cX7_init 26 = .ok (.newarray .int, 2) := by decide +kernel
theorem dX7_init_28 : decode cX7_init 28 = .ok (.putfield 18, 3) := by decide +kernel
theorem dX7_init_31 : decode cX7_init 31 = .ok (.aload_n 0, 1) := by decide +kernel
theorem dX7_init_32 : decode cX7_init 32 = .ok (.iconst (-1), 1) := by decide +kernel
theorem dX7_init_33 : decode cX7_init 33 = .ok (.putfield 21, 3) := by decide +kernel
theorem dX7_init_36 : decode cX7_init 36 = .ok (.return_, 1) := by decide +kernel
set_option maxHeartbeats 4000000 in
set_option maxRecDepth 100000 in
theorem ct_X1_init {E : xE} {z : Nat} {T : Nat → Nat × Int} {F : Nat → Nat → Int} {I : Nat → Int → Int} {P : Nat → Nat → Option Nat} {Y : Nat → Int → Option Nat} {a : Nat} : Ct E 1 mX1_init 0 0 [.ref a] (z, T, F, I, P, Y) (xd none (z, T, F, I, P, Y)) := by
  refine Ct.of [some (.ref a)] kt_X1_init rfl (Nat.le_of_ble_eq_true rfl) rfl (fun d hd => ?_)
  generalize hX : xN E _ _ _ = X
  refine xg_aloadn 1 dX1_init_0 rfl rfl rfl ?_
  refine xg_oi 4 kl_RX1_1 dX1_init_1 rfl (Nat.le_of_ble_eq_true rfl) (by omega) ?_
  subst hX
  exact xg_return dX1_init_4 rfl ⟨Nat.le_refl _, Nat.le_refl _⟩ ⟨rfl, rfl⟩

set_option maxHeartbeats 4000000 in
set_option maxRecDepth 100000 in
theorem ct_X10_init {E : xE} {z : Nat} {T : Nat → Nat × Int} {F : Nat → Nat → Int} {I : Nat → Int → Int} {P : Nat → Nat → Option Nat} {Y : Nat → Int → Option Nat} {a : Nat} : Ct E 1 mX10_init 0 0 [.ref a] (z, T, F, I, P, Y) (xd none (z, T, F, I, P, Y)) := by
  refine Ct.of [some (.ref a)] kt_X10_init rfl (Nat.le_of_ble_eq_true rfl) rfl (fun d hd => ?_)
  generalize hX : xN E _ _ _ = X
  refine xg_aloadn 1 dX10_init_0 rfl rfl rfl ?_
  refine xg_oi 4 kl_RX10_3 dX10_init_1 rfl (Nat.le_of_ble_eq_true rfl) (by omega) ?_
  subst hX
  exact xg_return dX10_init_4 rfl ⟨Nat.le_refl _, Nat.le_refl _⟩ ⟨rfl, rfl⟩

set_option maxHeartbeats 4000000 in
set_option maxRecDepth 100000 in
theorem ct_X5_init {E : xE} {z : Nat} {T : Nat → Nat × Int} {F : Nat → Nat → Int} {I : Nat → Int → Int} {P : Nat → Nat → Option Nat} {Y : Nat → Int → Option Nat} {a : Nat} (hk : (T a).1 = 6) (ha : a < z) : Ct E 1 mX5_init 4 16 [.ref a] (z, T, F, I, P, Y) (xd none ((z + 1 + 1 + 1 + 1), (upT (upT (upT (upT T z 14 4) (z + 1) 14 4) (z + 1 + 1) 14 4) (z + 1 + 1 + 1) 14 4), F, (up0 (up0 (up0 (up0 I z 0) (z + 1) 0) (z + 1 + 1) 0) (z + 1 + 1 + 1) 0), (upP (upP (upP (upP P a 0 (some z)) a 1 (some (z + 1))) a 2 (some (z + 1 + 1))) a 3 (some (z + 1 + 1 + 1))), Y)) := by
  refine Ct.of [some (.ref a)] kt_X5_init rfl (Nat.le_of_ble_eq_true rfl) rfl (fun d hd => ?_)
  generalize hX : xN E _ _ _ = X
  refine xg_aloadn 1 dX5_init_0 rfl rfl rfl ?_
  refine xg_oi 4 kl_RX5_3 dX5_init_1 rfl (Nat.le_of_ble_eq_true rfl) (by omega) ?_
  refine xg_aloadn 5 dX5_init_4 rfl rfl rfl ?_
  refine xg_iconst 6 dX5_init_5 rfl ?_
  refine xg_nai 8 dX5_init_6 rfl (by omega) ⟨by first | decide | omega, by first | decide | omega⟩ ?_
  refine xg_putAF 11 kf_RX5_9 rfl (fun C T N h => by cases h.1; rfl) dX5_init_8 rfl (by simp (disch := omega) only [upT_at, upT_na, hk]) (show _ = va_rf (some _) from rfl) ?_
  refine xg_aloadn 12 dX5_init_11 rfl rfl rfl ?_
  refine xg_iconst 13 dX5_init_12 rfl ?_
  refine xg_nai 15 dX5_init_13 rfl (by omega) ⟨by first | decide | omega, by first | decide | omega⟩ ?_
  refine xg_putAF 18 kf_RX5_15 rfl (fun C T N h => by cases h.1; rfl) dX5_init_15 rfl (by simp (disch := omega) only [upT_at, upT_na, hk]) (show _ = va_rf (some _) from rfl) ?_
  refine xg_aloadn 19 dX5_init_18 rfl rfl rfl ?_
  refine xg_iconst 20 dX5_init_19 rfl ?_
  refine xg_nai 22 dX5_init_20 rfl (by omega) ⟨by first | decide | omega, by first | decide | omega⟩ ?_
  refine xg_putAF 25 kf_RX5_18 rfl (fun C T N h => by cases h.1; rfl) dX5_init_22 rfl (by simp (disch := omega) only [upT_at, upT_na, hk]) (show _ = va_rf (some _) from rfl) ?_
  refine xg_aloadn 26 dX5_init_25 rfl rfl rfl ?_
  refine xg_iconst 27 dX5_init_26 rfl ?_
  refine xg_nai 29 dX5_init_27 rfl (by omega) ⟨by first | decide | omega, by first | decide | omega⟩ ?_
  refine xg_putAF 32 kf_RX5_21 rfl (fun C T N h => by cases h.1; rfl) dX5_init_29 rfl (by simp (disch := omega) only [upT_at, upT_na, hk]) (show _ = va_rf (some _) from rfl) ?_
  subst hX
  exact xg_return dX5_init_32 rfl ⟨by first | decide | omega, by first | decide | omega⟩ ⟨rfl, rfl⟩

set_option maxHeartbeats 4000000 in
set_option maxRecDepth 100000 in
theorem ct_X2_init {E : xE} {z : Nat} {T : Nat → Nat × Int} {F : Nat → Nat → Int} {I : Nat → Int → Int} {P : Nat → Nat → Option Nat} {Y : Nat → Int → Option Nat} {a : Nat} (hk : (T a).1 = 3) (ha : a < z) : Ct E 1 mX2_init 4 240 [.ref a] (z, T, F, I, P, Y) (xd none ((z + 1 + 1 + 1 + 1), (upT (upT (upT (upT T z 14 60) (z + 1) 14 60) (z + 1 + 1) 14 60) (z + 1 + 1 + 1) 14 60), F, (up0 (up0 (up0 (up0 I z 0) (z + 1) 0) (z + 1 + 1) 0) (z + 1 + 1 + 1) 0), (upP (upP (upP (upP P a 0 (some z)) a 1 (some (z + 1))) a 2 (some (z + 1 + 1))) a 3 (some (z + 1 + 1 + 1))), Y)) := by
  refine Ct.of [some (.ref a)] kt_X2_init rfl (Nat.le_of_ble_eq_true rfl) rfl (fun d hd => ?_)
  generalize hX : xN E _ _ _ = X
  refine xg_aloadn 1 dX2_init_0 rfl rfl rfl ?_
  refine xg_oi 4 kl_RX2_3 dX2_init_1 rfl (Nat.le_of_ble_eq_true rfl) (by omega) ?_
  refine xg_aloadn 5 dX2_init_4 rfl rfl rfl ?_
  refine xg_bipush 7 dX2_init_5 rfl (by decide) ?_
  refine xg_nai 9 dX2_init_7 rfl (by omega) ⟨by first | decide | omega, by first | decide | omega⟩ ?_
  refine xg_putAF 12 kf_RX2_9 rfl (fun C T N h => by cases h.1; rfl) dX2_init_9 rfl (by simp (disch := omega) only [upT_at, upT_na, hk]) (show _ = va_rf (some _) from rfl) ?_
  refine xg_aloadn 13 dX2_init_12 rfl rfl rfl ?_
  refine xg_bipush 15 dX2_init_13 rfl (by decide) ?_
  refine xg_nai 17 dX2_init_15 rfl (by omega) ⟨by first | decide | omega, by first | decide | omega⟩ ?_
  refine xg_putAF 20 kf_RX2_15 rfl (fun C T N h => by cases h.1; rfl) dX2_init_17 rfl (by simp (disch := omega) only [upT_at, upT_na, hk]) (show _ = va_rf (some _) from rfl) ?_
  refine xg_aloadn 21 dX2_init_20 rfl rfl rfl ?_
  refine xg_bipush 23 dX2_init_21 rfl (by decide) ?_
  refine xg_nai 25 dX2_init_23 rfl (by omega) ⟨by first | decide | omega, by first | decide | omega⟩ ?_
  refine xg_putAF 28 kf_RX2_18 rfl (fun C T N h => by cases h.1; rfl) dX2_init_25 rfl (by simp (disch := omega) only [upT_at, upT_na, hk]) (show _ = va_rf (some _) from rfl) ?_
  refine xg_aloadn 29 dX2_init_28 rfl rfl rfl ?_
  refine xg_bipush 31 dX2_init_29 rfl (by decide) ?_
  refine xg_nai 33 dX2_init_31 rfl (by omega) ⟨by first | decide | omega, by first | decide | omega⟩ ?_
  refine xg_putAF 36 kf_RX2_21 rfl (fun C T N h => by cases h.1; rfl) dX2_init_33 rfl (by simp (disch := omega) only [upT_at, upT_na, hk]) (show _ = va_rf (some _) from rfl) ?_
  subst hX
  exact xg_return dX2_init_36 rfl ⟨by first | decide | omega, by first | decide | omega⟩ ⟨rfl, rfl⟩

set_option maxHeartbeats 4000000 in
set_option maxRecDepth 100000 in
theorem ct_X7_init {E : xE} {z : Nat} {T : Nat → Nat × Int} {F : Nat → Nat → Int} {I : Nat → Int → Int} {P : Nat → Nat → Option Nat} {Y : Nat → Int → Option Nat} {a : Nat} (hk : (T a).1 = 8) (ha : a < z) : Ct E 1 mX7_init 3 1203 [.ref a] (z, T, F, I, P, Y) (xd none ((z + 1 + 1 + 1), (upT (upT (upT T z 14 401) (z + 1) 14 401) (z + 1 + 1) 14 401), (upF F a 5 (-1)), (up0 (up0 (up0 I z 0) (z + 1) 0) (z + 1 + 1) 0), (upP (upP (upP P a 0 (some z)) a 1 (some (z + 1))) a 2 (some (z + 1 + 1))), Y)) := by
  refine Ct.of [some (.ref a)] kt_X7_init rfl (Nat.le_of_ble_eq_true rfl) rfl (fun d hd => ?_)
  generalize hX : xN E _ _ _ = X
  refine xg_aloadn 1 dX7_init_0 rfl rfl rfl ?_
  refine xg_oi 4 kl_RX7_3 dX7_init_1 rfl (Nat.le_of_ble_eq_true rfl) (by omega) ?_
  refine xg_aloadn 5 dX7_init_4 rfl rfl rfl ?_
  refine xg_sipush 8 dX7_init_5 rfl (by decide) ?_
  refine xg_nai 10 dX7_init_8 rfl (by omega) ⟨by first | decide | omega, by first | decide | omega⟩ ?_
  refine xg_putAF 13 kf_RX7_9 rfl (fun C T N h => by cases h.1; rfl) dX7_init_10 rfl (by simp (disch := omega) only [upT_at, upT_na, hk]) (show _ = va_rf (some _) from rfl) ?_
  refine xg_aloadn 14 dX7_init_13 rfl rfl rfl ?_
  refine xg_sipush 17 dX7_init_14 rfl (by decide) ?_
  refine xg_nai 19 dX7_init_17 rfl (by omega) ⟨by first | decide | omega, by first | decide | omega⟩ ?_
  refine xg_putAF 22 kf_RX7_15 rfl (fun C T N h => by cases h.1; rfl) dX7_init_19 rfl (by simp (disch := omega) only [upT_at, upT_na, hk]) (show _ = va_rf (some _) from rfl) ?_
  refine xg_aloadn 23 dX7_init_22 rfl rfl rfl ?_
  refine xg_sipush 26 dX7_init_23 rfl (by decide) ?_
  refine xg_nai 28 dX7_init_26 rfl (by omega) ⟨by first | decide | omega, by first | decide | omega⟩ ?_
  refine xg_putAF 31 kf_RX7_18 rfl (fun C T N h => by cases h.1; rfl) dX7_init_28 rfl (by simp (disch := omega) only [upT_at, upT_na, hk]) (show _ = va_rf (some _) from rfl) ?_
  refine xg_aloadn 32 dX7_init_31 rfl rfl rfl ?_
  refine xg_iconst 33 dX7_init_32 rfl ?_
  refine xg_putI 36 kf_RX7_21 dX7_init_33 rfl (by simp (disch := omega) only [upT_at, upT_na, hk]) ?_
  subst hX
  exact xg_return dX7_init_36 rfl ⟨by first | decide | omega, by first | decide | omega⟩ ⟨rfl, rfl⟩

/-- the rows of a new Row: keys -1, values 0 -/
def wFl (k : Int) : Int → Int := fun j => if 0 ≤ j ∧ j < k then -1 else 0
def iNew (I : Nat → Int → Int) (z : Nat) : Nat → Int → Int := upA (up0 (up0 I z 0) (z + 1) 0) z (wFl 60)
theorem iNew_0 (I : Nat → Int → Int) (z : Nat) : upA (up0 (up0 I z 0) (z + 1) 0) z (wFl 0) = up0 (up0 I z 0) (z + 1) 0 := by
  funext b j
  unfold upA wFl
  by_cases hb : b = z
  · subst hb
    rw [if_pos rfl, if_neg (by omega), up0_na _ _ _ (by omega), up0_at]
  · rw [if_neg hb]
theorem iNew_s (J0 : Nat → Int → Int) (z : Nat) (k : Int) (hk : 0 ≤ k) : upI (upA J0 z (wFl k)) z k (-1) = upA J0 z (wFl (k + 1)) := by
  rw [upA_wS]
  congr 1
  funext j
  unfold wS wFl
  by_cases hj : j = k
  · subst hj; rw [if_pos rfl, if_pos (by omega)]
  · rw [if_neg hj]
    by_cases h : 0 ≤ j ∧ j < k
    · rw [if_pos h, if_pos (by omega)]
    · rw [if_neg h, if_neg (by omega)]
set_option maxHeartbeats 4000000 in
set_option maxRecDepth 100000 in
theorem ct_X6_init {E : xE} {z : Nat} {T : Nat → Nat × Int} {F : Nat → Nat → Int} {I : Nat → Int → Int} {P : Nat → Nat → Option Nat} {Y : Nat → Int → Option Nat} {a : Nat} (hk : (T a).1 = 7) (ha : a < z) : Ct E 1 mX6_init 2 120 [.ref a] (z, T, F, I, P, Y) (xd none (z + 1 + 1, (upT (upT T z 14 60) (z + 1) 14 60), F, iNew I z, (upP (upP P a 0 (some z)) a 1 (some (z + 1))), Y)) := by
  refine Ct.of [some (.ref a), none] kt_X6_init rfl (Nat.le_of_ble_eq_true rfl) rfl (fun d hd => ?_)
  generalize hX : xN E _ _ _ = X
  refine xg_aloadn 1 dX6_init_0 rfl rfl rfl ?_
  refine xg_oi 4 kl_RX6_3 dX6_init_1 rfl (Nat.le_of_ble_eq_true rfl) (by omega) ?_
  refine xg_aloadn 5 dX6_init_4 rfl rfl rfl ?_
  refine xg_bipush 7 dX6_init_5 rfl (by decide) ?_
  refine xg_nai 9 dX6_init_7 rfl (by omega) ⟨by first | decide | omega, by first | decide | omega⟩ ?_
  refine xg_putAF 12 kf_RX6_9 rfl (fun C T N h => by cases h.1; rfl) dX6_init_9 rfl (by simp (disch := omega) only [upT_at, upT_na, hk]) (show _ = va_rf (some _) from rfl) ?_
  refine xg_aloadn 13 dX6_init_12 rfl rfl rfl ?_
  refine xg_bipush 15 dX6_init_13 rfl (by decide) ?_
  refine xg_nai 17 dX6_init_15 rfl (by omega) ⟨by first | decide | omega, by first | decide | omega⟩ ?_
  refine xg_putAF 20 kf_RX6_15 rfl (fun C T N h => by cases h.1; rfl) dX6_init_17 rfl (by simp (disch := omega) only [upT_at, upT_na, hk]) (show _ = va_rf (some _) from rfl) ?_
  refine xg_iconst 21 dX6_init_20 rfl ?_
  refine xg_istoren 22 _ dX6_init_21 rfl rfl rfl (by decide) (Or.inr rfl) ?_
  have loop22 : ∀ (mm : Nat) (k : Int), 0 ≤ k → k ≤ 60 → 60 - k < (mm : Int) → xG E mX6_init (xR d 2 120) X 22 [some (.ref a), some (J k)] [] (z + 1 + 1, (upT (upT T z 14 60) (z + 1) 14 60), F, upA (up0 (up0 I z 0) (z + 1) 0) z (wFl k), (upP (upP P a 0 (some z)) a 1 (some (z + 1))), Y) 2 120 := by
    intro mm
    induction mm with
    | zero => intro k h0 h1 hm; exfalso; omega
    | succ mm ih =>
      intro k h0 h1 hm
      refine xg_iloadn 23 dX6_init_22 rfl rfl rfl ?_
      refine xg_bipush 25 dX6_init_23 rfl (by decide) ?_
      refine xg_icge 41 28 dX6_init_25 rfl rfl (by omega) (fun hb25 => ?_) (fun hb25 => ?_)
      · skip
        subst hX
        exact xg_return dX6_init_41 rfl ⟨by first | decide | omega, by first | decide | omega⟩ ⟨rfl, by rw [show k = 60 by omega]; rfl⟩
      · skip
        refine xg_aloadn 29 dX6_init_28 rfl rfl rfl ?_
        refine xg_getP 32 kf_RX6_9 dX6_init_29 rfl (by simp (disch := omega) only [upT_at, upT_na, hk]) (show _ = some z by simp (disch := omega) only [upP_at, upP_nk]) ?_
        refine xg_iloadn 33 dX6_init_32 rfl rfl rfl ?_
        refine xg_iconst 34 dX6_init_33 rfl ?_
        refine xg_iast 35 dX6_init_34 rfl (by simp (disch := omega) only [upT_at, upT_na, hk]) (by simp (disch := omega) only [upT_at, upT_na]; omega) ?_
        refine xg_iinc 38 _ dX6_init_35 rfl rfl rfl rfl (by decide) (Or.inr rfl) ?_
        refine xg_goto 22 dX6_init_38 rfl ?_
        rw [iNew_s _ _ _ h0]
        exact ih (k + 1) (by omega) (by omega) (by omega)
  have ll := loop22 61 0 (by omega) (by omega) (by omega)
  rw [iNew_0] at ll
  exact ll

