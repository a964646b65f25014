theorem dX10_addReads_0 : decode cX10_addReads 0 = .ok (.aload_n 0, 1) := by decide +kernel
theorem dX10_addReads_1 : decode cX10_addReads 1 = .ok (.ldc 9, 2) := by decide +kernel
theorem dX10_addReads_3 : decode cX10_addReads 3 = .ok (.aload_n 0, 1) := by decide +kernel
theorem dX10_addReads_4 : decode cX10_addReads 4 = .ok (.getfield 10, 3) := by decide +kernel
theorem dX10_addReads_7 : decode cX10_addReads 7 = .ok (.iload_n 1, 1) := by decide +kernel
theorem dX10_addReads_8 : decode cX10_addReads 8 = .ok (.iadd, 1) := by decide +kernel
theorem dX10_addReads_9 : decode cX10_addReads 9 = .ok (.invokestatic 16, 3) := by decide +kernel
theorem dX10_addReads_12 : decode cX10_addReads 12 = .ok (.putfield 10, 3) := by decide +kernel
theorem dX10_addReads_15 : decode cX10_addReads 15 = .ok (.return_, 1) := by decide +kernel
set_option maxHeartbeats 4000000 in
set_option maxRecDepth 100000 in
theorem ct_X10_addReads {E : xE} {z : Nat} {T : Nat → Nat × Int} {F : Nat → Nat → Int} {I : Nat → Int → Int} {P : Nat → Nat → Option Nat} {Y : Nat → Int → Option Nat} {a : Nat} {x : Int} (hx : -2147383648 ≤ x ∧ x ≤ 2147383647) (hk : (T a).1 = 11) (hF : 0 ≤ F a 0 ∧ F a 0 ≤ 99999) : Ct E 1 mX10_addReads 0 0 [.ref a, J x] (z, T, F, I, P, Y) (xd none (z, T, upF F a 0 (min 99999 (F a 0 + x)), I, P, Y)) := by
  refine Ct.of [some (.ref a), some (J x)] kt_X10_addReads rfl (Nat.le_of_ble_eq_true rfl) rfl (fun d hd => ?_)
  generalize hX : xN E _ _ _ = X
  refine xg_aloadn 1 dX10_addReads_0 rfl rfl rfl ?_
  refine xg_ldc (z := 99999) 3 kk_RX10_9 dX10_addReads_1 rfl rfl ?_
  refine xg_aloadn 4 dX10_addReads_3 rfl rfl rfl ?_
  refine xg_getI 7 kf_RX10_10 dX10_addReads_4 rfl (by assumption) ?_
  refine xg_iloadn 8 dX10_addReads_7 rfl rfl rfl ?_
  refine xg_iadd 9 dX10_addReads_8 rfl ?_
  refine xg_mmin 12 kl_RX10_16 dX10_addReads_9 rfl (by omega) (Nat.le_of_ble_eq_true rfl) (by omega) ⟨Nat.le_refl _, Nat.le_refl _⟩ ?_
  refine xg_putI 15 kf_RX10_10 dX10_addReads_12 rfl (by assumption) ?_
  subst hX
  exact xg_return dX10_addReads_15 rfl ⟨Nat.le_refl _, Nat.le_refl _⟩ ⟨rfl, rfl⟩

theorem dX10_addWrite_0 : decode cX10_addWrite 0 = .ok (.aload_n 0, 1) := by decide +kernel
theorem dX10_addWrite_1 : decode cX10_addWrite 1 = .ok (.ldc 9, 2) := by decide +kernel
theorem dX10_addWrite_3 : decode cX10_addWrite 3 = .ok (.aload_n 0, 1) := by decide +kernel
theorem dX10_addWrite_4 : decode cX10_addWrite 4 = .ok (.getfield 22, 3) := by decide +kernel
theorem dX10_addWrite_7 : decode cX10_addWrite 7 = .ok (.iconst 1, 1) := by decide +kernel
theorem dX10_addWrite_8 : decode cX10_addWrite 8 = .ok (.iadd, 1) := by decide +kernel
theorem dX10_addWrite_9 : decode cX10_addWrite 9 = .ok (.invokestatic 16, 3) := by decide +kernel
theorem dX10_addWrite_12 : decode cX10_addWrite 12 = .ok (.putfield 22, 3) := by decide +kernel
theorem dX10_addWrite_15 : decode cX10_addWrite 15 = .ok (.return_, 1) := by decide +kernel
set_option maxHeartbeats 4000000 in
set_option maxRecDepth 100000 in
theorem ct_X10_addWrite {E : xE} {z : Nat} {T : Nat → Nat × Int} {F : Nat → Nat → Int} {I : Nat → Int → Int} {P : Nat → Nat → Option Nat} {Y : Nat → Int → Option Nat} {a : Nat} (hk : (T a).1 = 11) (hF : 0 ≤ F a 1 ∧ F a 1 ≤ 99999) : Ct E 1 mX10_addWrite 0 0 [.ref a] (z, T, F, I, P, Y) (xd none (z, T, upF F a 1 (min 99999 (F a 1 + 1)), I, P, Y)) := by
  refine Ct.of [some (.ref a)] kt_X10_addWrite rfl (Nat.le_of_ble_eq_true rfl) rfl (fun d hd => ?_)
  generalize hX : xN E _ _ _ = X
  refine xg_aloadn 1 dX10_addWrite_0 rfl rfl rfl ?_
  refine xg_ldc (z := 99999) 3 kk_RX10_9 dX10_addWrite_1 rfl rfl ?_
  refine xg_aloadn 4 dX10_addWrite_3 rfl rfl rfl ?_
  refine xg_getI 7 kf_RX10_22 dX10_addWrite_4 rfl (by assumption) ?_
  refine xg_iconst 8 dX10_addWrite_7 rfl ?_
  refine xg_iadd 9 dX10_addWrite_8 rfl ?_
  refine xg_mmin 12 kl_RX10_16 dX10_addWrite_9 rfl (by omega) (Nat.le_of_ble_eq_true rfl) (by omega) ⟨Nat.le_refl _, Nat.le_refl _⟩ ?_
  refine xg_putI 15 kf_RX10_22 dX10_addWrite_12 rfl (by assumption) ?_
  subst hX
  exact xg_return dX10_addWrite_15 rfl ⟨Nat.le_refl _, Nat.le_refl _⟩ ⟨rfl, rfl⟩

theorem dX10_addPut_0 : decode cX10_addPut 0 = .ok (.aload_n 0, 1) := by decide +kernel
theorem dX10_addPut_1 : decode cX10_addPut 1 = .ok (.ldc 9, 2) := by decide +kernel
theorem dX10_addPut_3 : decode cX10_addPut 3 = .ok (.aload_n 0, 1) := by decide +kernel
theorem dX10_addPut_4 : decode cX10_addPut 4 = .ok (.getfield 25, 3) := by decide +kernel
theorem dX10_addPut_7 : decode cX10_addPut 7 = .ok (.iconst 1, 1) := by decide +kernel
theorem dX10_addPut_8 : decode cX10_addPut 8 = .ok (.iadd, 1) := by decide +kernel
theorem dX10_addPut_9 : decode cX10_addPut 9 = .ok (.invokestatic 16, 3) := by decide +kernel
theorem dX10_addPut_12 : decode cX10_addPut 12 = .ok (.putfield 25, 3) := by decide +kernel
theorem dX10_addPut_15 : decode cX10_addPut 15 = .ok (.return_, 1) := by decide +kernel
set_option maxHeartbeats 4000000 in
set_option maxRecDepth 100000 in
theorem ct_X10_addPut {E : xE} {z : Nat} {T : Nat → Nat × Int} {F : Nat → Nat → Int} {I : Nat → Int → Int} {P : Nat → Nat → Option Nat} {Y : Nat → Int → Option Nat} {a : Nat} (hk : (T a).1 = 11) (hF : 0 ≤ F a 2 ∧ F a 2 ≤ 99999) : Ct E 1 mX10_addPut 0 0 [.ref a] (z, T, F, I, P, Y) (xd none (z, T, upF F a 2 (min 99999 (F a 2 + 1)), I, P, Y)) := by
  refine Ct.of [some (.ref a)] kt_X10_addPut rfl (Nat.le_of_ble_eq_true rfl) rfl (fun d hd => ?_)
  generalize hX : xN E _ _ _ = X
  refine xg_aloadn 1 dX10_addPut_0 rfl rfl rfl ?_
  refine xg_ldc (z := 99999) 3 kk_RX10_9 dX10_addPut_1 rfl rfl ?_
  refine xg_aloadn 4 dX10_addPut_3 rfl rfl rfl ?_
  refine xg_getI 7 kf_RX10_25 dX10_addPut_4 rfl (by assumption) ?_
  refine xg_iconst 8 dX10_addPut_7 rfl ?_
  refine xg_iadd 9 dX10_addPut_8 rfl ?_
  refine xg_mmin 12 kl_RX10_16 dX10_addPut_9 rfl (by omega) (Nat.le_of_ble_eq_true rfl) (by omega) ⟨Nat.le_refl _, Nat.le_refl _⟩ ?_
  refine xg_putI 15 kf_RX10_25 dX10_addPut_12 rfl (by assumption) ?_
  subst hX
  exact xg_return dX10_addPut_15 rfl ⟨Nat.le_refl _, Nat.le_refl _⟩ ⟨rfl, rfl⟩

theorem dX10_addStall_0 : decode cX10_addStall 0 = .ok (.aload_n 0, 1) := by decide +kernel
theorem dX10_addStall_1 : decode cX10_addStall 1 = .ok (.sipush 9999, 3) := by decide +kernel
theorem dX10_addStall_4 : decode cX10_addStall 4 = .ok (.aload_n 0, 1) := by decide +kernel
theorem dX10_addStall_5 : decode cX10_addStall 5 = .ok (.getfield 28, 3) := by decide +kernel
theorem dX10_addStall_8 : decode cX10_addStall 8 = .ok (.iconst 1, 1) := by decide +kernel
theorem dX10_addStall_9 : decode cX10_addStall 9 = .ok (.iadd, 1) := by decide +kernel
theorem dX10_addStall_10 : decode cX10_addStall 10 = .ok (.invokestatic 16, 3) := by decide +kernel
theorem dX10_addStall_13 : decode cX10_addStall 13 = .ok (.putfield 28, 3) := by decide +kernel
theorem dX10_addStall_16 : decode cX10_addStall 16 = .ok (.return_, 1) := by decide +kernel
set_option maxHeartbeats 4000000 in
set_option maxRecDepth 100000 in
theorem ct_X10_addStall {E : xE} {z : Nat} {T : Nat → Nat × Int} {F : Nat → Nat → Int} {I : Nat → Int → Int} {P : Nat → Nat → Option Nat} {Y : Nat → Int → Option Nat} {a : Nat} (hk : (T a).1 = 11) (hF : 0 ≤ F a 3 ∧ F a 3 ≤ 99999) : Ct E 1 mX10_addStall 0 0 [.ref a] (z, T, F, I, P, Y) (xd none (z, T, upF F a 3 (min 9999 (F a 3 + 1)), I, P, Y)) := by
  refine Ct.of [some (.ref a)] kt_X10_addStall rfl (Nat.le_of_ble_eq_true rfl) rfl (fun d hd => ?_)
  generalize hX : xN E _ _ _ = X
  refine xg_aloadn 1 dX10_addStall_0 rfl rfl rfl ?_
  refine xg_sipush 4 dX10_addStall_1 rfl (by decide) ?_
  refine xg_aloadn 5 dX10_addStall_4 rfl rfl rfl ?_
  refine xg_getI 8 kf_RX10_28 dX10_addStall_5 rfl (by assumption) ?_
  refine xg_iconst 9 dX10_addStall_8 rfl ?_
  refine xg_iadd 10 dX10_addStall_9 rfl ?_
  refine xg_mmin 13 kl_RX10_16 dX10_addStall_10 rfl (by omega) (Nat.le_of_ble_eq_true rfl) (by omega) ⟨Nat.le_refl _, Nat.le_refl _⟩ ?_
  refine xg_putI 16 kf_RX10_28 dX10_addStall_13 rfl (by assumption) ?_
  subst hX
  exact xg_return dX10_addStall_16 rfl ⟨Nat.le_refl _, Nat.le_refl _⟩ ⟨rfl, rfl⟩

theorem dX10_addBill_0 : decode cX10_addBill 0 = .ok (.aload_n 0, 1) := by decide +kernel
theorem dX10_addBill_1 : decode cX10_addBill 1 = .ok (.ldc 9, 2) := by decide +kernel
theorem dX10_addBill_3 : decode cX10_addBill 3 = .ok (.aload_n 0, 1) := by decide +kernel
theorem dX10_addBill_4 : decode cX10_addBill 4 = .ok (.getfield 37, 3) := by decide +kernel
theorem dX10_addBill_7 : decode cX10_addBill 7 = .ok (.iload_n 1, 1) := by decide +kernel
theorem dX10_addBill_8 : decode cX10_addBill 8 = .ok (.iadd, 1) := by decide +kernel
theorem dX10_addBill_9 : decode cX10_addBill 9 = .ok (.invokestatic 16, 3) := by decide +kernel
theorem dX10_addBill_12 : decode cX10_addBill 12 = .ok (.putfield 37, 3) := by decide +kernel
theorem dX10_addBill_15 : decode cX10_addBill 15 = .ok (.return_, 1) := by decide +kernel
set_option maxHeartbeats 4000000 in
set_option maxRecDepth 100000 in
theorem ct_X10_addBill {E : xE} {z : Nat} {T : Nat → Nat × Int} {F : Nat → Nat → Int} {I : Nat → Int → Int} {P : Nat → Nat → Option Nat} {Y : Nat → Int → Option Nat} {a : Nat} {x : Int} (hx : -2147383648 ≤ x ∧ x ≤ 2147383647) (hk : (T a).1 = 11) (hF : 0 ≤ F a 5 ∧ F a 5 ≤ 99999) : Ct E 1 mX10_addBill 0 0 [.ref a, J x] (z, T, F, I, P, Y) (xd none (z, T, upF F a 5 (min 99999 (F a 5 + x)), I, P, Y)) := by
  refine Ct.of [some (.ref a), some (J x)] kt_X10_addBill rfl (Nat.le_of_ble_eq_true rfl) rfl (fun d hd => ?_)
  generalize hX : xN E _ _ _ = X
  refine xg_aloadn 1 dX10_addBill_0 rfl rfl rfl ?_
  refine xg_ldc (z := 99999) 3 kk_RX10_9 dX10_addBill_1 rfl rfl ?_
  refine xg_aloadn 4 dX10_addBill_3 rfl rfl rfl ?_
  refine xg_getI 7 kf_RX10_37 dX10_addBill_4 rfl (by assumption) ?_
  refine xg_iloadn 8 dX10_addBill_7 rfl rfl rfl ?_
  refine xg_iadd 9 dX10_addBill_8 rfl ?_
  refine xg_mmin 12 kl_RX10_16 dX10_addBill_9 rfl (by omega) (Nat.le_of_ble_eq_true rfl) (by omega) ⟨Nat.le_refl _, Nat.le_refl _⟩ ?_
  refine xg_putI 15 kf_RX10_37 dX10_addBill_12 rfl (by assumption) ?_
  subst hX
  exact xg_return dX10_addBill_15 rfl ⟨Nat.le_refl _, Nat.le_refl _⟩ ⟨rfl, rfl⟩

theorem dX10_addStallsOfOne_0 : decode cX10_addStallsOfOne 0 = .ok (.aload_n 0, 1) := by decide +kernel
theorem dX10_addStallsOfOne_1 : decode cX10_addStallsOfOne 1 = .ok (.aload_n 0, 1) := by decide +kernel
theorem dX10_addStallsOfOne_2 : decode cX10_addStallsOfOne 2 = .ok (.getfield 31, 3) := by decide +kernel
theorem dX10_addStallsOfOne_5 : decode cX10_addStallsOfOne 5 = .ok (.sipush 9999, 3) := by decide +kernel
theorem dX10_addStallsOfOne_8 : decode cX10_addStallsOfOne 8 = .ok (.iload_n 1, 1) := by decide +kernel
theorem dX10_addStallsOfOne_9 : decode cX10_addStallsOfOne 9 = .ok (.invokestatic 16, 3) := by decide +kernel
theorem dX10_addStallsOfOne_12 : decode cX10_addStallsOfOne 12 = .ok (.invokestatic 34, 3) := by decide +kernel
theorem dX10_addStallsOfOne_15 : decode cX10_addStallsOfOne 15 = .ok (.putfield 31, 3) := by decide +kernel
theorem dX10_addStallsOfOne_18 : decode cX10_addStallsOfOne 18 = .ok (.return_, 1) := by decide +kernel
set_option maxHeartbeats 4000000 in
set_option maxRecDepth 100000 in
theorem ct_X10_addStallsOfOne {E : xE} {z : Nat} {T : Nat → Nat × Int} {F : Nat → Nat → Int} {I : Nat → Int → Int} {P : Nat → Nat → Option Nat} {Y : Nat → Int → Option Nat} {a : Nat} {x : Int} (hx : -2147383648 ≤ x ∧ x ≤ 2147383647) (hk : (T a).1 = 11) (hF : 0 ≤ F a 4 ∧ F a 4 ≤ 99999) : Ct E 1 mX10_addStallsOfOne 0 0 [.ref a, J x] (z, T, F, I, P, Y) (xd none (z, T, upF F a 4 (max (F a 4) (min 9999 x)), I, P, Y)) := by
  refine Ct.of [some (.ref a), some (J x)] kt_X10_addStallsOfOne rfl (Nat.le_of_ble_eq_true rfl) rfl (fun d hd => ?_)
  generalize hX : xN E _ _ _ = X
  refine xg_aloadn 1 dX10_addStallsOfOne_0 rfl rfl rfl ?_
  refine xg_aloadn 2 dX10_addStallsOfOne_1 rfl rfl rfl ?_
  refine xg_getI 5 kf_RX10_31 dX10_addStallsOfOne_2 rfl (by assumption) ?_
  refine xg_sipush 8 dX10_addStallsOfOne_5 rfl (by decide) ?_
  refine xg_iloadn 9 dX10_addStallsOfOne_8 rfl rfl rfl ?_
  refine xg_mmin 12 kl_RX10_16 dX10_addStallsOfOne_9 rfl (by omega) (Nat.le_of_ble_eq_true rfl) (by omega) ⟨Nat.le_refl _, Nat.le_refl _⟩ ?_
  refine xg_mmax 15 kl_RX10_34 dX10_addStallsOfOne_12 rfl (by omega) (Nat.le_of_ble_eq_true rfl) (by omega) ⟨Nat.le_refl _, Nat.le_refl _⟩ ?_
  refine xg_putI 18 kf_RX10_31 dX10_addStallsOfOne_15 rfl (by assumption) ?_
  subst hX
  exact xg_return dX10_addStallsOfOne_18 rfl ⟨Nat.le_refl _, Nat.le_refl _⟩ ⟨rfl, rfl⟩

theorem dX10_copyFrom_0 : decode cX10_copyFrom 0 = .ok (.aload_n 0, 1) := by decide +kernel
theorem dX10_copyFrom_1 : decode cX10_copyFrom 1 = .ok (.aload_n 1, 1) := by decide +kernel
theorem dX10_copyFrom_2 : decode cX10_copyFrom 2 = .ok (.getfield 10, 3) := by decide +kernel
theorem dX10_copyFrom_5 : decode cX10_copyFrom 5 = .ok (.putfield 10, 3) := by decide +kernel
theorem dX10_copyFrom_8 : decode cX10_copyFrom 8 = .ok (.aload_n 0, 1) := by decide +kernel
theorem dX10_copyFrom_9 : decode cX10_copyFrom 9 = .ok (.aload_n 1, 1) := by decide +kernel
theorem dX10_copyFrom_10 : decode cX10_copyFrom 10 = .ok (.getfield 22, 3) := by decide +kernel
theorem dX10_copyFrom_13 : decode cX10_copyFrom 13 = .ok (.putfield 22, 3) := by decide +kernel
theorem dX10_copyFrom_16 : decode cX10_copyFrom 16 = .ok (.aload_n 0, 1) := by decide +kernel
theorem dX10_copyFrom_17 : decode cX10_copyFrom 17 = .ok (.aload_n 1, 1) := by decide +kernel
theorem dX10_copyFrom_18 : decode cX10_copyFrom 18 = .ok (.getfield 25, 3) := by decide +kernel
theorem dX10_copyFrom_21 : decode cX10_copyFrom 21 = .ok (.putfield 25, 3) := by decide +kernel
theorem dX10_copyFrom_24 : decode cX10_copyFrom 24 = .ok (.aload_n 0, 1) := by decide +kernel
theorem dX10_copyFrom_25 : decode cX10_copyFrom 25 = .ok (.aload_n 1, 1) := by decide +kernel
theorem dX10_copyFrom_26 : decode cX10_copyFrom 26 = .ok (.getfield 28, 3) := by decide +kernel
theorem dX10_copyFrom_29 : decode cX10_copyFrom 29 = .ok (.putfield 28, 3) := by decide +kernel
theorem dX10_copyFrom_32 : decode cX10_copyFrom 32 = .ok (.aload_n 0, 1) := by decide +kernel
theorem dX10_copyFrom_33 : decode cX10_copyFrom 33 = .ok (.aload_n 1, 1) := by decide +kernel
theorem dX10_copyFrom_34 : decode cX10_copyFrom 34 = .ok (.getfield 31, 3) := by decide +kernel
theorem dX10_copyFrom_37 : decode cX10_copyFrom 37 = .ok (.putfield 31, 3) := by decide +kernel
theorem dX10_copyFrom_40 : decode cX10_copyFrom 40 = .ok (.aload_n 0, 1) := by decide +kernel
theorem dX10_copyFrom_41 : decode cX10_copyFrom 41 = .ok (.aload_n 1, 1) := by decide +kernel
theorem dX10_copyFrom_42 : decode cX10_copyFrom 42 = .ok (.getfield 37, 3) := by decide +kernel
theorem dX10_copyFrom_45 : decode cX10_copyFrom 45 = .ok (.putfield 37, 3) := by decide +kernel
theorem dX10_copyFrom_48 : decode cX10_copyFrom 48 = .ok (.return_, 1) := by decide +kernel
set_option maxHeartbeats 4000000 in
set_option maxRecDepth 100000 in
theorem ct_X10_copyFrom {E : xE} {z : Nat} {T : Nat → Nat × Int} {F : Nat → Nat → Int} {I : Nat → Int → Int} {P : Nat → Nat → Option Nat} {Y : Nat → Int → Option Nat} {a b : Nat} (hk : (T a).1 = 11) (hk2 : (T b).1 = 11) (hab : b ≠ a) : Ct E 0 mX10_copyFrom 0 0 [.ref a, .ref b] (z, T, F, I, P, Y) (xd none (z, T, upF (upF (upF (upF (upF (upF (F) a 0 (F b 0)) a 1 (F b 1)) a 2 (F b 2)) a 3 (F b 3)) a 4 (F b 4)) a 5 (F b 5), I, P, Y)) := by
  refine Ct.of [some (.ref a), some (.ref b)] kt_X10_copyFrom rfl (Nat.le_of_ble_eq_true rfl) rfl (fun d hd => ?_)
  generalize hX : xN E _ _ _ = X
  refine xg_aloadn 1 dX10_copyFrom_0 rfl rfl rfl ?_
  refine xg_aloadn 2 dX10_copyFrom_1 rfl rfl rfl ?_
  refine xg_getI 5 kf_RX10_10 dX10_copyFrom_2 rfl (by assumption) ?_
  refine xg_putI 8 kf_RX10_10 dX10_copyFrom_5 rfl (by assumption) ?_
  refine xg_aloadn 9 dX10_copyFrom_8 rfl rfl rfl ?_
  refine xg_aloadn 10 dX10_copyFrom_9 rfl rfl rfl ?_
  refine xg_getI 13 kf_RX10_22 dX10_copyFrom_10 rfl (by assumption) ?_
  simp only [upF_na _ _ _ _ hab]
  refine xg_putI 16 kf_RX10_22 dX10_copyFrom_13 rfl (by assumption) ?_
  refine xg_aloadn 17 dX10_copyFrom_16 rfl rfl rfl ?_
  refine xg_aloadn 18 dX10_copyFrom_17 rfl rfl rfl ?_
  refine xg_getI 21 kf_RX10_25 dX10_copyFrom_18 rfl (by assumption) ?_
  simp only [upF_na _ _ _ _ hab]
  refine xg_putI 24 kf_RX10_25 dX10_copyFrom_21 rfl (by assumption) ?_
  refine xg_aloadn 25 dX10_copyFrom_24 rfl rfl rfl ?_
  refine xg_aloadn 26 dX10_copyFrom_25 rfl rfl rfl ?_
  refine xg_getI 29 kf_RX10_28 dX10_copyFrom_26 rfl (by assumption) ?_
  simp only [upF_na _ _ _ _ hab]
  refine xg_putI 32 kf_RX10_28 dX10_copyFrom_29 rfl (by assumption) ?_
  refine xg_aloadn 33 dX10_copyFrom_32 rfl rfl rfl ?_
  refine xg_aloadn 34 dX10_copyFrom_33 rfl rfl rfl ?_
  refine xg_getI 37 kf_RX10_31 dX10_copyFrom_34 rfl (by assumption) ?_
  simp only [upF_na _ _ _ _ hab]
  refine xg_putI 40 kf_RX10_31 dX10_copyFrom_37 rfl (by assumption) ?_
  refine xg_aloadn 41 dX10_copyFrom_40 rfl rfl rfl ?_
  refine xg_aloadn 42 dX10_copyFrom_41 rfl rfl rfl ?_
  refine xg_getI 45 kf_RX10_37 dX10_copyFrom_42 rfl (by assumption) ?_
  simp only [upF_na _ _ _ _ hab]
  refine xg_putI 48 kf_RX10_37 dX10_copyFrom_45 rfl (by assumption) ?_
  subst hX
  exact xg_return dX10_copyFrom_48 rfl ⟨Nat.le_refl _, Nat.le_refl _⟩ ⟨rfl, rfl⟩

theorem dX1_copyFrom_0 : decode cX1_copyFrom 0 = .ok (.aload_n 0, 1) := by decide +kernel
theorem dX1_copyFrom_1 : decode cX1_copyFrom 1 = .ok (.aload_n 1, 1) := by decide +kernel
theorem dX1_copyFrom_2 : decode cX1_copyFrom 2 = .ok (.getfield 7, 3) := by decide +kernel
theorem dX1_copyFrom_5 : decode cX1_copyFrom 5 = .ok (.putfield 7, 3) := by decide +kernel
theorem dX1_copyFrom_8 : decode cX1_copyFrom 8 = .ok (.aload_n 0, 1) := by decide +kernel
theorem dX1_copyFrom_9 : decode cX1_copyFrom 9 = .ok (.aload_n 1, 1) := by decide +kernel
theorem dX1_copyFrom_10 : decode cX1_copyFrom 10 = .ok (.getfield 13, 3) := by decide +kernel
theorem dX1_copyFrom_13 : decode cX1_copyFrom 13 = .ok (.putfield 13, 3) := by decide +kernel
theorem dX1_copyFrom_16 : decode cX1_copyFrom 16 = .ok (.aload_n 0, 1) := by decide +kernel
theorem dX1_copyFrom_17 : decode cX1_copyFrom 17 = .ok (.aload_n 1, 1) := by decide +kernel
theorem dX1_copyFrom_18 : decode cX1_copyFrom 18 = .ok (.getfield 17, 3) := by decide +kernel
theorem dX1_copyFrom_21 : decode cX1_copyFrom 21 = .ok (.putfield 17, 3) := by decide +kernel
theorem dX1_copyFrom_24 : decode cX1_copyFrom 24 = .ok (.aload_n 0, 1) := by decide +kernel
theorem dX1_copyFrom_25 : decode cX1_copyFrom 25 = .ok (.aload_n 1, 1) := by decide +kernel
theorem dX1_copyFrom_26 : decode cX1_copyFrom 26 = .ok (.getfield 20, 3) := by decide +kernel
theorem dX1_copyFrom_29 : decode cX1_copyFrom 29 = .ok (.putfield 20, 3) := by decide +kernel
theorem dX1_copyFrom_32 : decode cX1_copyFrom 32 = .ok (.return_, 1) := by decide +kernel
set_option maxHeartbeats 4000000 in
set_option maxRecDepth 100000 in
theorem ct_X1_copyFrom {E : xE} {z : Nat} {T : Nat → Nat × Int} {F : Nat → Nat → Int} {I : Nat → Int → Int} {P : Nat → Nat → Option Nat} {Y : Nat → Int → Option Nat} {a b : Nat} (hk : (T a).1 = 2) (hk2 : (T b).1 = 2) (hab : b ≠ a) (hb0 : F b 0 = 0 ∨ F b 0 = 1) : Ct E 0 mX1_copyFrom 0 0 [.ref a, .ref b] (z, T, F, I, P, Y) (xd none (z, T, upF (upF (upF (upF (F) a 0 (F b 0)) a 1 (F b 1)) a 2 (F b 2)) a 3 (F b 3), I, P, Y)) := by
  refine Ct.of [some (.ref a), some (.ref b)] kt_X1_copyFrom rfl (Nat.le_of_ble_eq_true rfl) rfl (fun d hd => ?_)
  generalize hX : xN E _ _ _ = X
  refine xg_aloadn 1 dX1_copyFrom_0 rfl rfl rfl ?_
  refine xg_aloadn 2 dX1_copyFrom_1 rfl rfl rfl ?_
  refine xg_getI 5 kf_RX1_7 dX1_copyFrom_2 rfl (by assumption) ?_
  refine xg_putZ 8 kf_RX1_7 dX1_copyFrom_5 rfl (by assumption) (by omega) ?_
  refine xg_aloadn 9 dX1_copyFrom_8 rfl rfl rfl ?_
  refine xg_aloadn 10 dX1_copyFrom_9 rfl rfl rfl ?_
  refine xg_getI 13 kf_RX1_13 dX1_copyFrom_10 rfl (by assumption) ?_
  simp only [upF_na _ _ _ _ hab]
  refine xg_putI 16 kf_RX1_13 dX1_copyFrom_13 rfl (by assumption) ?_
  refine xg_aloadn 17 dX1_copyFrom_16 rfl rfl rfl ?_
  refine xg_aloadn 18 dX1_copyFrom_17 rfl rfl rfl ?_
  refine xg_getI 21 kf_RX1_17 dX1_copyFrom_18 rfl (by assumption) ?_
  simp only [upF_na _ _ _ _ hab]
  refine xg_putI 24 kf_RX1_17 dX1_copyFrom_21 rfl (by assumption) ?_
  refine xg_aloadn 25 dX1_copyFrom_24 rfl rfl rfl ?_
  refine xg_aloadn 26 dX1_copyFrom_25 rfl rfl rfl ?_
  refine xg_getI 29 kf_RX1_20 dX1_copyFrom_26 rfl (by assumption) ?_
  simp only [upF_na _ _ _ _ hab]
  refine xg_putI 32 kf_RX1_20 dX1_copyFrom_29 rfl (by assumption) ?_
  subst hX
  exact xg_return dX1_copyFrom_32 rfl ⟨Nat.le_refl _, Nat.le_refl _⟩ ⟨rfl, rfl⟩

