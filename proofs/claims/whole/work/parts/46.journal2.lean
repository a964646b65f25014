theorem sTold5_r {F : Nat → Nat → Int} {I : Nat → Int → Int} {a : Nat} (h : ∀ j : Int, -2147483648 ≤ I (a + 2) j ∧ I (a + 2) j < 2147483648) (k : Int) : -2147483648 ≤ sTold5 F I a k 1 ∧ sTold5 F I a k 1 < 2147483648 := by
  unfold sTold5
  split
  · exact h _
  · omega
def sRws5 (F : Nat → Nat → Int) (I : Nat → Int → Int) (a : Nat) (x : Int) : Nat → Int := pSum (fun k => if sTold5 F I a k 1 = x then 1 else 0)
/-- the tick of the newest row of this sort, n rows from k on; -1 of none -/
def sLat5 (F : Nat → Nat → Int) (I : Nat → Int → Int) (a : Nat) (x : Int) : Nat → Int → Int
  | 0, _ => -1
  | n + 1, k => if sTold5 F I a k 1 = x then sTold5 F I a k 0 else sLat5 F I a x n (k + 1)
theorem dX2_rowsOf_0 : decode cX2_rowsOf 0 = .ok (.iconst 0, 1) := by decide +kernel
theorem dX2_rowsOf_1 : decode cX2_rowsOf 1 = .ok (.istore_n 2, 1) := by decide +kernel
theorem dX2_rowsOf_2 : decode cX2_rowsOf 2 = .ok (.iconst 0, 1) := by decide +kernel
theorem dX2_rowsOf_3 : decode cX2_rowsOf 3 = .ok (.istore_n 3, 1) := by decide +kernel
theorem dX2_rowsOf_4 : decode cX2_rowsOf 4 = .ok (.iload_n 3, 1) := by decide +kernel
theorem dX2_rowsOf_5 : decode cX2_rowsOf 5 = .ok (.aload_n 0, 1) := by decide +kernel
theorem dX2_rowsOf_6 : decode cX2_rowsOf 6 = .ok (.getfield 28, 3) := by decide +kernel
theorem dX2_rowsOf_9 : decode cX2_rowsOf 9 = .ok (.if_icmp .ge 22, 3) := by decide +kernel
theorem dX2_rowsOf_12 : decode cX2_rowsOf 12 = .ok (.aload_n 0, 1) := by decide +kernel
theorem dX2_rowsOf_13 : decode cX2_rowsOf 13 = .ok (.iload_n 3, 1) := by decide +kernel
theorem dX2_rowsOf_14 : decode cX2_rowsOf 14 = .ok (.iconst 1, 1) := by decide +kernel
theorem dX2_rowsOf_15 : decode cX2_rowsOf 15 = .ok (.invokevirtual 31, 3) := by decide +kernel
theorem dX2_rowsOf_18 : decode cX2_rowsOf 18 = .ok (.iload_n 1, 1) := by decide +kernel
theorem dX2_rowsOf_19 : decode cX2_rowsOf 19 = .ok (.if_icmp .ne 6, 3) := by decide +kernel
theorem dX2_rowsOf_22 : decode cX2_rowsOf 22 = .ok (.iinc 2 1, 3) := by decide +kernel
theorem dX2_rowsOf_25 : decode cX2_rowsOf 25 = .ok (.iinc 3 1, 3) := by decide +kernel
theorem dX2_rowsOf_28 : decode cX2_rowsOf 28 = .ok (.goto (-24), 3) := by decide +kernel
theorem dX2_rowsOf_31 : decode cX2_rowsOf 31 = .ok (.iload_n 2, 1) := by decide +kernel
theorem dX2_rowsOf_32 : decode cX2_rowsOf 32 = .ok (.ireturn, 1) := by decide +kernel
set_option maxHeartbeats 4000000 in
set_option maxRecDepth 100000 in
theorem ct_X2_rowsOf {E : xE} {z : Nat} {T : Nat → Nat × Int} {F : Nat → Nat → Int} {I : Nat → Int → Int} {P : Nat → Nat → Option Nat} {Y : Nat → Int → Option Nat} {a : Nat} {x : Int} (hw : wJou T P a) (h4 : 0 ≤ F a 4 ∧ F a 4 < 60) (h5 : 0 ≤ F a 5 ∧ F a 5 ≤ 60) (hI : ∀ j : Int, -2147483648 ≤ I (a + 2) j ∧ I (a + 2) j < 2147483648) (hx : -2147483648 ≤ x ∧ x < 2147483648) : Ct E 1 mX2_rowsOf 0 0 [.ref a, J x] (z, T, F, I, P, Y) (xd (some (J (sRws5 F I a x (F a 5).toNat))) (z, T, F, I, P, Y)) := by
  obtain ⟨w0, -⟩ := id hw
  refine Ct.of [some (.ref a), some (J x), none, none] kt_X2_rowsOf rfl (Nat.le_of_ble_eq_true rfl) rfl (fun d hd => ?_)
  generalize hX : xN E _ _ _ = X
  refine xg_iconst 1 dX2_rowsOf_0 rfl ?_
  refine xg_istoren 2 _ dX2_rowsOf_1 rfl rfl rfl (by decide) (Or.inr rfl) ?_
  refine xg_iconst 3 dX2_rowsOf_2 rfl ?_
  refine xg_istoren 4 _ dX2_rowsOf_3 rfl rfl rfl (by decide) (Or.inr rfl) ?_
  have loop4 : ∀ (mm : Nat) (k : Nat) (n : Int), (k : Int) ≤ F a 5 → n = sRws5 F I a x k → F a 5 - (k : Int) < (mm : Int) → xG E mX2_rowsOf (xR d 0 0) X 4 [some (.ref a), some (J x), some (J n), some (J (k : Int))] [] (z, T, F, I, P, Y) 0 0 := by
    intro mm
    induction mm with
    | zero => intro k n hk hn hm; exfalso; omega
    | succ mm ih =>
      intro k n hk hn hm
      have htr := sTold5_r (F := F) hI (k : Int)
      refine xg_iloadn 5 dX2_rowsOf_4 rfl rfl rfl ?_
      refine xg_aloadn 6 dX2_rowsOf_5 rfl rfl rfl ?_
      refine xg_getI 9 kf_RX2_28 dX2_rowsOf_6 rfl (by assumption) ?_
      refine xg_icge 31 12 dX2_rowsOf_9 rfl rfl (by omega) (fun hb9 => ?_) (fun hb9 => ?_)
      · skip
        refine xg_iloadn 32 dX2_rowsOf_31 rfl rfl rfl ?_
        subst hX
        exact xg_ireturn dX2_rowsOf_32 rfl ⟨Nat.le_refl _, Nat.le_refl _⟩ ⟨by rw [hn, show k = (F a 5).toNat by omega], rfl⟩
      · skip
        refine xg_aloadn 13 dX2_rowsOf_12 rfl rfl rfl ?_
        refine xg_iloadn 14 dX2_rowsOf_13 rfl rfl rfl ?_
        refine xg_iconst 15 dX2_rowsOf_14 rfl ?_
        refine xg_callV 18 2 [_, _] _ kv_X2_told ⟨_, _, rfl⟩ kl_RX2_31 dX2_rowsOf_15 rfl (by assumption) (by omega) rfl rfl (Nat.le_of_ble_eq_true rfl) (by omega) ⟨Nat.le_refl _, Nat.le_refl _⟩ (ct_X2_told hw h4 h5 (by omega) (by omega)) rfl ?_
        refine xg_iloadn 19 dX2_rowsOf_18 rfl rfl rfl ?_
        refine xg_icne 25 22 dX2_rowsOf_19 rfl rfl (by omega) (fun hb19 => ?_) (fun hb19 => ?_)
        · skip
          refine xg_iinc 28 _ dX2_rowsOf_25 rfl rfl rfl rfl (by decide) (Or.inr rfl) ?_
          refine xg_goto 4 dX2_rowsOf_28 rfl ?_
          exact xg_weak _ (xle_s rfl (xle_s rfl (xle_s rfl (xle_s rfl xle_0)))) (ih (k + 1) _ (by omega) (by rw [sRws5, pSum_s, if_neg hb19, hn, sRws5, Int.add_zero]) (by omega))
        · skip
          refine xg_iinc 25 _ dX2_rowsOf_22 rfl rfl rfl rfl (by decide) (Or.inr rfl) ?_
          refine xg_iinc 28 _ dX2_rowsOf_25 rfl rfl rfl rfl (by decide) (Or.inr rfl) ?_
          refine xg_goto 4 dX2_rowsOf_28 rfl ?_
          exact xg_weak _ (xle_s rfl (xle_s rfl (xle_s rfl (xle_s rfl xle_0)))) (ih (k + 1) _ (by omega) (by rw [sRws5, pSum_s, if_pos (by omega), hn, sRws5]) (by omega))
  exact xg_weak _ (xle_s rfl (xle_s rfl (xle_s rfl (xle_s rfl xle_0)))) (loop4 61 0 0 (by omega) rfl (by omega))

theorem dX2_latestTick_0 : decode cX2_latestTick 0 = .ok (.iconst 0, 1) := by decide +kernel
theorem dX2_latestTick_1 : decode cX2_latestTick 1 = .ok (.istore_n 2, 1) := by decide +kernel
theorem dX2_latestTick_2 : decode cX2_latestTick 2 = .ok (.iload_n 2, 1) := by decide +kernel
theorem dX2_latestTick_3 : decode cX2_latestTick 3 = .ok (.aload_n 0, 1) := by decide +kernel
theorem dX2_latestTick_4 : decode cX2_latestTick 4 = .ok (.getfield 28, 3) := by decide +kernel
theorem dX2_latestTick_7 : decode cX2_latestTick 7 = .ok (.if_icmp .ge 26, 3) := by decide +kernel
theorem dX2_latestTick_10 : decode cX2_latestTick 10 = .ok (.aload_n 0, 1) := by decide +kernel
theorem dX2_latestTick_11 : decode cX2_latestTick 11 = .ok (.iload_n 2, 1) := by decide +kernel
theorem dX2_latestTick_12 : decode cX2_latestTick 12 = .ok (.iconst 1, 1) := by decide +kernel
theorem dX2_latestTick_13 : decode cX2_latestTick 13 = .ok (.invokevirtual 31, 3) := by decide +kernel
theorem dX2_latestTick_16 : decode cX2_latestTick 16 = .ok (.iload_n 1, 1) := by decide +kernel
theorem dX2_latestTick_17 : decode cX2_latestTick 17 = .ok (.if_icmp .ne 10, 3) := by decide +kernel
theorem dX2_latestTick_20 : decode cX2_latestTick 20 = .ok (.aload_n 0, 1) := by decide +kernel
theorem dX2_latestTick_21 : decode cX2_latestTick 21 = .ok (.iload_n 2, 1) := by decide +kernel
theorem dX2_latestTick_22 : decode cX2_latestTick 22 = .ok (.iconst 0, 1) := by decide +kernel
theorem dX2_latestTick_23 : decode cX2_latestTick 23 = .ok (.invokevirtual 31, 3) := by decide +kernel
theorem dX2_latestTick_26 : decode cX2_latestTick 26 = .ok (.ireturn, 1) := by decide +kernel
theorem dX2_latestTick_27 : decode cX2_latestTick 27 = .ok (.iinc 2 1, 3) := by decide +kernel
theorem dX2_latestTick_30 : decode cX2_latestTick 30 = .ok (.goto (-28), 3) := by decide +kernel
theorem dX2_latestTick_33 : decode cX2_latestTick 33 = .ok (.iconst (-1), 1) := by decide +kernel
theorem dX2_latestTick_34 : decode cX2_latestTick 34 = .ok (.ireturn, 1) := by decide +kernel
set_option maxHeartbeats 4000000 in
set_option maxRecDepth 100000 in
theorem ct_X2_latestTick {E : xE} {z : Nat} {T : Nat → Nat × Int} {F : Nat → Nat → Int} {I : Nat → Int → Int} {P : Nat → Nat → Option Nat} {Y : Nat → Int → Option Nat} {a : Nat} {x : Int} (hw : wJou T P a) (h4 : 0 ≤ F a 4 ∧ F a 4 < 60) (h5 : 0 ≤ F a 5 ∧ F a 5 ≤ 60) (hI : ∀ j : Int, -2147483648 ≤ I (a + 2) j ∧ I (a + 2) j < 2147483648) (hx : -2147483648 ≤ x ∧ x < 2147483648) : Ct E 1 mX2_latestTick 0 0 [.ref a, J x] (z, T, F, I, P, Y) (xd (some (J (sLat5 F I a x (F a 5).toNat 0))) (z, T, F, I, P, Y)) := by
  obtain ⟨w0, -⟩ := id hw
  refine Ct.of [some (.ref a), some (J x), none] kt_X2_latestTick rfl (Nat.le_of_ble_eq_true rfl) rfl (fun d hd => ?_)
  generalize hX : xN E _ _ _ = X
  refine xg_iconst 1 dX2_latestTick_0 rfl ?_
  refine xg_istoren 2 _ dX2_latestTick_1 rfl rfl rfl (by decide) (Or.inr rfl) ?_
  have loop2 : ∀ (mm : Nat) (k n : Nat), ((k : Int) + n = F a 5 ∧ sLat5 F I a x n k = sLat5 F I a x (F a 5).toNat 0) → F a 5 - (k : Int) < (mm : Int) → xG E mX2_latestTick (xR d 0 0) X 2 [some (.ref a), some (J x), some (J (k : Int))] [] (z, T, F, I, P, Y) 0 0 := by
    intro mm
    induction mm with
    | zero => intro k n hk hm; exfalso; omega
    | succ mm ih =>
      intro k n hk hm
      have htr := sTold5_r (F := F) hI (k : Int)
      refine xg_iloadn 3 dX2_latestTick_2 rfl rfl rfl ?_
      refine xg_aloadn 4 dX2_latestTick_3 rfl rfl rfl ?_
      refine xg_getI 7 kf_RX2_28 dX2_latestTick_4 rfl (by assumption) ?_
      refine xg_icge 33 10 dX2_latestTick_7 rfl rfl (by omega) (fun hb7 => ?_) (fun hb7 => ?_)
      · skip
        refine xg_iconst 34 dX2_latestTick_33 rfl ?_
        subst hX
        exact xg_ireturn dX2_latestTick_34 rfl ⟨Nat.le_refl _, Nat.le_refl _⟩ ⟨by rw [← hk.2, show n = 0 by omega]; rfl, rfl⟩
      · skip
        refine xg_aloadn 11 dX2_latestTick_10 rfl rfl rfl ?_
        refine xg_iloadn 12 dX2_latestTick_11 rfl rfl rfl ?_
        refine xg_iconst 13 dX2_latestTick_12 rfl ?_
        refine xg_callV 16 2 [_, _] _ kv_X2_told ⟨_, _, rfl⟩ kl_RX2_31 dX2_latestTick_13 rfl (by assumption) (by omega) rfl rfl (Nat.le_of_ble_eq_true rfl) (by omega) ⟨Nat.le_refl _, Nat.le_refl _⟩ (ct_X2_told hw h4 h5 (by omega) (by omega)) rfl ?_
        refine xg_iloadn 17 dX2_latestTick_16 rfl rfl rfl ?_
        refine xg_icne 27 20 dX2_latestTick_17 rfl rfl (by omega) (fun hb17 => ?_) (fun hb17 => ?_)
        · skip
          refine xg_iinc 30 _ dX2_latestTick_27 rfl rfl rfl rfl (by decide) (Or.inr rfl) ?_
          refine xg_goto 2 dX2_latestTick_30 rfl ?_
          obtain ⟨n, rfl⟩ : ∃ n9, n = n9 + 1 := ⟨n - 1, by omega⟩
          exact xg_weak _ (xle_s rfl (xle_s rfl (xle_s rfl xle_0))) (ih (k + 1) n ⟨by omega, by rw [← hk.2, sLat5, if_neg hb17]; rfl⟩ (by omega))
        · skip
          refine xg_aloadn 21 dX2_latestTick_20 rfl rfl rfl ?_
          refine xg_iloadn 22 dX2_latestTick_21 rfl rfl rfl ?_
          refine xg_iconst 23 dX2_latestTick_22 rfl ?_
          refine xg_callV 26 2 [_, _] _ kv_X2_told ⟨_, _, rfl⟩ kl_RX2_31 dX2_latestTick_23 rfl (by assumption) (by omega) rfl rfl (Nat.le_of_ble_eq_true rfl) (by omega) ⟨Nat.le_refl _, Nat.le_refl _⟩ (ct_X2_told hw h4 h5 (by omega) (by omega)) rfl ?_
          subst hX
          refine xg_ireturn dX2_latestTick_26 rfl ⟨Nat.le_refl _, Nat.le_refl _⟩ ?_
          obtain ⟨n, rfl⟩ : ∃ n9, n = n9 + 1 := ⟨n - 1, by omega⟩
          exact ⟨by rw [← hk.2, sLat5, if_pos (by omega)], rfl⟩
  exact xg_weak _ (xle_s rfl (xle_s rfl (xle_s rfl xle_0))) (loop2 61 0 (F a 5).toNat ⟨by omega, rfl⟩ (by omega))

