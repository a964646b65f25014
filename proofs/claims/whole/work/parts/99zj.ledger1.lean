theorem dX11_debt_0 : decode cX11_debt 0 = .ok (.aload_n 0, 1) := by decide +kernel
theorem dX11_debt_1 : decode cX11_debt 1 = .ok (.getfield 23, 3) := by decide +kernel
theorem dX11_debt_4 : decode cX11_debt 4 = .ok (.invokevirtual 213, 3) := by decide +kernel
theorem dX11_debt_7 : decode cX11_debt 7 = .ok (.ireturn, 1) := by decide +kernel
set_option maxHeartbeats 4000000 in
set_option maxRecDepth 100000 in
theorem ct_X11_debt {E : xE} {z : Nat} {T : Nat → Nat × Int} {F : Nat → Nat → Int} {I : Nat → Int → Int} {P : Nat → Nat → Option Nat} {Y : Nat → Int → Option Nat} {o a : Nat} {w : Int → Int} (h1 : (T o).1 = 12) (h3 : P o 3 = some a) (hS : SR T F I P Y a w) (hr : wRn w) : Ct E 1 mX11_debt 0 0 [.ref o] (z, T, F, I, P, Y) (xd (some (J (sDebt w))) (z, T, F, I, P, Y)) := by
  have hO := hS.1.1
  have o0 := hO.2.1
  have st9 : (T a).1 = 9 := by obtain ⟨g1, g2, ⟨π, g3⟩, g4⟩ := id hS; exact g3.1.1.1.1
  refine Ct.of [some (.ref o)] kt_X11_debt rfl (Nat.le_of_ble_eq_true rfl) rfl (fun d hd => ?_)
  generalize hX : xN E _ _ _ = X
  refine xg_aloadn 1 dX11_debt_0 rfl rfl rfl ?_
  refine xg_getP 4 kf_RX11_23 dX11_debt_1 rfl h1 h3 ?_
  refine xg_callV 7 8 [] _ kv_X8_debtNow ⟨_, _, rfl⟩ kl_RX11_213 dX11_debt_4 rfl st9 (by omega) rfl rfl (Nat.le_of_ble_eq_true rfl) (by omega) ⟨Nat.le_refl _, Nat.le_refl _⟩ (ct_X8_debtNow hS) rfl ?_
  subst hX
  exact xg_ireturn dX11_debt_7 rfl ⟨Nat.le_refl _, Nat.le_refl _⟩ ⟨by rw [sDebt_eq hr o0], rfl⟩

theorem dX11_slice_0 : decode cX11_slice 0 = .ok (.aload_n 0, 1) := by decide +kernel
theorem dX11_slice_1 : decode cX11_slice 1 = .ok (.getfield 23, 3) := by decide +kernel
theorem dX11_slice_4 : decode cX11_slice 4 = .ok (.invokevirtual 216, 3) := by decide +kernel
theorem dX11_slice_7 : decode cX11_slice 7 = .ok (.ireturn, 1) := by decide +kernel
set_option maxHeartbeats 4000000 in
set_option maxRecDepth 100000 in
theorem ct_X11_slice {E : xE} {z : Nat} {T : Nat → Nat × Int} {F : Nat → Nat → Int} {I : Nat → Int → Int} {P : Nat → Nat → Option Nat} {Y : Nat → Int → Option Nat} {o a : Nat} {w : Int → Int} (h1 : (T o).1 = 12) (h3 : P o 3 = some a) (hS : SR T F I P Y a w) (hr : wRn w) : Ct E 3 mX11_slice 0 0 [.ref o] (z, T, F, I, P, Y) (xQ a (some (J (sSlice w))) z T F I P Y w) := by
  have hO := hS.1.1
  have o0 := hO.2.1
  have st9 : (T a).1 = 9 := by obtain ⟨g1, g2, ⟨π, g3⟩, g4⟩ := id hS; exact g3.1.1.1.1
  refine Ct.of [some (.ref o)] kt_X11_slice rfl (Nat.le_of_ble_eq_true rfl) rfl (fun d hd => ?_)
  generalize hX : xN E _ _ _ = X
  refine xg_aloadn 1 dX11_slice_0 rfl rfl rfl ?_
  refine xg_getP 4 kf_RX11_23 dX11_slice_1 rfl h1 h3 ?_
  refine xg_callVq 7 8 [] _ kv_X8_sliceSize ⟨_, _, rfl⟩ kl_RX11_216 dX11_slice_4 rfl st9 (by omega) rfl rfl (Nat.le_of_ble_eq_true rfl) (by omega) ⟨Nat.le_refl _, Nat.le_refl _⟩ (ct_X8_sliceSize hS hr) rfl (fun Fk1 Ik1 Pk1 Yk1 hSk1 hFk1 => ?_)
  subst hX
  exact xg_ireturn dX11_slice_7 rfl ⟨Nat.le_refl _, Nat.le_refl _⟩ ⟨rfl, _, _, _, _, rfl, hSk1, hFk1⟩

theorem dX11_get_0 : decode cX11_get 0 = .ok (.iload_n 1, 1) := by decide +kernel
theorem dX11_get_1 : decode cX11_get 1 = .ok (.invokestatic 225, 3) := by decide +kernel
theorem dX11_get_4 : decode cX11_get 4 = .ok (.ifCond .eq 11, 3) := by decide +kernel
theorem dX11_get_7 : decode cX11_get 7 = .ok (.new 125, 3) := by decide +kernel
theorem dX11_get_10 : decode cX11_get 10 = .ok (.dup, 1) := by decide +kernel
theorem dX11_get_11 : decode cX11_get 11 = .ok (.invokespecial 127, 3) := by decide +kernel
theorem dX11_get_14 : decode cX11_get 14 = .ok (.athrow, 1) := by decide +kernel
theorem dX11_get_15 : decode cX11_get 15 = .ok (.aload_n 0, 1) := by decide +kernel
theorem dX11_get_16 : decode cX11_get 16 = .ok (.getfield 23, 3) := by decide +kernel
theorem dX11_get_19 : decode cX11_get 19 = .ok (.iload_n 1, 1) := by decide +kernel
theorem dX11_get_20 : decode cX11_get 20 = .ok (.invokevirtual 278, 3) := by decide +kernel
theorem dX11_get_23 : decode cX11_get 23 = .ok (.ireturn, 1) := by decide +kernel
set_option maxHeartbeats 4000000 in
set_option maxRecDepth 100000 in
theorem ct_X11_get {E : xE} {z : Nat} {T : Nat → Nat × Int} {F : Nat → Nat → Int} {I : Nat → Int → Int} {P : Nat → Nat → Option Nat} {Y : Nat → Int → Option Nat} {o a : Nat} {w : Int → Int} (h1 : (T o).1 = 12) (h3 : P o 3 = some a) (hS : SR T F I P Y a w) {key : Int} (hk : 0 ≤ key ∧ key < 60) : Ct E 2 mX11_get 0 0 [.ref o, J key] (z, T, F, I, P, Y) (xd (some (J (sFnd w key))) (z, T, F, I, P, Y)) := by
  have hO := hS.1.1
  have o0 := hO.2.1
  have st9 : (T a).1 = 9 := by obtain ⟨g1, g2, ⟨π, g3⟩, g4⟩ := id hS; exact g3.1.1.1.1
  refine Ct.of [some (.ref o), some (J key)] kt_X11_get rfl (Nat.le_of_ble_eq_true rfl) rfl (fun d hd => ?_)
  generalize hX : xN E _ _ _ = X
  refine xg_iloadn 1 dX11_get_0 rfl rfl rfl ?_
  refine xg_callS 4 [_] _ ks_X11_isNoKey kl_RX11_225 dX11_get_1 rfl rfl rfl (Nat.le_of_ble_eq_true rfl) (by omega) ⟨Nat.le_refl _, Nat.le_refl _⟩ (ct_X11_isNoKey (by omega)) rfl ?_
  refine xg_deq 15 7 dX11_get_4 rfl rfl (fun hb4 => ?_) (fun hb4 => ?_)
  · skip
    refine xg_aloadn 16 dX11_get_15 rfl rfl rfl ?_
    refine xg_getP 19 kf_RX11_23 dX11_get_16 rfl h1 h3 ?_
    refine xg_iloadn 20 dX11_get_19 rfl rfl rfl ?_
    refine xg_callV 23 8 [_] _ kv_X8_found ⟨_, _, rfl⟩ kl_RX11_278 dX11_get_20 rfl st9 (by omega) rfl rfl (Nat.le_of_ble_eq_true rfl) (by omega) ⟨Nat.le_refl _, Nat.le_refl _⟩ (ct_X8_found hS hk) rfl ?_
    subst hX
    exact xg_ireturn dX11_get_23 rfl ⟨Nat.le_refl _, Nat.le_refl _⟩ ⟨rfl, rfl⟩
  · exfalso; omega

theorem dX11_looks_0 : decode cX11_looks 0 = .ok (.iload_n 1, 1) := by decide +kernel
theorem dX11_looks_1 : decode cX11_looks 1 = .ok (.invokestatic 225, 3) := by decide +kernel
theorem dX11_looks_4 : decode cX11_looks 4 = .ok (.ifCond .eq 11, 3) := by decide +kernel
theorem dX11_looks_7 : decode cX11_looks 7 = .ok (.new 125, 3) := by decide +kernel
theorem dX11_looks_10 : decode cX11_looks 10 = .ok (.dup, 1) := by decide +kernel
theorem dX11_looks_11 : decode cX11_looks 11 = .ok (.invokespecial 127, 3) := by decide +kernel
theorem dX11_looks_14 : decode cX11_looks 14 = .ok (.athrow, 1) := by decide +kernel
theorem dX11_looks_15 : decode cX11_looks 15 = .ok (.aload_n 0, 1) := by decide +kernel
theorem dX11_looks_16 : decode cX11_looks 16 = .ok (.getfield 23, 3) := by decide +kernel
theorem dX11_looks_19 : decode cX11_looks 19 = .ok (.iload_n 1, 1) := by decide +kernel
theorem dX11_looks_20 : decode cX11_looks 20 = .ok (.invokevirtual 281, 3) := by decide +kernel
theorem dX11_looks_23 : decode cX11_looks 23 = .ok (.ireturn, 1) := by decide +kernel
set_option maxHeartbeats 4000000 in
set_option maxRecDepth 100000 in
theorem ct_X11_looks {E : xE} {z : Nat} {T : Nat → Nat × Int} {F : Nat → Nat → Int} {I : Nat → Int → Int} {P : Nat → Nat → Option Nat} {Y : Nat → Int → Option Nat} {o a : Nat} {w : Int → Int} (h1 : (T o).1 = 12) (h3 : P o 3 = some a) (hS : SR T F I P Y a w) {key : Int} (hk : 0 ≤ key ∧ key < 60) : Ct E 2 mX11_looks 0 0 [.ref o, J key] (z, T, F, I, P, Y) (xd (some (J (sTook w key))) (z, T, F, I, P, Y)) := by
  have hO := hS.1.1
  have o0 := hO.2.1
  have st9 : (T a).1 = 9 := by obtain ⟨g1, g2, ⟨π, g3⟩, g4⟩ := id hS; exact g3.1.1.1.1
  refine Ct.of [some (.ref o), some (J key)] kt_X11_looks rfl (Nat.le_of_ble_eq_true rfl) rfl (fun d hd => ?_)
  generalize hX : xN E _ _ _ = X
  refine xg_iloadn 1 dX11_looks_0 rfl rfl rfl ?_
  refine xg_callS 4 [_] _ ks_X11_isNoKey kl_RX11_225 dX11_looks_1 rfl rfl rfl (Nat.le_of_ble_eq_true rfl) (by omega) ⟨Nat.le_refl _, Nat.le_refl _⟩ (ct_X11_isNoKey (by omega)) rfl ?_
  refine xg_deq 15 7 dX11_looks_4 rfl rfl (fun hb4 => ?_) (fun hb4 => ?_)
  · skip
    refine xg_aloadn 16 dX11_looks_15 rfl rfl rfl ?_
    refine xg_getP 19 kf_RX11_23 dX11_looks_16 rfl h1 h3 ?_
    refine xg_iloadn 20 dX11_looks_19 rfl rfl rfl ?_
    refine xg_callV 23 8 [_] _ kv_X8_took ⟨_, _, rfl⟩ kl_RX11_281 dX11_looks_20 rfl st9 (by omega) rfl rfl (Nat.le_of_ble_eq_true rfl) (by omega) ⟨Nat.le_refl _, Nat.le_refl _⟩ (ct_X8_took hS hk) rfl ?_
    subst hX
    exact xg_ireturn dX11_looks_23 rfl ⟨Nat.le_refl _, Nat.le_refl _⟩ ⟨rfl, rfl⟩
  · exfalso; omega

theorem dX11_many_0 : decode cX11_many 0 = .ok (.aload_n 0, 1) := by decide +kernel
theorem dX11_many_1 : decode cX11_many 1 = .ok (.getfield 23, 3) := by decide +kernel
theorem dX11_many_4 : decode cX11_many 4 = .ok (.invokevirtual 284, 3) := by decide +kernel
theorem dX11_many_7 : decode cX11_many 7 = .ok (.ireturn, 1) := by decide +kernel
set_option maxHeartbeats 4000000 in
set_option maxRecDepth 100000 in
theorem ct_X11_many {E : xE} {z : Nat} {T : Nat → Nat × Int} {F : Nat → Nat → Int} {I : Nat → Int → Int} {P : Nat → Nat → Option Nat} {Y : Nat → Int → Option Nat} {o a : Nat} {w : Int → Int} (h1 : (T o).1 = 12) (h3 : P o 3 = some a) (hS : SR T F I P Y a w) : Ct E 3 mX11_many 0 0 [.ref o] (z, T, F, I, P, Y) (xd (some (J (sFndN w))) (z, T, F, I, P, Y)) := by
  have hO := hS.1.1
  have o0 := hO.2.1
  have st9 : (T a).1 = 9 := by obtain ⟨g1, g2, ⟨π, g3⟩, g4⟩ := id hS; exact g3.1.1.1.1
  refine Ct.of [some (.ref o)] kt_X11_many rfl (Nat.le_of_ble_eq_true rfl) rfl (fun d hd => ?_)
  generalize hX : xN E _ _ _ = X
  refine xg_aloadn 1 dX11_many_0 rfl rfl rfl ?_
  refine xg_getP 4 kf_RX11_23 dX11_many_1 rfl h1 h3 ?_
  refine xg_callV 7 8 [] _ kv_X8_foundKeys ⟨_, _, rfl⟩ kl_RX11_284 dX11_many_4 rfl st9 (by omega) rfl rfl (Nat.le_of_ble_eq_true rfl) (by omega) ⟨Nat.le_refl _, Nat.le_refl _⟩ (ct_X8_foundKeys hS) rfl ?_
  subst hX
  exact xg_ireturn dX11_many_7 rfl ⟨Nat.le_refl _, Nat.le_refl _⟩ ⟨rfl, rfl⟩

theorem dX11_rank_0 : decode cX11_rank 0 = .ok (.iload_n 1, 1) := by decide +kernel
theorem dX11_rank_1 : decode cX11_rank 1 = .ok (.istore_n 2, 1) := by decide +kernel
theorem dX11_rank_2 : decode cX11_rank 2 = .ok (.iconst 0, 1) := by decide +kernel
theorem dX11_rank_3 : decode cX11_rank 3 = .ok (.istore_n 3, 1) := by decide +kernel
theorem dX11_rank_4 : decode cX11_rank 4 = .ok (.iload_n 3, 1) := by decide +kernel
theorem dX11_rank_5 : decode cX11_rank 5 = .ok (.bipush 60, 2) := by decide +kernel
theorem dX11_rank_7 : decode cX11_rank 7 = .ok (.if_icmp .ge 34, 3) := by decide +kernel
theorem dX11_rank_10 : decode cX11_rank 10 = .ok (.iload_n 2, 1) := by decide +kernel
theorem dX11_rank_11 : decode cX11_rank 11 = .ok (.ifCond .lt 30, 3) := by decide +kernel
theorem dX11_rank_14 : decode cX11_rank 14 = .ok (.aload_n 0, 1) := by decide +kernel
theorem dX11_rank_15 : decode cX11_rank 15 = .ok (.getfield 23, 3) := by decide +kernel
theorem dX11_rank_18 : decode cX11_rank 18 = .ok (.iload_n 3, 1) := by decide +kernel
theorem dX11_rank_19 : decode cX11_rank 19 = .ok (.invokevirtual 278, 3) := by decide +kernel
theorem dX11_rank_22 : decode cX11_rank 22 = .ok (.iconst (-1), 1) := by decide +kernel
theorem dX11_rank_23 : decode cX11_rank 23 = .ok (.if_icmp .eq 12, 3) := by decide +kernel
theorem dX11_rank_26 : decode cX11_rank 26 = .ok (.iload_n 2, 1) := by decide +kernel
theorem dX11_rank_27 : decode cX11_rank 27 = .ok (.ifCond .ne 5, 3) := by decide +kernel
theorem dX11_rank_30 : decode cX11_rank 30 = .ok (.iload_n 3, 1) := by decide +kernel
theorem dX11_rank_31 : decode cX11_rank 31 = .ok (.ireturn, 1) := by decide +kernel
theorem dX11_rank_32 : decode cX11_rank 32 = .ok (.iinc 2 (-1), 3) := by decide +kernel
theorem dX11_rank_35 : decode cX11_rank 35 = .ok (.iinc 3 1, 3) := by decide +kernel
theorem dX11_rank_38 : decode cX11_rank 38 = .ok (.goto (-34), 3) := by decide +kernel
theorem dX11_rank_41 : decode cX11_rank 41 = .ok (.iconst (-1), 1) := by decide +kernel
theorem dX11_rank_42 : decode cX11_rank 42 = .ok (.ireturn, 1) := by decide +kernel
set_option maxHeartbeats 4000000 in
set_option maxRecDepth 100000 in
theorem ct_X11_rank {E : xE} {z : Nat} {T : Nat → Nat × Int} {F : Nat → Nat → Int} {I : Nat → Int → Int} {P : Nat → Nat → Option Nat} {Y : Nat → Int → Option Nat} {o a : Nat} {w : Int → Int} (h1 : (T o).1 = 12) (h3 : P o 3 = some a) (hS : SR T F I P Y a w) {v : Int} (hv : -2147483648 ≤ v ∧ v < 2147483648) : Ct E 2 mX11_rank 0 0 [.ref o, J v] (z, T, F, I, P, Y) (xd (some (J (sRank w 60 0 v))) (z, T, F, I, P, Y)) := by
  have hO := hS.1.1
  have o0 := hO.2.1
  have st9 : (T a).1 = 9 := by obtain ⟨g1, g2, ⟨π, g3⟩, g4⟩ := id hS; exact g3.1.1.1.1
  refine Ct.of [some (.ref o), some (J v), none, none] kt_X11_rank rfl (Nat.le_of_ble_eq_true rfl) rfl (fun d hd => ?_)
  generalize hX : xN E _ _ _ = X
  refine xg_iloadn 1 dX11_rank_0 rfl rfl rfl ?_
  refine xg_istoren 2 _ dX11_rank_1 rfl rfl rfl (by decide) (Or.inr rfl) ?_
  refine xg_iconst 3 dX11_rank_2 rfl ?_
  refine xg_istoren 4 _ dX11_rank_3 rfl rfl rfl (by decide) (Or.inr rfl) ?_
  have loop4 : ∀ (mm : Nat) (left key : Int) (j : Nat), (-2147483648 ≤ left ∧ left < 2147483648) → (key + j = 60 ∧ 0 ≤ key) → sRank w j key left = sRank w 60 0 v → (j : Int) < (mm : Int) → xG E mX11_rank (xR d 0 0) X 4 [some (.ref o), some (J v), some (J left), some (J key)] [] (z, T, F, I, P, Y) 0 0 := by
    intro mm
    induction mm with
    | zero => intro left key j hl hj he hm; exfalso; omega
    | succ mm ih =>
      intro left key j hl hj he hm
      refine xg_iloadn 5 dX11_rank_4 rfl rfl rfl ?_
      refine xg_bipush 7 dX11_rank_5 rfl (by decide) ?_
      refine xg_icge 41 10 dX11_rank_7 rfl rfl (by omega) (fun hb7 => ?_) (fun hb7 => ?_)
      · skip
        refine xg_iconst 42 dX11_rank_41 rfl ?_
        subst hX
        refine xg_ireturn dX11_rank_42 rfl ⟨Nat.le_refl _, Nat.le_refl _⟩ ?_
        refine ⟨?_, rfl⟩
        rw [← he]
        cases j with
        | zero => rfl
        | succ j => rw [sRank, if_pos (by omega)]
      · skip
        refine xg_iloadn 11 dX11_rank_10 rfl rfl rfl ?_
        refine xg_iflt 41 14 dX11_rank_11 rfl rfl (by omega) (fun hb11 => ?_) (fun hb11 => ?_)
        · skip
          refine xg_iconst 42 dX11_rank_41 rfl ?_
          subst hX
          refine xg_ireturn dX11_rank_42 rfl ⟨Nat.le_refl _, Nat.le_refl _⟩ ?_
          refine ⟨?_, rfl⟩
          rw [← he]
          cases j with
          | zero => rfl
          | succ j => rw [sRank, if_pos (by omega)]
        · skip
          refine xg_aloadn 15 dX11_rank_14 rfl rfl rfl ?_
          refine xg_getP 18 kf_RX11_23 dX11_rank_15 rfl h1 h3 ?_
          refine xg_iloadn 19 dX11_rank_18 rfl rfl rfl ?_
          refine xg_callV 22 8 [_] _ kv_X8_found ⟨_, _, rfl⟩ kl_RX11_278 dX11_rank_19 rfl st9 (by omega) rfl rfl (Nat.le_of_ble_eq_true rfl) (by omega) ⟨Nat.le_refl _, Nat.le_refl _⟩ (ct_X8_found hS (by omega)) rfl ?_
          have hfr := sFnd_r hO (key := key) (by omega)
          refine xg_iconst 23 dX11_rank_22 rfl ?_
          refine xg_iceq 35 26 dX11_rank_23 rfl rfl (by omega) (fun hb23 => ?_) (fun hb23 => ?_)
          · skip
            refine xg_iinc 38 _ dX11_rank_35 rfl rfl rfl rfl (by decide) (Or.inr rfl) ?_
            refine xg_goto 4 dX11_rank_38 rfl ?_
            obtain ⟨j, rfl⟩ : ∃ j2, j = j2 + 1 := ⟨j - 1, by omega⟩
            exact xg_weak _ (xle_s rfl (xle_s rfl (xle_s rfl (xle_s rfl xle_0)))) (ih left (key + 1) j hl (by omega) (by rw [← he, sRank, if_neg (by omega), if_pos hb23]) (by omega))
          · skip
            refine xg_iloadn 27 dX11_rank_26 rfl rfl rfl ?_
            refine xg_ifne 32 30 dX11_rank_27 rfl rfl (by omega) (fun hb27 => ?_) (fun hb27 => ?_)
            · skip
              refine xg_iinc 35 _ dX11_rank_32 rfl rfl rfl rfl (by decide) (Or.inr rfl) ?_
              refine xg_iinc 38 _ dX11_rank_35 rfl rfl rfl rfl (by decide) (Or.inr rfl) ?_
              refine xg_goto 4 dX11_rank_38 rfl ?_
              obtain ⟨j, rfl⟩ : ∃ j2, j = j2 + 1 := ⟨j - 1, by omega⟩
              exact xg_weak _ (xle_s rfl (xle_s rfl (xle_s rfl (xle_s rfl xle_0)))) (ih (left + -1) (key + 1) j (by omega) (by omega) (by rw [← he, sRank, if_neg (by omega), if_neg hb23, if_neg hb27]; rfl) (by omega))
            · skip
              refine xg_iloadn 31 dX11_rank_30 rfl rfl rfl ?_
              subst hX
              refine xg_ireturn dX11_rank_31 rfl ⟨Nat.le_refl _, Nat.le_refl _⟩ ?_
              obtain ⟨j, rfl⟩ : ∃ j2, j = j2 + 1 := ⟨j - 1, by omega⟩
              exact ⟨by rw [← he, sRank, if_neg (by omega), if_neg hb23, if_pos hb27], rfl⟩
  exact xg_weak _ (xle_s rfl (xle_s rfl (xle_s rfl (xle_s rfl xle_0)))) (loop4 100 v 0 60 hv (by omega) rfl (by omega))

theorem dX11_total_0 : decode cX11_total 0 = .ok (.iload_n 1, 1) := by decide +kernel
theorem dX11_total_1 : decode cX11_total 1 = .ok (.invokestatic 225, 3) := by decide +kernel
theorem dX11_total_4 : decode cX11_total 4 = .ok (.ifCond .ne 10, 3) := by decide +kernel
theorem dX11_total_7 : decode cX11_total 7 = .ok (.iload_n 2, 1) := by decide +kernel
theorem dX11_total_8 : decode cX11_total 8 = .ok (.invokestatic 225, 3) := by decide +kernel
theorem dX11_total_11 : decode cX11_total 11 = .ok (.ifCond .eq 11, 3) := by decide +kernel
theorem dX11_total_14 : decode cX11_total 14 = .ok (.new 125, 3) := by decide +kernel
theorem dX11_total_17 : decode cX11_total 17 = .ok (.dup, 1) := by decide +kernel
theorem dX11_total_18 : decode cX11_total 18 = .ok (.invokespecial 127, 3) := by decide +kernel
theorem dX11_total_21 : decode cX11_total 21 = .ok (.athrow, 1) := by decide +kernel
theorem dX11_total_22 : decode cX11_total 22 = .ok (.iload_n 2, 1) := by decide +kernel
theorem dX11_total_23 : decode cX11_total 23 = .ok (.iload_n 1, 1) := by decide +kernel
theorem dX11_total_24 : decode cX11_total 24 = .ok (.if_icmp .ge 11, 3) := by decide +kernel
theorem dX11_total_27 : decode cX11_total 27 = .ok (.new 92, 3) := by decide +kernel
theorem dX11_total_30 : decode cX11_total 30 = .ok (.dup, 1) := by decide +kernel
theorem dX11_total_31 : decode cX11_total 31 = .ok (.invokespecial 94, 3) := by decide +kernel
theorem dX11_total_34 : decode cX11_total 34 = .ok (.athrow, 1) := by decide +kernel
theorem dX11_total_35 : decode cX11_total 35 = .ok (.iconst 0, 1) := by decide +kernel
theorem dX11_total_36 : decode cX11_total 36 = .ok (.istore_n 3, 1) := by decide +kernel
theorem dX11_total_37 : decode cX11_total 37 = .ok (.iload_n 1, 1) := by decide +kernel
theorem dX11_total_38 : decode cX11_total 38 = .ok (.istore 4, 2) := by decide +kernel
theorem dX11_total_40 : decode cX11_total 40 = .ok (.iload 4, 2) := by decide +kernel
theorem dX11_total_42 : decode cX11_total 42 = .ok (.iload_n 2, 1) := by decide +kernel
theorem dX11_total_43 : decode cX11_total 43 = .ok (.if_icmp .gt 31, 3) := by decide +kernel
theorem dX11_total_46 : decode cX11_total 46 = .ok (.aload_n 0, 1) := by decide +kernel
theorem dX11_total_47 : decode cX11_total 47 = .ok (.getfield 23, 3) := by decide +kernel
theorem dX11_total_50 : decode cX11_total 50 = .ok (.iload 4, 2) := by decide +kernel
theorem dX11_total_52 : decode cX11_total 52 = .ok (.invokevirtual 278, 3) := by decide +kernel
theorem dX11_total_55 : decode cX11_total 55 = .ok (.istore 5, 2) := by decide +kernel
theorem dX11_total_57 : decode cX11_total 57 = .ok (.iload 5, 2) := by decide +kernel
theorem dX11_total_59 : decode cX11_total 59 = .ok (.iconst (-1), 1) := by decide +kernel
theorem dX11_total_60 : decode cX11_total 60 = .ok (.if_icmp .eq 8, 3) := by decide +kernel
theorem dX11_total_63 : decode cX11_total 63 = .ok (.iload_n 3, 1) := by decide +kernel
theorem dX11_total_64 : decode cX11_total 64 = .ok (.iload 5, 2) := by decide +kernel
theorem dX11_total_66 : decode cX11_total 66 = .ok (.iadd, 1) := by decide +kernel
theorem dX11_total_67 : decode cX11_total 67 = .ok (.istore_n 3, 1) := by decide +kernel
theorem dX11_total_68 : decode cX11_total 68 = .ok (.iinc 4 1, 3) := by decide +kernel
theorem dX11_total_71 : decode cX11_total 71 = .ok (.goto (-31), 3) := by decide +kernel
theorem dX11_total_74 : decode cX11_total 74 = .ok (.iload_n 3, 1) := by decide +kernel
theorem dX11_total_75 : decode cX11_total 75 = .ok (.ireturn, 1) := by decide +kernel
set_option maxHeartbeats 4000000 in
set_option maxRecDepth 100000 in
theorem ct_X11_total {E : xE} {z : Nat} {T : Nat → Nat × Int} {F : Nat → Nat → Int} {I : Nat → Int → Int} {P : Nat → Nat → Option Nat} {Y : Nat → Int → Option Nat} {o a : Nat} {w : Int → Int} (h1 : (T o).1 = 12) (h3 : P o 3 = some a) (hS : SR T F I P Y a w) {v x : Int} (hv : 0 ≤ v ∧ v ≤ x ∧ x < 60) : Ct E 2 mX11_total 0 0 [.ref o, J v, J x] (z, T, F, I, P, Y) (xd (some (J (pTot w v (x - v + 1).toNat))) (z, T, F, I, P, Y)) := by
  have hO := hS.1.1
  have o0 := hO.2.1
  have st9 : (T a).1 = 9 := by obtain ⟨g1, g2, ⟨π, g3⟩, g4⟩ := id hS; exact g3.1.1.1.1
  refine Ct.of [some (.ref o), some (J v), some (J x), none, none, none] kt_X11_total rfl (Nat.le_of_ble_eq_true rfl) rfl (fun d hd => ?_)
  generalize hX : xN E _ _ _ = X
  refine xg_iloadn 1 dX11_total_0 rfl rfl rfl ?_
  refine xg_callS 4 [_] _ ks_X11_isNoKey kl_RX11_225 dX11_total_1 rfl rfl rfl (Nat.le_of_ble_eq_true rfl) (by omega) ⟨Nat.le_refl _, Nat.le_refl _⟩ (ct_X11_isNoKey (by omega)) rfl ?_
  refine xg_dne 14 7 dX11_total_4 rfl rfl (fun hb4 => ?_) (fun hb4 => ?_)
  · exfalso; omega
  · skip
    refine xg_iloadn 8 dX11_total_7 rfl rfl rfl ?_
    refine xg_callS 11 [_] _ ks_X11_isNoKey kl_RX11_225 dX11_total_8 rfl rfl rfl (Nat.le_of_ble_eq_true rfl) (by omega) ⟨Nat.le_refl _, Nat.le_refl _⟩ (ct_X11_isNoKey (by omega)) rfl ?_
    refine xg_deq 22 14 dX11_total_11 rfl rfl (fun hb11 => ?_) (fun hb11 => ?_)
    · skip
      refine xg_iloadn 23 dX11_total_22 rfl rfl rfl ?_
      refine xg_iloadn 24 dX11_total_23 rfl rfl rfl ?_
      refine xg_icge 35 27 dX11_total_24 rfl rfl (by omega) (fun hb24 => ?_) (fun hb24 => ?_)
      · skip
        refine xg_iconst 36 dX11_total_35 rfl ?_
        refine xg_istoren 37 _ dX11_total_36 rfl rfl rfl (by decide) (Or.inr rfl) ?_
        refine xg_iloadn 38 dX11_total_37 rfl rfl rfl ?_
        refine xg_istore 40 _ dX11_total_38 rfl rfl (by decide) (Or.inr rfl) ?_
        have loop40 : ∀ (mm : Nat) (k : Nat) (sum : Int), ((k : Int) ≤ x - v + 1) → sum = pTot w v k ∧ 0 ≤ sum ∧ sum ≤ 100 * (k : Int) → 70 - (k : Int) < (mm : Int) → xG E mX11_total (xR d 0 0) X 40 [some (.ref o), some (J v), some (J x), some (J sum), some (J (v + (k : Int))), none] [] (z, T, F, I, P, Y) 0 0 := by
          intro mm
          induction mm with
          | zero => intro k sum hk hs hm; exfalso; omega
          | succ mm ih =>
            intro k sum hk hs hm
            refine xg_iload 42 dX11_total_40 rfl rfl ?_
            refine xg_iloadn 43 dX11_total_42 rfl rfl rfl ?_
            refine xg_icgt 74 46 dX11_total_43 rfl rfl (by omega) (fun hb43 => ?_) (fun hb43 => ?_)
            · skip
              refine xg_iloadn 75 dX11_total_74 rfl rfl rfl ?_
              subst hX
              exact xg_ireturn dX11_total_75 rfl ⟨Nat.le_refl _, Nat.le_refl _⟩ ⟨by rw [hs.1, show (x - v + 1).toNat = k by omega], rfl⟩
            · skip
              refine xg_aloadn 47 dX11_total_46 rfl rfl rfl ?_
              refine xg_getP 50 kf_RX11_23 dX11_total_47 rfl h1 h3 ?_
              refine xg_iload 52 dX11_total_50 rfl rfl ?_
              refine xg_callV 55 8 [_] _ kv_X8_found ⟨_, _, rfl⟩ kl_RX11_278 dX11_total_52 rfl st9 (by omega) rfl rfl (Nat.le_of_ble_eq_true rfl) (by omega) ⟨Nat.le_refl _, Nat.le_refl _⟩ (ct_X8_found hS (by omega)) rfl ?_
              have hfr := sFnd_r hO (key := v + (k : Int)) (by omega)
              refine xg_istore 57 _ dX11_total_55 rfl rfl (by decide) (Or.inr rfl) ?_
              refine xg_iload 59 dX11_total_57 rfl rfl ?_
              refine xg_iconst 60 dX11_total_59 rfl ?_
              refine xg_iceq 68 63 dX11_total_60 rfl rfl (by omega) (fun hb60 => ?_) (fun hb60 => ?_)
              · skip
                refine xg_iinc 71 _ dX11_total_68 rfl rfl rfl rfl (by decide) (Or.inr rfl) ?_
                refine xg_goto 40 dX11_total_71 rfl ?_
                exact xg_weak _ (xle_s rfl (xle_s rfl (xle_s rfl (xle_s rfl (xle_s (v := J (v + ((k + 1 : Nat) : Int))) (congrArg (fun x => some (J x)) (by omega)) (xle_n xle_0)))))) (ih (k + 1) sum (by omega) ⟨by rw [pTot, hb60, ← hs.1]; omega, by omega, by omega⟩ (by omega))
              · skip
                refine xg_iloadn 64 dX11_total_63 rfl rfl rfl ?_
                refine xg_iload 66 dX11_total_64 rfl rfl ?_
                refine xg_iadd 67 dX11_total_66 rfl ?_
                refine xg_istoren 68 _ dX11_total_67 rfl rfl rfl (by decide) (Or.inr rfl) ?_
                refine xg_iinc 71 _ dX11_total_68 rfl rfl rfl rfl (by decide) (Or.inr rfl) ?_
                refine xg_goto 40 dX11_total_71 rfl ?_
                exact xg_weak _ (xle_s rfl (xle_s rfl (xle_s rfl (xle_s rfl (xle_s (v := J (v + ((k + 1 : Nat) : Int))) (congrArg (fun x => some (J x)) (by omega)) (xle_n xle_0)))))) (ih (k + 1) (sum + sFnd w (v + (k : Int))) (by omega) ⟨by rw [pTot, ← hs.1]; omega, by omega, by omega⟩ (by omega))
        exact xg_weak _ (xle_s rfl (xle_s rfl (xle_s rfl (xle_s rfl (xle_s (v := J (v + ((0 : Nat) : Int))) (congrArg (fun x => some (J x)) (by omega)) (xle_n xle_0)))))) (loop40 100 0 0 (by omega) ⟨rfl, by omega, by omega⟩ (by omega))
      · exfalso; omega
    · exfalso; omega

theorem dX11_deepest_0 : decode cX11_deepest 0 = .ok (.iconst 0, 1) := by decide +kernel
theorem dX11_deepest_1 : decode cX11_deepest 1 = .ok (.istore_n 1, 1) := by decide +kernel
theorem dX11_deepest_2 : decode cX11_deepest 2 = .ok (.iconst 0, 1) := by decide +kernel
theorem dX11_deepest_3 : decode cX11_deepest 3 = .ok (.istore_n 2, 1) := by decide +kernel
theorem dX11_deepest_4 : decode cX11_deepest 4 = .ok (.iload_n 2, 1) := by decide +kernel
theorem dX11_deepest_5 : decode cX11_deepest 5 = .ok (.bipush 60, 2) := by decide +kernel
theorem dX11_deepest_7 : decode cX11_deepest 7 = .ok (.if_icmp .ge 34, 3) := by decide +kernel
theorem dX11_deepest_10 : decode cX11_deepest 10 = .ok (.aload_n 0, 1) := by decide +kernel
theorem dX11_deepest_11 : decode cX11_deepest 11 = .ok (.getfield 23, 3) := by decide +kernel
theorem dX11_deepest_14 : decode cX11_deepest 14 = .ok (.iload_n 2, 1) := by decide +kernel
theorem dX11_deepest_15 : decode cX11_deepest 15 = .ok (.invokevirtual 278, 3) := by decide +kernel
theorem dX11_deepest_18 : decode cX11_deepest 18 = .ok (.iconst (-1), 1) := by decide +kernel
theorem dX11_deepest_19 : decode cX11_deepest 19 = .ok (.if_icmp .eq 16, 3) := by decide +kernel
theorem dX11_deepest_22 : decode cX11_deepest 22 = .ok (.iload_n 1, 1) := by decide +kernel
theorem dX11_deepest_23 : decode cX11_deepest 23 = .ok (.aload_n 0, 1) := by decide +kernel
theorem dX11_deepest_24 : decode cX11_deepest 24 = .ok (.getfield 23, 3) := by decide +kernel
theorem dX11_deepest_27 : decode cX11_deepest 27 = .ok (.iload_n 2, 1) := by decide +kernel
theorem dX11_deepest_28 : decode cX11_deepest 28 = .ok (.invokevirtual 281, 3) := by decide +kernel
theorem dX11_deepest_31 : decode cX11_deepest 31 = .ok (.invokestatic 303, 3) := by decide +kernel
theorem dX11_deepest_34 : decode cX11_deepest 34 = .ok (.istore_n 1, 1) := by decide +kernel
theorem dX11_deepest_35 : decode cX11_deepest 35 = .ok (.iinc 2 1, 3) := by decide +kernel
theorem dX11_deepest_38 : decode cX11_deepest 38 = .ok (.goto (-34), 3) := by decide +kernel
theorem dX11_deepest_41 : decode cX11_deepest 41 = .ok (.iload_n 1, 1) := by decide +kernel
theorem dX11_deepest_42 : decode cX11_deepest 42 = .ok (.ireturn, 1) := by decide +kernel
set_option maxHeartbeats 4000000 in
set_option maxRecDepth 100000 in
theorem ct_X11_deepest {E : xE} {z : Nat} {T : Nat → Nat × Int} {F : Nat → Nat → Int} {I : Nat → Int → Int} {P : Nat → Nat → Option Nat} {Y : Nat → Int → Option Nat} {o a : Nat} {w : Int → Int} (h1 : (T o).1 = 12) (h3 : P o 3 = some a) (hS : SR T F I P Y a w) : Ct E 2 mX11_deepest 0 0 [.ref o] (z, T, F, I, P, Y) (xd (some (J (sDeep w 60))) (z, T, F, I, P, Y)) := by
  have hO := hS.1.1
  have o0 := hO.2.1
  have st9 : (T a).1 = 9 := by obtain ⟨g1, g2, ⟨π, g3⟩, g4⟩ := id hS; exact g3.1.1.1.1
  refine Ct.of [some (.ref o), none, none] kt_X11_deepest rfl (Nat.le_of_ble_eq_true rfl) rfl (fun d hd => ?_)
  generalize hX : xN E _ _ _ = X
  refine xg_iconst 1 dX11_deepest_0 rfl ?_
  refine xg_istoren 2 _ dX11_deepest_1 rfl rfl rfl (by decide) (Or.inr rfl) ?_
  refine xg_iconst 3 dX11_deepest_2 rfl ?_
  refine xg_istoren 4 _ dX11_deepest_3 rfl rfl rfl (by decide) (Or.inr rfl) ?_
  have loop4 : ∀ (mm : Nat) (k : Nat) (mo : Int), k ≤ 60 → mo = sDeep w k ∧ 0 ≤ mo ∧ mo ≤ 13 → 70 - (k : Int) < (mm : Int) → xG E mX11_deepest (xR d 0 0) X 4 [some (.ref o), some (J mo), some (J (k : Int))] [] (z, T, F, I, P, Y) 0 0 := by
    intro mm
    induction mm with
    | zero => intro k mo hk hmo hm; exfalso; omega
    | succ mm ih =>
      intro k mo hk hmo hm
      refine xg_iloadn 5 dX11_deepest_4 rfl rfl rfl ?_
      refine xg_bipush 7 dX11_deepest_5 rfl (by decide) ?_
      refine xg_icge 41 10 dX11_deepest_7 rfl rfl (by omega) (fun hb7 => ?_) (fun hb7 => ?_)
      · skip
        refine xg_iloadn 42 dX11_deepest_41 rfl rfl rfl ?_
        subst hX
        exact xg_ireturn dX11_deepest_42 rfl ⟨Nat.le_refl _, Nat.le_refl _⟩ ⟨by rw [hmo.1, show k = 60 by omega], rfl⟩
      · skip
        refine xg_aloadn 11 dX11_deepest_10 rfl rfl rfl ?_
        refine xg_getP 14 kf_RX11_23 dX11_deepest_11 rfl h1 h3 ?_
        refine xg_iloadn 15 dX11_deepest_14 rfl rfl rfl ?_
        refine xg_callV 18 8 [_] _ kv_X8_found ⟨_, _, rfl⟩ kl_RX11_278 dX11_deepest_15 rfl st9 (by omega) rfl rfl (Nat.le_of_ble_eq_true rfl) (by omega) ⟨Nat.le_refl _, Nat.le_refl _⟩ (ct_X8_found hS (by omega)) rfl ?_
        have hfr := sFnd_r hO (key := (k : Int)) (by omega)
        have htb := sTook_bd hO (k : Int)
        refine xg_iconst 19 dX11_deepest_18 rfl ?_
        refine xg_iceq 35 22 dX11_deepest_19 rfl rfl (by omega) (fun hb19 => ?_) (fun hb19 => ?_)
        · skip
          refine xg_iinc 38 _ dX11_deepest_35 rfl rfl rfl rfl (by decide) (Or.inr rfl) ?_
          refine xg_goto 4 dX11_deepest_38 rfl ?_
          exact xg_weak _ (xle_s rfl (xle_s rfl (xle_s (v := J ((k + 1 : Nat) : Int)) (congrArg (fun x => some (J x)) (by omega)) xle_0))) (ih (k + 1) mo (by omega) ⟨by rw [sDeep, if_pos (by omega)]; exact hmo.1, by omega, by omega⟩ (by omega))
        · skip
          refine xg_iloadn 23 dX11_deepest_22 rfl rfl rfl ?_
          refine xg_aloadn 24 dX11_deepest_23 rfl rfl rfl ?_
          refine xg_getP 27 kf_RX11_23 dX11_deepest_24 rfl h1 h3 ?_
          refine xg_iloadn 28 dX11_deepest_27 rfl rfl rfl ?_
          refine xg_callV 31 8 [_] _ kv_X8_took ⟨_, _, rfl⟩ kl_RX11_281 dX11_deepest_28 rfl st9 (by omega) rfl rfl (Nat.le_of_ble_eq_true rfl) (by omega) ⟨Nat.le_refl _, Nat.le_refl _⟩ (ct_X8_took hS (by omega)) rfl ?_
          refine xg_mmax 34 kl_RX11_303 dX11_deepest_31 rfl (by omega) (Nat.le_of_ble_eq_true rfl) (by omega) ⟨Nat.le_refl _, Nat.le_refl _⟩ ?_
          refine xg_istoren 35 _ dX11_deepest_34 rfl rfl rfl (by decide) (Or.inr rfl) ?_
          refine xg_iinc 38 _ dX11_deepest_35 rfl rfl rfl rfl (by decide) (Or.inr rfl) ?_
          refine xg_goto 4 dX11_deepest_38 rfl ?_
          exact xg_weak _ (xle_s rfl (xle_s rfl (xle_s (v := J ((k + 1 : Nat) : Int)) (congrArg (fun x => some (J x)) (by omega)) xle_0))) (ih (k + 1) (max mo (sTook w (k : Int))) (by omega) ⟨by rw [sDeep, if_neg (by omega), ← hmo.1], by omega, by omega⟩ (by omega))
  exact xg_weak _ (xle_s rfl (xle_s rfl (xle_s rfl xle_0))) (loop4 100 0 0 (by omega) ⟨rfl, by omega, by omega⟩ (by omega))

theorem dX11_cheapest_0 : decode cX11_cheapest 0 = .ok (.aload_n 0, 1) := by decide +kernel
theorem dX11_cheapest_1 : decode cX11_cheapest 1 = .ok (.getfield 69, 3) := by decide +kernel
theorem dX11_cheapest_4 : decode cX11_cheapest 4 = .ok (.aload_n 0, 1) := by decide +kernel
theorem dX11_cheapest_5 : decode cX11_cheapest 5 = .ok (.getfield 23, 3) := by decide +kernel
theorem dX11_cheapest_8 : decode cX11_cheapest 8 = .ok (.iload_n 1, 1) := by decide +kernel
theorem dX11_cheapest_9 : decode cX11_cheapest 9 = .ok (.invokevirtual 299, 3) := by decide +kernel
theorem dX11_cheapest_12 : decode cX11_cheapest 12 = .ok (.ireturn, 1) := by decide +kernel
set_option maxHeartbeats 4000000 in
set_option maxRecDepth 100000 in
theorem ct_X11_cheapest {E : xE} {z : Nat} {T : Nat → Nat × Int} {F : Nat → Nat → Int} {I : Nat → Int → Int} {P : Nat → Nat → Option Nat} {Y : Nat → Int → Option Nat} {o a : Nat} {w : Int → Int} (h1 : (T o).1 = 12) (h3 : P o 3 = some a) (hS : SR T F I P Y a w) {c : Nat} (h12 : P o 12 = some c) (hC : wCho T P Y c) {b : Bool} : Ct E 2 mX11_cheapest 0 0 [.ref o, J (bI b)] (z, T, F, I, P, Y) (xCh c (some (J (sChp w b))) z T F I P Y) := by
  have hO := hS.1.1
  have o0 := hO.2.1
  have st9 : (T a).1 = 9 := by obtain ⟨g1, g2, ⟨π, g3⟩, g4⟩ := id hS; exact g3.1.1.1.1
  refine Ct.of [some (.ref o), some (J (bI b))] kt_X11_cheapest rfl (Nat.le_of_ble_eq_true rfl) rfl (fun d hd => ?_)
  generalize hX : xN E _ _ _ = X
  refine xg_aloadn 1 dX11_cheapest_0 rfl rfl rfl ?_
  refine xg_getP 4 kf_RX11_69 dX11_cheapest_1 rfl h1 h12 ?_
  refine xg_aloadn 5 dX11_cheapest_4 rfl rfl rfl ?_
  refine xg_getP 8 kf_RX11_23 dX11_cheapest_5 rfl h1 h3 ?_
  refine xg_iloadn 9 dX11_cheapest_8 rfl rfl rfl ?_
  refine xg_callVe 12 0 [_, _] _ kv_X0_cheapestMerge ⟨_, _, rfl⟩ kl_RX11_299 dX11_cheapest_9 rfl hC.1 (by omega) rfl rfl (Nat.le_of_ble_eq_true rfl) (by omega) ⟨Nat.le_refl _, Nat.le_refl _⟩ (ct_X0_cheapestMerge hC hS (b := b)) rfl (fun v9 h9 e9 => ?_)
  obtain ⟨rfl, I9, rfl, hC9⟩ := e9
  subst hX
  exact xg_ireturn dX11_cheapest_12 rfl ⟨Nat.le_refl _, Nat.le_refl _⟩ ⟨rfl, _, rfl, hC9⟩

theorem dX11_lead_0 : decode cX11_lead 0 = .ok (.aload_n 0, 1) := by decide +kernel
theorem dX11_lead_1 : decode cX11_lead 1 = .ok (.getfield 69, 3) := by decide +kernel
theorem dX11_lead_4 : decode cX11_lead 4 = .ok (.aload_n 0, 1) := by decide +kernel
theorem dX11_lead_5 : decode cX11_lead 5 = .ok (.getfield 23, 3) := by decide +kernel
theorem dX11_lead_8 : decode cX11_lead 8 = .ok (.invokevirtual 329, 3) := by decide +kernel
theorem dX11_lead_11 : decode cX11_lead 11 = .ok (.ireturn, 1) := by decide +kernel
set_option maxHeartbeats 4000000 in
set_option maxRecDepth 100000 in
theorem ct_X11_lead {E : xE} {z : Nat} {T : Nat → Nat × Int} {F : Nat → Nat → Int} {I : Nat → Int → Int} {P : Nat → Nat → Option Nat} {Y : Nat → Int → Option Nat} {o a : Nat} {w : Int → Int} (h1 : (T o).1 = 12) (h3 : P o 3 = some a) (hS : SR T F I P Y a w) {c : Nat} (h12 : P o 12 = some c) (hC : wCho T P Y c) : Ct E 2 mX11_lead 0 0 [.ref o] (z, T, F, I, P, Y) (xCh c (some (J (sAh w (wN w) 0))) z T F I P Y) := by
  have hO := hS.1.1
  have o0 := hO.2.1
  have st9 : (T a).1 = 9 := by obtain ⟨g1, g2, ⟨π, g3⟩, g4⟩ := id hS; exact g3.1.1.1.1
  refine Ct.of [some (.ref o)] kt_X11_lead rfl (Nat.le_of_ble_eq_true rfl) rfl (fun d hd => ?_)
  generalize hX : xN E _ _ _ = X
  refine xg_aloadn 1 dX11_lead_0 rfl rfl rfl ?_
  refine xg_getP 4 kf_RX11_69 dX11_lead_1 rfl h1 h12 ?_
  refine xg_aloadn 5 dX11_lead_4 rfl rfl rfl ?_
  refine xg_getP 8 kf_RX11_23 dX11_lead_5 rfl h1 h3 ?_
  refine xg_callVe 11 0 [_] _ kv_X0_leadOfTurns ⟨_, _, rfl⟩ kl_RX11_329 dX11_lead_8 rfl hC.1 (by omega) rfl rfl (Nat.le_of_ble_eq_true rfl) (by omega) ⟨Nat.le_refl _, Nat.le_refl _⟩ (ct_X0_leadOfTurns hC hS) rfl (fun v9 h9 e9 => ?_)
  obtain ⟨rfl, I9, rfl, hC9, hC8⟩ := e9
  subst hX
  exact xg_ireturn dX11_lead_11 rfl ⟨Nat.le_refl _, Nat.le_refl _⟩ ⟨rfl, _, rfl, hC9⟩

theorem dX11_side_0 : decode cX11_side 0 = .ok (.aload_n 0, 1) := by decide +kernel
theorem dX11_side_1 : decode cX11_side 1 = .ok (.getfield 69, 3) := by decide +kernel
theorem dX11_side_4 : decode cX11_side 4 = .ok (.aload_n 0, 1) := by decide +kernel
theorem dX11_side_5 : decode cX11_side 5 = .ok (.getfield 23, 3) := by decide +kernel
theorem dX11_side_8 : decode cX11_side 8 = .ok (.invokevirtual 333, 3) := by decide +kernel
theorem dX11_side_11 : decode cX11_side 11 = .ok (.ireturn, 1) := by decide +kernel
set_option maxHeartbeats 4000000 in
set_option maxRecDepth 100000 in
theorem ct_X11_side {E : xE} {z : Nat} {T : Nat → Nat × Int} {F : Nat → Nat → Int} {I : Nat → Int → Int} {P : Nat → Nat → Option Nat} {Y : Nat → Int → Option Nat} {o a : Nat} {w : Int → Int} (h1 : (T o).1 = 12) (h3 : P o 3 = some a) (hS : SR T F I P Y a w) {c : Nat} (h12 : P o 12 = some c) (hC : wCho T P Y c) : Ct E 3 mX11_side 0 0 [.ref o] (z, T, F, I, P, Y) (xCh c (some (J (sSide w))) z T F I P Y) := by
  have hO := hS.1.1
  have o0 := hO.2.1
  have st9 : (T a).1 = 9 := by obtain ⟨g1, g2, ⟨π, g3⟩, g4⟩ := id hS; exact g3.1.1.1.1
  refine Ct.of [some (.ref o)] kt_X11_side rfl (Nat.le_of_ble_eq_true rfl) rfl (fun d hd => ?_)
  generalize hX : xN E _ _ _ = X
  refine xg_aloadn 1 dX11_side_0 rfl rfl rfl ?_
  refine xg_getP 4 kf_RX11_69 dX11_side_1 rfl h1 h12 ?_
  refine xg_aloadn 5 dX11_side_4 rfl rfl rfl ?_
  refine xg_getP 8 kf_RX11_23 dX11_side_5 rfl h1 h3 ?_
  refine xg_callVe 11 0 [_] _ kv_X0_sideOfTurns ⟨_, _, rfl⟩ kl_RX11_333 dX11_side_8 rfl hC.1 (by omega) rfl rfl (Nat.le_of_ble_eq_true rfl) (by omega) ⟨Nat.le_refl _, Nat.le_refl _⟩ (ct_X0_sideOfTurns hC hS) rfl (fun v9 h9 e9 => ?_)
  obtain ⟨rfl, I9, rfl, hC9⟩ := e9
  subst hX
  exact xg_ireturn dX11_side_11 rfl ⟨Nat.le_refl _, Nat.le_refl _⟩ ⟨rfl, _, rfl, hC9⟩

theorem dX11_rests_0 : decode cX11_rests 0 = .ok (.aload_n 0, 1) := by decide +kernel
theorem dX11_rests_1 : decode cX11_rests 1 = .ok (.getfield 69, 3) := by decide +kernel
theorem dX11_rests_4 : decode cX11_rests 4 = .ok (.aload_n 0, 1) := by decide +kernel
theorem dX11_rests_5 : decode cX11_rests 5 = .ok (.getfield 23, 3) := by decide +kernel
theorem dX11_rests_8 : decode cX11_rests 8 = .ok (.invokevirtual 340, 3) := by decide +kernel
theorem dX11_rests_11 : decode cX11_rests 11 = .ok (.ireturn, 1) := by decide +kernel
set_option maxHeartbeats 4000000 in
set_option maxRecDepth 100000 in
theorem ct_X11_rests {E : xE} {z : Nat} {T : Nat → Nat × Int} {F : Nat → Nat → Int} {I : Nat → Int → Int} {P : Nat → Nat → Option Nat} {Y : Nat → Int → Option Nat} {o a : Nat} {w : Int → Int} (h1 : (T o).1 = 12) (h3 : P o 3 = some a) (hS : SR T F I P Y a w) {c : Nat} (h12 : P o 12 = some c) (hC : wCho T P Y c) (hr : wRn w) : Ct E 2 mX11_rests 0 0 [.ref o] (z, T, F, I, P, Y) (xCh c (some (J (nSet (sRst w) 4 : Nat))) z T F I P Y) := by
  have hO := hS.1.1
  have o0 := hO.2.1
  have st9 : (T a).1 = 9 := by obtain ⟨g1, g2, ⟨π, g3⟩, g4⟩ := id hS; exact g3.1.1.1.1
  refine Ct.of [some (.ref o)] kt_X11_rests rfl (Nat.le_of_ble_eq_true rfl) rfl (fun d hd => ?_)
  generalize hX : xN E _ _ _ = X
  refine xg_aloadn 1 dX11_rests_0 rfl rfl rfl ?_
  refine xg_getP 4 kf_RX11_69 dX11_rests_1 rfl h1 h12 ?_
  refine xg_aloadn 5 dX11_rests_4 rfl rfl rfl ?_
  refine xg_getP 8 kf_RX11_23 dX11_rests_5 rfl h1 h3 ?_
  refine xg_callVe 11 0 [_] _ kv_X0_restingPairs ⟨_, _, rfl⟩ kl_RX11_340 dX11_rests_8 rfl hC.1 (by omega) rfl rfl (Nat.le_of_ble_eq_true rfl) (by omega) ⟨Nat.le_refl _, Nat.le_refl _⟩ (ct_X0_restingPairs hC hS hr) rfl (fun v9 h9 e9 => ?_)
  obtain ⟨rfl, I9, rfl, hC9⟩ := e9
  subst hX
  exact xg_ireturn dX11_rests_11 rfl ⟨Nat.le_refl _, Nat.le_refl _⟩ ⟨rfl, _, rfl, hC9⟩

