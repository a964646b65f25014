theorem pSum_cg2 {f g : Int → Int} (h : f = g) (n : Nat) : pSum f n = pSum g n := by rw [h]
theorem dX11_led_0 : decode cX11_led 0 = .ok (.iload_n 1, 1) := by decide +kernel
theorem dX11_led_1 : decode cX11_led 1 = .ok (.ifCond .lt 8, 3) := by decide +kernel
theorem dX11_led_4 : decode cX11_led 4 = .ok (.iload_n 1, 1) := by decide +kernel
theorem dX11_led_5 : decode cX11_led 5 = .ok (.iconst 3, 1) := by decide +kernel
theorem dX11_led_6 : decode cX11_led 6 = .ok (.if_icmp .le 11, 3) := by decide +kernel
theorem dX11_led_9 : decode cX11_led 9 = .ok (.new 155, 3) := by decide +kernel
theorem dX11_led_12 : decode cX11_led 12 = .ok (.dup, 1) := by decide +kernel
theorem dX11_led_13 : decode cX11_led 13 = .ok (.invokespecial 157, 3) := by decide +kernel
theorem dX11_led_16 : decode cX11_led 16 = .ok (.athrow, 1) := by decide +kernel
theorem dX11_led_17 : decode cX11_led 17 = .ok (.iload_n 2, 1) := by decide +kernel
theorem dX11_led_18 : decode cX11_led 18 = .ok (.ifCond .eq 17, 3) := by decide +kernel
theorem dX11_led_21 : decode cX11_led 21 = .ok (.aload_n 0, 1) := by decide +kernel
theorem dX11_led_22 : decode cX11_led 22 = .ok (.getfield 23, 3) := by decide +kernel
theorem dX11_led_25 : decode cX11_led 25 = .ok (.getfield 366, 3) := by decide +kernel
theorem dX11_led_28 : decode cX11_led 28 = .ok (.iload_n 1, 1) := by decide +kernel
theorem dX11_led_29 : decode cX11_led 29 = .ok (.invokevirtual 370, 3) := by decide +kernel
theorem dX11_led_32 : decode cX11_led 32 = .ok (.goto 14, 3) := by decide +kernel
theorem dX11_led_35 : decode cX11_led 35 = .ok (.aload_n 0, 1) := by decide +kernel
theorem dX11_led_36 : decode cX11_led 36 = .ok (.getfield 23, 3) := by decide +kernel
theorem dX11_led_39 : decode cX11_led 39 = .ok (.getfield 366, 3) := by decide +kernel
theorem dX11_led_42 : decode cX11_led 42 = .ok (.iload_n 1, 1) := by decide +kernel
theorem dX11_led_43 : decode cX11_led 43 = .ok (.invokevirtual 375, 3) := by decide +kernel
theorem dX11_led_46 : decode cX11_led 46 = .ok (.ireturn, 1) := by decide +kernel
set_option maxHeartbeats 4000000 in
set_option maxRecDepth 100000 in
theorem ct_X11_led {E : xE} {z : Nat} {T : Nat → Nat × Int} {F : Nat → Nat → Int} {I : Nat → Int → Int} {P : Nat → Nat → Option Nat} {Y : Nat → Int → Option Nat} {o a : Nat} {w : Int → Int} (h1 : (T o).1 = 12) (h3 : P o 3 = some a) (hS : SR T F I P Y a w) (hj2 : ∀ j : Int, -2147483648 ≤ I (a + 51 + 2) j ∧ I (a + 51 + 2) j < 2147483648) {v : Int} {b : Bool} (hb : 0 ≤ v ∧ v ≤ 3) : Ct E 2 mX11_led 0 0 [.ref o, J v, J (bI b)] (z, T, F, I, P, Y) (xd (some (J (if b = true then (sLed w v (w 14).toNat (w 14).toNat).2 else (sLed w v (w 14).toNat (w 14).toNat).1))) (z, T, F, I, P, Y)) := by
  have hO := hS.1.1
  have o0 := hO.2.1
  obtain ⟨hGd, hLw, ⟨π, ⟨hSt, hPm⟩, ⟨hSc, hTl, hJb⟩, hRun, hTab, hOut, hJo⟩, hLv, hLf⟩ := id hS
  obtain ⟨⟨st9, s0, s01, s02⟩, hRows, ⟨s4, s44⟩, ⟨s5, l9, ⟨l0, l1, l2, l3⟩, ⟨l01, l02⟩, ⟨l11, l12⟩, ⟨l21, l22⟩, l31, l32⟩, ⟨s6, s50⟩, ⟨s7, hJou⟩, -⟩ := id hSt
  have p5 : ∀ j : Nat, j < 14 → π j < 14 := hPm.2.2.2.1
  have hw0 : F a 1 = w 0 := hSc.1
  have hj4 := hJo.2.1
  have hj5 : F (a + 51) 5 = w 14 := hJo.1
  have o14 := hO.2.2.2.2.2.2.2.2.2.2.1
  have hn14 : ((w 14).toNat : Int) = w 14 := by omega
  refine Ct.of [some (.ref o), some (J v), some (J (bI b))] kt_X11_led rfl (Nat.le_of_ble_eq_true rfl) rfl (fun d hd => ?_)
  generalize hX : xN E _ _ _ = X
  refine xg_iloadn 1 dX11_led_0 rfl rfl rfl ?_
  refine xg_iflt 9 4 dX11_led_1 rfl rfl (by omega) (fun hb1 => ?_) (fun hb1 => ?_)
  · exfalso; omega
  · skip
    refine xg_iloadn 5 dX11_led_4 rfl rfl rfl ?_
    refine xg_iconst 6 dX11_led_5 rfl ?_
    refine xg_icle 17 9 dX11_led_6 rfl rfl (by omega) (fun hb6 => ?_) (fun hb6 => ?_)
    · skip
      refine xg_iloadn 18 dX11_led_17 rfl rfl rfl ?_
      refine xg_beq 35 21 dX11_led_18 rfl rfl (fun hb18 => ?_) (fun hb18 => ?_)
      · skip
        refine xg_aloadn 36 dX11_led_35 rfl rfl rfl ?_
        refine xg_getP 39 kf_RX11_23 dX11_led_36 rfl h1 h3 ?_
        refine xg_getP 42 kf_RX11_366 dX11_led_39 rfl st9 s7 ?_
        refine xg_iloadn 43 dX11_led_42 rfl rfl rfl ?_
        refine xg_callV 46 2 [_] _ kv_X2_rowsOf ⟨_, _, rfl⟩ kl_RX11_375 dX11_led_43 rfl hJou.1 (by omega) rfl rfl (Nat.le_of_ble_eq_true rfl) (by omega) ⟨Nat.le_refl _, Nat.le_refl _⟩ (ct_X2_rowsOf hJou (by omega) (by omega) hj2 (by omega)) rfl ?_
        subst hX
        exact xg_ireturn dX11_led_46 rfl ⟨Nat.le_refl _, Nat.le_refl _⟩ ⟨by rw [if_neg (by simp_all), led_1 hJo (x := v) hn14 _ (Nat.le_refl _), Nat.sub_self, pSum_0, Int.sub_zero, hj5]; rfl, rfl⟩
      · skip
        refine xg_aloadn 22 dX11_led_21 rfl rfl rfl ?_
        refine xg_getP 25 kf_RX11_23 dX11_led_22 rfl h1 h3 ?_
        refine xg_getP 28 kf_RX11_366 dX11_led_25 rfl st9 s7 ?_
        refine xg_iloadn 29 dX11_led_28 rfl rfl rfl ?_
        refine xg_callV 32 2 [_] _ kv_X2_latestTick ⟨_, _, rfl⟩ kl_RX11_370 dX11_led_29 rfl hJou.1 (by omega) rfl rfl (Nat.le_of_ble_eq_true rfl) (by omega) ⟨Nat.le_refl _, Nat.le_refl _⟩ (ct_X2_latestTick hJou (by omega) (by omega) hj2 (by omega)) rfl ?_
        refine xg_goto 46 dX11_led_32 rfl ?_
        subst hX
        exact xg_ireturn dX11_led_46 rfl ⟨Nat.le_refl _, Nat.le_refl _⟩ ⟨by rw [if_pos (by assumption), led_2 hJo (x := v) hn14 _ (Nat.le_refl _), Nat.sub_self, hj5]; rfl, rfl⟩
    · exfalso; omega

theorem dX11_odds_0 : decode cX11_odds 0 = .ok (.iload_n 1, 1) := by decide +kernel
theorem dX11_odds_1 : decode cX11_odds 1 = .ok (.ifCond .lt 8, 3) := by decide +kernel
theorem dX11_odds_4 : decode cX11_odds 4 = .ok (.iload_n 1, 1) := by decide +kernel
theorem dX11_odds_5 : decode cX11_odds 5 = .ok (.iconst 5, 1) := by decide +kernel
theorem dX11_odds_6 : decode cX11_odds 6 = .ok (.if_icmp .le 11, 3) := by decide +kernel
theorem dX11_odds_9 : decode cX11_odds 9 = .ok (.new 92, 3) := by decide +kernel
theorem dX11_odds_12 : decode cX11_odds 12 = .ok (.dup, 1) := by decide +kernel
theorem dX11_odds_13 : decode cX11_odds 13 = .ok (.invokespecial 94, 3) := by decide +kernel
theorem dX11_odds_16 : decode cX11_odds 16 = .ok (.athrow, 1) := by decide +kernel
theorem dX11_odds_17 : decode cX11_odds 17 = .ok (.lconst 1, 1) := by decide +kernel
theorem dX11_odds_18 : decode cX11_odds 18 = .ok (.lstore_n 2, 1) := by decide +kernel
theorem dX11_odds_19 : decode cX11_odds 19 = .ok (.lconst 1, 1) := by decide +kernel
theorem dX11_odds_20 : decode cX11_odds 20 = .ok (.lstore 4, 2) := by decide +kernel
theorem dX11_odds_22 : decode cX11_odds 22 = .ok (.bipush 60, 2) := by decide +kernel
theorem dX11_odds_24 : decode cX11_odds 24 = .ok (.aload_n 0, 1) := by decide +kernel
theorem dX11_odds_25 : decode cX11_odds 25 = .ok (.getfield 23, 3) := by decide +kernel
theorem dX11_odds_28 : decode cX11_odds 28 = .ok (.invokevirtual 284, 3) := by decide +kernel
theorem dX11_odds_31 : decode cX11_odds 31 = .ok (.isub, 1) := by decide +kernel
theorem dX11_odds_32 : decode cX11_odds 32 = .ok (.istore 6, 2) := by decide +kernel
theorem dX11_odds_34 : decode cX11_odds 34 = .ok (.iconst 0, 1) := by decide +kernel
theorem dX11_odds_35 : decode cX11_odds 35 = .ok (.istore 7, 2) := by decide +kernel
theorem dX11_odds_37 : decode cX11_odds 37 = .ok (.iload 7, 2) := by decide +kernel
theorem dX11_odds_39 : decode cX11_odds 39 = .ok (.iload_n 1, 1) := by decide +kernel
theorem dX11_odds_40 : decode cX11_odds 40 = .ok (.if_icmp .ge 23, 3) := by decide +kernel
theorem dX11_odds_43 : decode cX11_odds 43 = .ok (.lload_n 2, 1) := by decide +kernel
theorem dX11_odds_44 : decode cX11_odds 44 = .ok (.ldc2_w 343, 3) := by decide +kernel
theorem dX11_odds_47 : decode cX11_odds 47 = .ok (.lmul, 1) := by decide +kernel
theorem dX11_odds_48 : decode cX11_odds 48 = .ok (.lstore_n 2, 1) := by decide +kernel
theorem dX11_odds_49 : decode cX11_odds 49 = .ok (.lload 4, 2) := by decide +kernel
theorem dX11_odds_51 : decode cX11_odds 51 = .ok (.iload 6, 2) := by decide +kernel
theorem dX11_odds_53 : decode cX11_odds 53 = .ok (.i2l, 1) := by decide +kernel
theorem dX11_odds_54 : decode cX11_odds 54 = .ok (.lmul, 1) := by decide +kernel
theorem dX11_odds_55 : decode cX11_odds 55 = .ok (.lstore 4, 2) := by decide +kernel
theorem dX11_odds_57 : decode cX11_odds 57 = .ok (.iinc 7 1, 3) := by decide +kernel
theorem dX11_odds_60 : decode cX11_odds 60 = .ok (.goto (-23), 3) := by decide +kernel
theorem dX11_odds_63 : decode cX11_odds 63 = .ok (.ldc2_w 345, 3) := by decide +kernel
theorem dX11_odds_66 : decode cX11_odds 66 = .ok (.lload_n 2, 1) := by decide +kernel
theorem dX11_odds_67 : decode cX11_odds 67 = .ok (.lload 4, 2) := by decide +kernel
theorem dX11_odds_69 : decode cX11_odds 69 = .ok (.lsub, 1) := by decide +kernel
theorem dX11_odds_70 : decode cX11_odds 70 = .ok (.lmul, 1) := by decide +kernel
theorem dX11_odds_71 : decode cX11_odds 71 = .ok (.lload_n 2, 1) := by decide +kernel
theorem dX11_odds_72 : decode cX11_odds 72 = .ok (.ldiv, 1) := by decide +kernel
theorem dX11_odds_73 : decode cX11_odds 73 = .ok (.l2i, 1) := by decide +kernel
theorem dX11_odds_74 : decode cX11_odds 74 = .ok (.ireturn, 1) := by decide +kernel
set_option maxHeartbeats 4000000 in
set_option maxRecDepth 100000 in
theorem ct_X11_odds {E : xE} {z : Nat} {T : Nat → Nat × Int} {F : Nat → Nat → Int} {I : Nat → Int → Int} {P : Nat → Nat → Option Nat} {Y : Nat → Int → Option Nat} {o a : Nat} {w : Int → Int} (h1 : (T o).1 = 12) (h3 : P o 3 = some a) (hS : SR T F I P Y a w) {n : Nat} (hn : n ≤ 5) : Ct E 3 mX11_odds 0 0 [.ref o, J (n : Int)] (z, T, F, I, P, Y) (xd (some (J (sOdds w n))) (z, T, F, I, P, Y)) := by
  have hO := hS.1.1
  have o0 := hO.2.1
  obtain ⟨hGd, hLw, ⟨π, ⟨hSt, hPm⟩, ⟨hSc, hTl, hJb⟩, hRun, hTab, hOut, hJo⟩, hLv, hLf⟩ := id hS
  obtain ⟨⟨st9, s0, s01, s02⟩, hRows, ⟨s4, s44⟩, ⟨s5, l9, ⟨l0, l1, l2, l3⟩, ⟨l01, l02⟩, ⟨l11, l12⟩, ⟨l21, l22⟩, l31, l32⟩, ⟨s6, s50⟩, ⟨s7, hJou⟩, -⟩ := id hSt
  have p5 : ∀ j : Nat, j < 14 → π j < 14 := hPm.2.2.2.1
  have hw0 : F a 1 = w 0 := hSc.1
  have hfn := sFndN_bd w
  have p60 := sPw60 n hn
  have pw := sPw_bd (x := 60 - sFndN w) (by omega) n hn
  refine Ct.of [some (.ref o), some (J (n : Int)), none, none, none, none, none, none] kt_X11_odds rfl (Nat.le_of_ble_eq_true rfl) rfl (fun d hd => ?_)
  generalize hX : xN E _ _ _ = X
  refine xg_iloadn 1 dX11_odds_0 rfl rfl rfl ?_
  refine xg_iflt 9 4 dX11_odds_1 rfl rfl (by omega) (fun hb1 => ?_) (fun hb1 => ?_)
  · exfalso; omega
  · skip
    refine xg_iloadn 5 dX11_odds_4 rfl rfl rfl ?_
    refine xg_iconst 6 dX11_odds_5 rfl ?_
    refine xg_icle 17 9 dX11_odds_6 rfl rfl (by omega) (fun hb6 => ?_) (fun hb6 => ?_)
    · skip
      refine xg_lconst 18 1 dX11_odds_17 rfl rfl ?_
      refine xg_lstoren 19 _ dX11_odds_18 rfl rfl rfl (by decide) (Or.inr rfl) ?_
      refine xg_lconst 20 1 dX11_odds_19 rfl rfl ?_
      refine xg_lstore 22 _ dX11_odds_20 rfl rfl (by decide) (Or.inr rfl) ?_
      refine xg_bipush 24 dX11_odds_22 rfl (by decide) ?_
      refine xg_aloadn 25 dX11_odds_24 rfl rfl rfl ?_
      refine xg_getP 28 kf_RX11_23 dX11_odds_25 rfl h1 h3 ?_
      refine xg_callV 31 8 [] _ kv_X8_foundKeys ⟨_, _, rfl⟩ kl_RX11_284 dX11_odds_28 rfl st9 (by omega) rfl rfl (Nat.le_of_ble_eq_true rfl) (by omega) ⟨Nat.le_refl _, Nat.le_refl _⟩ (ct_X8_foundKeys hS) rfl ?_
      refine xg_isub 32 dX11_odds_31 rfl ?_
      refine xg_istore 34 _ dX11_odds_32 rfl rfl (by decide) (Or.inr rfl) ?_
      refine xg_iconst 35 dX11_odds_34 rfl ?_
      refine xg_istore 37 _ dX11_odds_35 rfl rfl (by decide) (Or.inr rfl) ?_
      have loop37 : ∀ (mm : Nat) (k : Nat), k ≤ n → (n : Int) - k < (mm : Int) → xG E mX11_odds (xR d 0 0) X 37 [some (.ref o), some (J (n : Int)), some (JL (sPw 60 k)), none, some (JL (sPw (60 - sFndN w) k)), none, some (J (60 - sFndN w)), some (J (k : Int))] [] (z, T, F, I, P, Y) 0 0 := by
        intro mm
        induction mm with
        | zero => intro k hk hm; exfalso; omega
        | succ mm ih =>
          intro k hk hm
          refine xg_iload 39 dX11_odds_37 rfl rfl ?_
          refine xg_iloadn 40 dX11_odds_39 rfl rfl rfl ?_
          refine xg_icge 63 43 dX11_odds_40 rfl rfl (by omega) (fun hb40 => ?_) (fun hb40 => ?_)
          · skip
            rw [show k = n by omega]
            refine xg_ldc2 (z := 10000) 66 kkL_RX11_345 dX11_odds_63 rfl rfl ?_
            refine xg_lloadn 67 dX11_odds_66 rfl rfl rfl ?_
            refine xg_lload 69 dX11_odds_67 rfl rfl ?_
            refine xg_lsub 70 dX11_odds_69 rfl ?_
            refine xg_lmul 71 dX11_odds_70 rfl ?_
            refine xg_lloadn 72 dX11_odds_71 rfl rfl rfl ?_
            refine xg_ldiv 73 dX11_odds_72 rfl (by omega) ?_
            refine xg_l2i 74 dX11_odds_73 rfl ?_
            subst hX
            exact xg_ireturn dX11_odds_74 rfl ⟨Nat.le_refl _, Nat.le_refl _⟩ ⟨rfl, rfl⟩
          · skip
            refine xg_lloadn 44 dX11_odds_43 rfl rfl rfl ?_
            refine xg_ldc2 (z := 60) 47 kkL_RX11_343 dX11_odds_44 rfl rfl ?_
            refine xg_lmul 48 dX11_odds_47 rfl ?_
            refine xg_lstoren 49 _ dX11_odds_48 rfl rfl rfl (by decide) (Or.inr rfl) ?_
            refine xg_lload 51 dX11_odds_49 rfl rfl ?_
            refine xg_iload 53 dX11_odds_51 rfl rfl ?_
            refine xg_i2l 54 dX11_odds_53 rfl (by omega) ?_
            refine xg_lmul 55 dX11_odds_54 rfl ?_
            refine xg_lstore 57 _ dX11_odds_55 rfl rfl (by decide) (Or.inr rfl) ?_
            refine xg_iinc 60 _ dX11_odds_57 rfl rfl rfl rfl (by decide) (Or.inr rfl) ?_
            refine xg_goto 37 dX11_odds_60 rfl ?_
            exact xg_weak _ (xle_s rfl (xle_s rfl (xle_s rfl (xle_n (xle_s rfl (xle_n (xle_s rfl (xle_s rfl xle_0)))))))) (ih (k + 1) (by omega) (by omega))
      exact xg_weak _ (xle_s rfl (xle_s rfl (xle_s rfl (xle_n (xle_s rfl (xle_n (xle_s rfl (xle_s rfl xle_0)))))))) (loop37 10 0 (by omega) (by omega))
    · exfalso; omega

theorem dX11_over_0 : decode cX11_over 0 = .ok (.iload_n 1, 1) := by decide +kernel
theorem dX11_over_1 : decode cX11_over 1 = .ok (.ifCond .eq 27, 3) := by decide +kernel
theorem dX11_over_4 : decode cX11_over 4 = .ok (.aload_n 0, 1) := by decide +kernel
theorem dX11_over_5 : decode cX11_over 5 = .ok (.getfield 23, 3) := by decide +kernel
theorem dX11_over_8 : decode cX11_over 8 = .ok (.getfield 287, 3) := by decide +kernel
theorem dX11_over_11 : decode cX11_over 11 = .ok (.getfield 291, 3) := by decide +kernel
theorem dX11_over_14 : decode cX11_over 14 = .ok (.aload_n 0, 1) := by decide +kernel
theorem dX11_over_15 : decode cX11_over 15 = .ok (.getfield 23, 3) := by decide +kernel
theorem dX11_over_18 : decode cX11_over 18 = .ok (.getfield 287, 3) := by decide +kernel
theorem dX11_over_21 : decode cX11_over 21 = .ok (.getfield 296, 3) := by decide +kernel
theorem dX11_over_24 : decode cX11_over 24 = .ok (.invokestatic 151, 3) := by decide +kernel
theorem dX11_over_27 : decode cX11_over 27 = .ok (.ireturn, 1) := by decide +kernel
theorem dX11_over_28 : decode cX11_over 28 = .ok (.aload_n 0, 1) := by decide +kernel
theorem dX11_over_29 : decode cX11_over 29 = .ok (.getfield 23, 3) := by decide +kernel
theorem dX11_over_32 : decode cX11_over 32 = .ok (.getfield 243, 3) := by decide +kernel
theorem dX11_over_35 : decode cX11_over 35 = .ok (.getfield 137, 3) := by decide +kernel
theorem dX11_over_38 : decode cX11_over 38 = .ok (.aload_n 0, 1) := by decide +kernel
theorem dX11_over_39 : decode cX11_over 39 = .ok (.getfield 23, 3) := by decide +kernel
theorem dX11_over_42 : decode cX11_over 42 = .ok (.invokevirtual 148, 3) := by decide +kernel
theorem dX11_over_45 : decode cX11_over 45 = .ok (.iadd, 1) := by decide +kernel
theorem dX11_over_46 : decode cX11_over 46 = .ok (.aload_n 0, 1) := by decide +kernel
theorem dX11_over_47 : decode cX11_over 47 = .ok (.getfield 23, 3) := by decide +kernel
theorem dX11_over_50 : decode cX11_over 50 = .ok (.invokevirtual 284, 3) := by decide +kernel
theorem dX11_over_53 : decode cX11_over 53 = .ok (.invokestatic 151, 3) := by decide +kernel
theorem dX11_over_56 : decode cX11_over 56 = .ok (.ireturn, 1) := by decide +kernel
set_option maxHeartbeats 4000000 in
set_option maxRecDepth 100000 in
theorem ct_X11_over {E : xE} {z : Nat} {T : Nat → Nat × Int} {F : Nat → Nat → Int} {I : Nat → Int → Int} {P : Nat → Nat → Option Nat} {Y : Nat → Int → Option Nat} {o a : Nat} {w : Int → Int} (h1 : (T o).1 = 12) (h3 : P o 3 = some a) (hS : SR T F I P Y a w) (hr9 : wRn w) {b : Bool} : Ct E 3 mX11_over 0 0 [.ref o, J (bI b)] (z, T, F, I, P, Y) (xd (some (J (sOver w b))) (z, T, F, I, P, Y)) := by
  have hO := hS.1.1
  have o0 := hO.2.1
  obtain ⟨hGd, hLw, ⟨π, ⟨hSt, hPm⟩, ⟨hSc, hTl, hJb⟩, hRun, hTab, hOut, hJo⟩, hLv, hLf⟩ := id hS
  obtain ⟨⟨st9, s0, s01, s02⟩, hRows, ⟨s4, s44⟩, ⟨s5, l9, ⟨l0, l1, l2, l3⟩, ⟨l01, l02⟩, ⟨l11, l12⟩, ⟨l21, l22⟩, l31, l32⟩, ⟨s6, s50⟩, ⟨s7, hJou⟩, -⟩ := id hSt
  have p5 : ∀ j : Nat, j < 14 → π j < 14 := hPm.2.2.2.1
  have hw0 : F a 1 = w 0 := hSc.1
  have o9 := hO.2.2.2.2.2.2.2.2.1 9 (by omega) (by omega)
  have o8 := hO.2.2.2.2.2.2.2.2.1 8 (by omega) (by omega)
  have hfn := sFndN_bd w
  have hae := sAllE_bd (w := w) o0.2
  have het := sEnt_bd w 19
  refine Ct.of [some (.ref o), some (J (bI b))] kt_X11_over rfl (Nat.le_of_ble_eq_true rfl) rfl (fun d hd => ?_)
  generalize hX : xN E _ _ _ = X
  refine xg_iloadn 1 dX11_over_0 rfl rfl rfl ?_
  refine xg_beq 28 4 dX11_over_1 rfl rfl (fun hb1 => ?_) (fun hb1 => ?_)
  · skip
    refine xg_aloadn 29 dX11_over_28 rfl rfl rfl ?_
    refine xg_getP 32 kf_RX11_23 dX11_over_29 rfl h1 h3 ?_
    refine xg_getP 35 kf_RX11_243 dX11_over_32 rfl st9 hPm.2.1 ?_
    refine xg_getI 38 kf_RX11_137 dX11_over_35 rfl (hRows _ (p5 12 (by omega))).1 ?_
    refine xg_aloadn 39 dX11_over_38 rfl rfl rfl ?_
    refine xg_getP 42 kf_RX11_23 dX11_over_39 rfl h1 h3 ?_
    refine xg_callV 45 8 [] _ kv_X8_entriesOfRuns ⟨_, _, rfl⟩ kl_RX11_148 dX11_over_42 rfl st9 (by omega) rfl rfl (Nat.le_of_ble_eq_true rfl) (by omega) ⟨Nat.le_refl _, Nat.le_refl _⟩ (ct_X8_entriesOfRuns hS) rfl ?_
    rw [sAllE_eq hr9 o0, show F (a + 2 + 3 * π 12) 2 = sEnt w 19 from hTab.2.2.1]
    refine xg_iadd 46 dX11_over_45 rfl ?_
    refine xg_aloadn 47 dX11_over_46 rfl rfl rfl ?_
    refine xg_getP 50 kf_RX11_23 dX11_over_47 rfl h1 h3 ?_
    refine xg_callV 53 8 [] _ kv_X8_foundKeys ⟨_, _, rfl⟩ kl_RX11_284 dX11_over_50 rfl st9 (by omega) rfl rfl (Nat.le_of_ble_eq_true rfl) (by omega) ⟨Nat.le_refl _, Nat.le_refl _⟩ (ct_X8_foundKeys hS) rfl ?_
    refine xg_callS 56 [_, _] _ ks_X11_ratio kl_RX11_151 dX11_over_53 rfl rfl rfl (Nat.le_of_ble_eq_true rfl) (by omega) ⟨Nat.le_refl _, Nat.le_refl _⟩ (ct_X11_ratio (by omega) (by omega)) rfl ?_
    subst hX
    exact xg_ireturn dX11_over_56 rfl ⟨Nat.le_refl _, Nat.le_refl _⟩ ⟨by rw [sOver_f, show b = false from by simp_all], rfl⟩
  · skip
    refine xg_aloadn 5 dX11_over_4 rfl rfl rfl ?_
    refine xg_getP 8 kf_RX11_23 dX11_over_5 rfl h1 h3 ?_
    refine xg_getP 11 kf_RX11_287 dX11_over_8 rfl st9 s6 ?_
    refine xg_getI 14 kf_RX11_291 dX11_over_11 rfl s50 ?_
    refine xg_aloadn 15 dX11_over_14 rfl rfl rfl ?_
    refine xg_getP 18 kf_RX11_23 dX11_over_15 rfl h1 h3 ?_
    refine xg_getP 21 kf_RX11_287 dX11_over_18 rfl st9 s6 ?_
    refine xg_getI 24 kf_RX11_296 dX11_over_21 rfl s50 ?_
    rw [hTl.2.1, hTl.2.2.1]
    refine xg_callS 27 [_, _] _ ks_X11_ratio kl_RX11_151 dX11_over_24 rfl rfl rfl (Nat.le_of_ble_eq_true rfl) (by omega) ⟨Nat.le_refl _, Nat.le_refl _⟩ (ct_X11_ratio (by omega) (by omega)) rfl ?_
    subst hX
    exact xg_ireturn dX11_over_27 rfl ⟨Nat.le_refl _, Nat.le_refl _⟩ ⟨by rw [sOver_t o9.1, show b = true from by assumption], rfl⟩

theorem dX11_fault_0 : decode cX11_fault 0 = .ok (.aload_n 0, 1) := by decide +kernel
theorem dX11_fault_1 : decode cX11_fault 1 = .ok (.getfield 17, 3) := by decide +kernel
theorem dX11_fault_4 : decode cX11_fault 4 = .ok (.ireturn, 1) := by decide +kernel
set_option maxHeartbeats 4000000 in
set_option maxRecDepth 100000 in
theorem ct_X11_fault {E : xE} {z : Nat} {T : Nat → Nat × Int} {F : Nat → Nat → Int} {I : Nat → Int → Int} {P : Nat → Nat → Option Nat} {Y : Nat → Int → Option Nat} {o a : Nat} {w : Int → Int} (h1 : (T o).1 = 12) (h3 : P o 3 = some a) (hS : SR T F I P Y a w) : Ct E 0 mX11_fault 0 0 [.ref o] (z, T, F, I, P, Y) (xd (some (J (F o 2))) (z, T, F, I, P, Y)) := by
  skip
  refine Ct.of [some (.ref o)] kt_X11_fault rfl (Nat.le_of_ble_eq_true rfl) rfl (fun d hd => ?_)
  generalize hX : xN E _ _ _ = X
  refine xg_aloadn 1 dX11_fault_0 rfl rfl rfl ?_
  refine xg_getI 4 kf_RX11_17 dX11_fault_1 rfl h1 ?_
  subst hX
  exact xg_ireturn dX11_fault_4 rfl ⟨Nat.le_refl _, Nat.le_refl _⟩ ⟨rfl, rfl⟩

theorem dX11_end_0 : decode cX11_end 0 = .ok (.iload_n 1, 1) := by decide +kernel
theorem dX11_end_1 : decode cX11_end 1 = .ok (.ifCond .lt 11, 3) := by decide +kernel
theorem dX11_end_4 : decode cX11_end 4 = .ok (.iload_n 1, 1) := by decide +kernel
theorem dX11_end_5 : decode cX11_end 5 = .ok (.aload_n 0, 1) := by decide +kernel
theorem dX11_end_6 : decode cX11_end 6 = .ok (.getfield 13, 3) := by decide +kernel
theorem dX11_end_9 : decode cX11_end 9 = .ok (.if_icmp .le 5, 3) := by decide +kernel
theorem dX11_end_12 : decode cX11_end 12 = .ok (.iconst 0, 1) := by decide +kernel
theorem dX11_end_13 : decode cX11_end 13 = .ok (.ireturn, 1) := by decide +kernel
theorem dX11_end_14 : decode cX11_end 14 = .ok (.aload_n 0, 1) := by decide +kernel
theorem dX11_end_15 : decode cX11_end 15 = .ok (.iload_n 1, 1) := by decide +kernel
theorem dX11_end_16 : decode cX11_end 16 = .ok (.putfield 13, 3) := by decide +kernel
theorem dX11_end_19 : decode cX11_end 19 = .ok (.iconst 1, 1) := by decide +kernel
theorem dX11_end_20 : decode cX11_end 20 = .ok (.ireturn, 1) := by decide +kernel
set_option maxHeartbeats 4000000 in
set_option maxRecDepth 100000 in
theorem ct_X11_end {E : xE} {z : Nat} {T : Nat → Nat × Int} {F : Nat → Nat → Int} {I : Nat → Int → Int} {P : Nat → Nat → Option Nat} {Y : Nat → Int → Option Nat} {o a : Nat} {w : Int → Int} (h1 : (T o).1 = 12) (h3 : P o 3 = some a) (hS : SR T F I P Y a w) {v : Int} (hv : -2147483648 ≤ v ∧ v < 2147483648) (ht : 0 ≤ F o 1 ∧ F o 1 ≤ 400) : Ct E 0 mX11_end 0 0 [.ref o, J v] (z, T, F, I, P, Y) (xd (some (J (if 0 ≤ v ∧ v ≤ F o 1 then 1 else 0))) (z, T, (if 0 ≤ v ∧ v ≤ F o 1 then upF F o 1 v else F), I, P, Y)) := by
  skip
  refine Ct.of [some (.ref o), some (J v)] kt_X11_end rfl (Nat.le_of_ble_eq_true rfl) rfl (fun d hd => ?_)
  generalize hX : xN E _ _ _ = X
  refine xg_iloadn 1 dX11_end_0 rfl rfl rfl ?_
  refine xg_iflt 12 4 dX11_end_1 rfl rfl (by omega) (fun hb1 => ?_) (fun hb1 => ?_)
  · skip
    refine xg_iconst 13 dX11_end_12 rfl ?_
    subst hX
    exact xg_zreturn dX11_end_13 rfl (by first | exact bI_01 _ | omega) ⟨Nat.le_refl _, Nat.le_refl _⟩ ⟨by rw [if_neg (by omega)], by rw [if_neg (by omega)]⟩
  · skip
    refine xg_iloadn 5 dX11_end_4 rfl rfl rfl ?_
    refine xg_aloadn 6 dX11_end_5 rfl rfl rfl ?_
    refine xg_getI 9 kf_RX11_13 dX11_end_6 rfl h1 ?_
    refine xg_icle 14 12 dX11_end_9 rfl rfl (by omega) (fun hb9 => ?_) (fun hb9 => ?_)
    · skip
      refine xg_aloadn 15 dX11_end_14 rfl rfl rfl ?_
      refine xg_iloadn 16 dX11_end_15 rfl rfl rfl ?_
      refine xg_putI 19 kf_RX11_13 dX11_end_16 rfl h1 ?_
      refine xg_iconst 20 dX11_end_19 rfl ?_
      subst hX
      exact xg_zreturn dX11_end_20 rfl (by first | exact bI_01 _ | omega) ⟨Nat.le_refl _, Nat.le_refl _⟩ ⟨by rw [if_pos (by omega)], by rw [if_pos (by omega)]⟩
    · skip
      refine xg_iconst 13 dX11_end_12 rfl ?_
      subst hX
      exact xg_zreturn dX11_end_13 rfl (by first | exact bI_01 _ | omega) ⟨Nat.le_refl _, Nat.le_refl _⟩ ⟨by rw [if_neg (by omega)], by rw [if_neg (by omega)]⟩

theorem dX11_seed_0 : decode cX11_seed 0 = .ok (.aload_n 0, 1) := by decide +kernel
theorem dX11_seed_1 : decode cX11_seed 1 = .ok (.getfield 23, 3) := by decide +kernel
theorem dX11_seed_4 : decode cX11_seed 4 = .ok (.getfield 354, 3) := by decide +kernel
theorem dX11_seed_7 : decode cX11_seed 7 = .ok (.istore_n 2, 1) := by decide +kernel
theorem dX11_seed_8 : decode cX11_seed 8 = .ok (.aload_n 0, 1) := by decide +kernel
theorem dX11_seed_9 : decode cX11_seed 9 = .ok (.getfield 23, 3) := by decide +kernel
theorem dX11_seed_12 : decode cX11_seed 12 = .ok (.iload_n 1, 1) := by decide +kernel
theorem dX11_seed_13 : decode cX11_seed 13 = .ok (.putfield 354, 3) := by decide +kernel
theorem dX11_seed_16 : decode cX11_seed 16 = .ok (.iload_n 2, 1) := by decide +kernel
theorem dX11_seed_17 : decode cX11_seed 17 = .ok (.ireturn, 1) := by decide +kernel
set_option maxHeartbeats 4000000 in
set_option maxRecDepth 100000 in
theorem ct_X11_seed {E : xE} {z : Nat} {T : Nat → Nat × Int} {F : Nat → Nat → Int} {I : Nat → Int → Int} {P : Nat → Nat → Option Nat} {Y : Nat → Int → Option Nat} {o a : Nat} {w : Int → Int} (h1 : (T o).1 = 12) (h3 : P o 3 = some a) (hS : SR T F I P Y a w) (hI : wI2 w) {v : Int} (hv : -2147483648 ≤ v ∧ v < 2147483648) : Ct E 0 mX11_seed 0 0 [.ref o, J v] (z, T, F, I, P, Y) (xQ a (some (J (w 15))) z T F I P Y (wS w 15 v)) := by
  have hO := hS.1.1
  have o0 := hO.2.1
  obtain ⟨hGd, hLw, ⟨π, ⟨hSt, hPm⟩, ⟨hSc, hTl, hJb⟩, hRun, hTab, hOut, hJo⟩, hLv, hLf⟩ := id hS
  obtain ⟨⟨st9, s0, s01, s02⟩, hRows, ⟨s4, s44⟩, ⟨s5, l9, ⟨l0, l1, l2, l3⟩, ⟨l01, l02⟩, ⟨l11, l12⟩, ⟨l21, l22⟩, l31, l32⟩, ⟨s6, s50⟩, ⟨s7, hJou⟩, -⟩ := id hSt
  have p5 : ∀ j : Nat, j < 14 → π j < 14 := hPm.2.2.2.1
  have hw0 : F a 1 = w 0 := hSc.1
  refine Ct.of [some (.ref o), some (J v), none] kt_X11_seed rfl (Nat.le_of_ble_eq_true rfl) rfl (fun d hd => ?_)
  generalize hX : xN E _ _ _ = X
  refine xg_aloadn 1 dX11_seed_0 rfl rfl rfl ?_
  refine xg_getP 4 kf_RX11_23 dX11_seed_1 rfl h1 h3 ?_
  refine xg_getI 7 kf_RX11_354 dX11_seed_4 rfl st9 ?_
  refine xg_istoren 8 _ dX11_seed_7 rfl rfl rfl (by decide) (Or.inr rfl) ?_
  refine xg_aloadn 9 dX11_seed_8 rfl rfl rfl ?_
  refine xg_getP 12 kf_RX11_23 dX11_seed_9 rfl h1 h3 ?_
  refine xg_iloadn 13 dX11_seed_12 rfl rfl rfl ?_
  refine xg_putI 16 kf_RX11_354 dX11_seed_13 rfl st9 ?_
  refine xg_iloadn 17 dX11_seed_16 rfl rfl rfl ?_
  subst hX
  exact xg_ireturn dX11_seed_17 rfl ⟨Nat.le_refl _, Nat.le_refl _⟩ ⟨by rw [hSc.2.2.2.2.2.2.1], _, _, _, _, rfl, hS.sc (k := 14) (i := 15) (by omega) (by unfold wCell; omega), SF.uF ⟨Nat.le_refl _, by omega⟩⟩

theorem dX11_pairs_0 : decode cX11_pairs 0 = .ok (.iload_n 1, 1) := by decide +kernel
theorem dX11_pairs_1 : decode cX11_pairs 1 = .ok (.iconst (-1), 1) := by decide +kernel
theorem dX11_pairs_2 : decode cX11_pairs 2 = .ok (.if_icmp .eq 22, 3) := by decide +kernel
theorem dX11_pairs_5 : decode cX11_pairs 5 = .ok (.aload_n 0, 1) := by decide +kernel
theorem dX11_pairs_6 : decode cX11_pairs 6 = .ok (.getfield 23, 3) := by decide +kernel
theorem dX11_pairs_9 : decode cX11_pairs 9 = .ok (.iload_n 1, 1) := by decide +kernel
theorem dX11_pairs_10 : decode cX11_pairs 10 = .ok (.invokevirtual 121, 3) := by decide +kernel
theorem dX11_pairs_13 : decode cX11_pairs 13 = .ok (.ifCond .ne 11, 3) := by decide +kernel
theorem dX11_pairs_16 : decode cX11_pairs 16 = .ok (.new 125, 3) := by decide +kernel
theorem dX11_pairs_19 : decode cX11_pairs 19 = .ok (.dup, 1) := by decide +kernel
theorem dX11_pairs_20 : decode cX11_pairs 20 = .ok (.invokespecial 127, 3) := by decide +kernel
theorem dX11_pairs_23 : decode cX11_pairs 23 = .ok (.athrow, 1) := by decide +kernel
theorem dX11_pairs_24 : decode cX11_pairs 24 = .ok (.aload_n 0, 1) := by decide +kernel
theorem dX11_pairs_25 : decode cX11_pairs 25 = .ok (.getfield 69, 3) := by decide +kernel
theorem dX11_pairs_28 : decode cX11_pairs 28 = .ok (.aload_n 0, 1) := by decide +kernel
theorem dX11_pairs_29 : decode cX11_pairs 29 = .ok (.getfield 23, 3) := by decide +kernel
theorem dX11_pairs_32 : decode cX11_pairs 32 = .ok (.iload_n 1, 1) := by decide +kernel
theorem dX11_pairs_33 : decode cX11_pairs 33 = .ok (.invokevirtual 336, 3) := by decide +kernel
theorem dX11_pairs_36 : decode cX11_pairs 36 = .ok (.ireturn, 1) := by decide +kernel
set_option maxHeartbeats 4000000 in
set_option maxRecDepth 100000 in
theorem ct_X11_pairs_all {E : xE} {z : Nat} {T : Nat → Nat × Int} {F : Nat → Nat → Int} {I : Nat → Int → Int} {P : Nat → Nat → Option Nat} {Y : Nat → Int → Option Nat} {o a : Nat} {w : Int → Int} (h1 : (T o).1 = 12) (h3 : P o 3 = some a) (hS : SR T F I P Y a w) {c : Nat} (h12 : P o 12 = some c) (hC : wCho T P Y c) (hdc : c + 39 ≤ a ∨ a + 57 ≤ c) : Ct E 3 mX11_pairs 0 0 [.ref o, J (-1)] (z, T, F, I, P, Y) (xCh c (some (J (sPrs w (2 ^ nP w - 1)))) z T F I P Y) := by
  have hO := hS.1.1
  have o0 := hO.2.1
  obtain ⟨hGd, hLw, ⟨π, ⟨hSt, hPm⟩, ⟨hSc, hTl, hJb⟩, hRun, hTab, hOut, hJo⟩, hLv, hLf⟩ := id hS
  obtain ⟨⟨st9, s0, s01, s02⟩, hRows, ⟨s4, s44⟩, ⟨s5, l9, ⟨l0, l1, l2, l3⟩, ⟨l01, l02⟩, ⟨l11, l12⟩, ⟨l21, l22⟩, l31, l32⟩, ⟨s6, s50⟩, ⟨s7, hJou⟩, -⟩ := id hSt
  have p5 : ∀ j : Nat, j < 14 → π j < 14 := hPm.2.2.2.1
  have hw0 : F a 1 = w 0 := hSc.1
  refine Ct.of [some (.ref o), some (J (-1))] kt_X11_pairs rfl (Nat.le_of_ble_eq_true rfl) rfl (fun d hd => ?_)
  generalize hX : xN E _ _ _ = X
  refine xg_iloadn 1 dX11_pairs_0 rfl rfl rfl ?_
  refine xg_iconst 2 dX11_pairs_1 rfl ?_
  refine xg_iceq 24 5 dX11_pairs_2 rfl rfl (by omega) (fun hb2 => ?_) (fun hb2 => ?_)
  · skip
    refine xg_aloadn 25 dX11_pairs_24 rfl rfl rfl ?_
    refine xg_getP 28 kf_RX11_69 dX11_pairs_25 rfl h1 h12 ?_
    refine xg_aloadn 29 dX11_pairs_28 rfl rfl rfl ?_
    refine xg_getP 32 kf_RX11_23 dX11_pairs_29 rfl h1 h3 ?_
    refine xg_iloadn 33 dX11_pairs_32 rfl rfl rfl ?_
    refine xg_callVe 36 0 [_, _] _ kv_X0_pairing ⟨_, _, rfl⟩ kl_RX11_336 dX11_pairs_33 rfl hC.1 (by omega) rfl rfl (Nat.le_of_ble_eq_true rfl) (by omega) ⟨Nat.le_refl _, Nat.le_refl _⟩ (ct_X0_pairing_all hC hS hdc) rfl (fun v9 h9 e9 => ?_)
    obtain ⟨rfl, I9, rfl, hC9⟩ := e9
    subst hX
    exact xg_ireturn dX11_pairs_36 rfl ⟨Nat.le_refl _, Nat.le_refl _⟩ ⟨rfl, _, rfl, hC9⟩
  · exfalso; omega

set_option maxHeartbeats 4000000 in
set_option maxRecDepth 100000 in
theorem ct_X11_pairs {E : xE} {z : Nat} {T : Nat → Nat × Int} {F : Nat → Nat → Int} {I : Nat → Int → Int} {P : Nat → Nat → Option Nat} {Y : Nat → Int → Option Nat} {o a : Nat} {w : Int → Int} (h1 : (T o).1 = 12) (h3 : P o 3 = some a) (hS : SR T F I P Y a w) {c : Nat} (h12 : P o 12 = some c) (hC : wCho T P Y c) (hdc : c + 39 ≤ a ∨ a + 57 ≤ c) {r : Nat} (hr : r < nP w) : Ct E 3 mX11_pairs 0 0 [.ref o, J (r : Int)] (z, T, F, I, P, Y) (xCh c (some (J (sPar w r (2 ^ nP w) (2 ^ nP w - 1)))) z T F I P Y) := by
  have hO := hS.1.1
  have o0 := hO.2.1
  obtain ⟨hGd, hLw, ⟨π, ⟨hSt, hPm⟩, ⟨hSc, hTl, hJb⟩, hRun, hTab, hOut, hJo⟩, hLv, hLf⟩ := id hS
  obtain ⟨⟨st9, s0, s01, s02⟩, hRows, ⟨s4, s44⟩, ⟨s5, l9, ⟨l0, l1, l2, l3⟩, ⟨l01, l02⟩, ⟨l11, l12⟩, ⟨l21, l22⟩, l31, l32⟩, ⟨s6, s50⟩, ⟨s7, hJou⟩, -⟩ := id hSt
  have p5 : ∀ j : Nat, j < 14 → π j < 14 := hPm.2.2.2.1
  have hw0 : F a 1 = w 0 := hSc.1
  have hnp : nP w ≤ wN w := by unfold nP; omega
  have hwN := wN_i o0.1
  refine Ct.of [some (.ref o), some (J (r : Int))] kt_X11_pairs rfl (Nat.le_of_ble_eq_true rfl) rfl (fun d hd => ?_)
  generalize hX : xN E _ _ _ = X
  refine xg_iloadn 1 dX11_pairs_0 rfl rfl rfl ?_
  refine xg_iconst 2 dX11_pairs_1 rfl ?_
  refine xg_iceq 24 5 dX11_pairs_2 rfl rfl (by omega) (fun hb2 => ?_) (fun hb2 => ?_)
  · exfalso; omega
  · skip
    refine xg_aloadn 6 dX11_pairs_5 rfl rfl rfl ?_
    refine xg_getP 9 kf_RX11_23 dX11_pairs_6 rfl h1 h3 ?_
    refine xg_iloadn 10 dX11_pairs_9 rfl rfl rfl ?_
    refine xg_callV 13 8 [_] _ kv_X8_hasRun ⟨_, _, rfl⟩ kl_RX11_121 dX11_pairs_10 rfl st9 (by omega) rfl rfl (Nat.le_of_ble_eq_true rfl) (by omega) ⟨Nat.le_refl _, Nat.le_refl _⟩ (ct_X8_hasRun st9 (by omega) (by omega)) rfl ?_
    rw [hw0]
    refine xg_dne 24 16 dX11_pairs_13 rfl rfl (fun hb13 => ?_) (fun hb13 => ?_)
    · skip
      refine xg_aloadn 25 dX11_pairs_24 rfl rfl rfl ?_
      refine xg_getP 28 kf_RX11_69 dX11_pairs_25 rfl h1 h12 ?_
      refine xg_aloadn 29 dX11_pairs_28 rfl rfl rfl ?_
      refine xg_getP 32 kf_RX11_23 dX11_pairs_29 rfl h1 h3 ?_
      refine xg_iloadn 33 dX11_pairs_32 rfl rfl rfl ?_
      refine xg_callVe 36 0 [_, _] _ kv_X0_pairing ⟨_, _, rfl⟩ kl_RX11_336 dX11_pairs_33 rfl hC.1 (by omega) rfl rfl (Nat.le_of_ble_eq_true rfl) (by omega) ⟨Nat.le_refl _, Nat.le_refl _⟩ (ct_X0_pairing hC hS hdc hr) rfl (fun v9 h9 e9 => ?_)
      obtain ⟨rfl, I9, rfl, hC9⟩ := e9
      subst hX
      exact xg_ireturn dX11_pairs_36 rfl ⟨Nat.le_refl _, Nat.le_refl _⟩ ⟨rfl, _, rfl, hC9⟩
    · exfalso; omega

set_option maxHeartbeats 4000000 in
set_option maxRecDepth 100000 in
theorem ct_X11_pairs_far {E : xE} {z : Nat} {T : Nat → Nat × Int} {F : Nat → Nat → Int} {I : Nat → Int → Int} {P : Nat → Nat → Option Nat} {Y : Nat → Int → Option Nat} {o a : Nat} {w : Int → Int} (h1 : (T o).1 = 12) (h3 : P o 3 = some a) (hS : SR T F I P Y a w) {c : Nat} (h12 : P o 12 = some c) (hC : wCho T P Y c) (hdc : c + 39 ≤ a ∨ a + 57 ≤ c) {v : Int} (hv : 8 ≤ v ∧ v < w 0) : Ct E 3 mX11_pairs 0 0 [.ref o, J v] (z, T, F, I, P, Y) (xCh c (some (J (-1))) z T F I P Y) := by
  have hO := hS.1.1
  have o0 := hO.2.1
  obtain ⟨hGd, hLw, ⟨π, ⟨hSt, hPm⟩, ⟨hSc, hTl, hJb⟩, hRun, hTab, hOut, hJo⟩, hLv, hLf⟩ := id hS
  obtain ⟨⟨st9, s0, s01, s02⟩, hRows, ⟨s4, s44⟩, ⟨s5, l9, ⟨l0, l1, l2, l3⟩, ⟨l01, l02⟩, ⟨l11, l12⟩, ⟨l21, l22⟩, l31, l32⟩, ⟨s6, s50⟩, ⟨s7, hJou⟩, -⟩ := id hSt
  have p5 : ∀ j : Nat, j < 14 → π j < 14 := hPm.2.2.2.1
  have hw0 : F a 1 = w 0 := hSc.1
  refine Ct.of [some (.ref o), some (J v)] kt_X11_pairs rfl (Nat.le_of_ble_eq_true rfl) rfl (fun d hd => ?_)
  generalize hX : xN E _ _ _ = X
  refine xg_iloadn 1 dX11_pairs_0 rfl rfl rfl ?_
  refine xg_iconst 2 dX11_pairs_1 rfl ?_
  refine xg_iceq 24 5 dX11_pairs_2 rfl rfl (by omega) (fun hb2 => ?_) (fun hb2 => ?_)
  · exfalso; omega
  · skip
    refine xg_aloadn 6 dX11_pairs_5 rfl rfl rfl ?_
    refine xg_getP 9 kf_RX11_23 dX11_pairs_6 rfl h1 h3 ?_
    refine xg_iloadn 10 dX11_pairs_9 rfl rfl rfl ?_
    refine xg_callV 13 8 [_] _ kv_X8_hasRun ⟨_, _, rfl⟩ kl_RX11_121 dX11_pairs_10 rfl st9 (by omega) rfl rfl (Nat.le_of_ble_eq_true rfl) (by omega) ⟨Nat.le_refl _, Nat.le_refl _⟩ (ct_X8_hasRun st9 (by omega) (by omega)) rfl ?_
    rw [hw0]
    refine xg_dne 24 16 dX11_pairs_13 rfl rfl (fun hb13 => ?_) (fun hb13 => ?_)
    · skip
      refine xg_aloadn 25 dX11_pairs_24 rfl rfl rfl ?_
      refine xg_getP 28 kf_RX11_69 dX11_pairs_25 rfl h1 h12 ?_
      refine xg_aloadn 29 dX11_pairs_28 rfl rfl rfl ?_
      refine xg_getP 32 kf_RX11_23 dX11_pairs_29 rfl h1 h3 ?_
      refine xg_iloadn 33 dX11_pairs_32 rfl rfl rfl ?_
      refine xg_callVe 36 0 [_, _] _ kv_X0_pairing ⟨_, _, rfl⟩ kl_RX11_336 dX11_pairs_33 rfl hC.1 (by omega) rfl rfl (Nat.le_of_ble_eq_true rfl) (by omega) ⟨Nat.le_refl _, Nat.le_refl _⟩ (ct_X0_pairing_far hC hS hdc (by omega)) rfl (fun v9 h9 e9 => ?_)
      obtain ⟨rfl, I9, rfl, hC9⟩ := e9
      subst hX
      exact xg_ireturn dX11_pairs_36 rfl ⟨Nat.le_refl _, Nat.le_refl _⟩ ⟨rfl, _, rfl, hC9⟩
    · exfalso; omega

