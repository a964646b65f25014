set_option maxHeartbeats 4000000 in
set_option maxRecDepth 100000 in
theorem ct_X8_writeKey {E : xE} {z : Nat} {T : Nat → Nat × Int} {F : Nat → Nat → Int} {I : Nat → Int → Int} {P : Nat → Nat → Option Nat} {Y : Nat → Int → Option Nat} {a : Nat} {w : Int → Int} (hS : SR T F I P Y a w) (hI : wInv w) {key v : Nat} (hk : key < 60) (hv : v ≤ 100) (hst : sStop sFu (sW1 w (key : Int) (v : Int)) 0) : Ct E 5 mX8_writeKey 0 0 [.ref a, J (key : Int), J (v : Int)] (z, T, F, I, P, Y) (xQ a (some (J (sWriteN w (key : Int) (v : Int)))) z T F I P Y (sWrite w (key : Int) (v : Int))) := by
  obtain ⟨⟨hO, hL, hTy⟩, hLw, ⟨π, hB⟩, hV, hLf⟩ := id hS
  obtain ⟨⟨⟨⟨s0, s1, s2, s3⟩, sR, ⟨s4, s5⟩, ⟨s6, sLv⟩, ⟨s7, s8⟩, ⟨s9, sJo⟩, s10, s11, s12⟩, p1, p2, p3, p4, p5⟩, ⟨⟨c1, c9, c10, c11, c12, c13, c14, c15⟩, hTl, j0, j1, j2⟩, hRn, hTb, hOt, hJo⟩ := id hB
  obtain ⟨hR, o0, o1, o2, o3, o4, o5, o6, oc, o13, o14, o16, o17, o18, ov⟩ := id hO
  have hN := wN_i o0.1
  have ht12 := sR (π 12) (p4 12 (by omega))
  have ht120 := ht12.1
  have hq12 := p4 12 (by omega)
  have hov := ov (19 + (key : Int)) (by omega) (by omega)
  have h9 := oc 9 (by omega) (by omega)
  have ht9 := hTl.2.2.1
  have hS1 := hS.tal (k := 2) (v := min 99999 (w 9 + 1)) (by omega) (by omega)
  refine Ct.of [some (.ref a), some (J (key : Int)), some (J (v : Int)), none] kt_X8_writeKey rfl (Nat.le_of_ble_eq_true rfl) rfl (fun d hd => ?_)
  generalize hX : xN E _ _ _ = X
  refine xg_aloadn 1 dX8_writeKey_0 rfl rfl rfl ?_
  refine xg_getP 4 kf_RX8_42 dX8_writeKey_1 rfl (by assumption) (by assumption) ?_
  refine xg_callV 7 10 [] _ kv_X10_addPut ⟨_, _, rfl⟩ kl_RX8_226 dX8_writeKey_4 rfl (by assumption) (by omega) rfl rfl (Nat.le_of_ble_eq_true rfl) (by omega) ⟨Nat.le_refl _, Nat.le_refl _⟩ (ct_X10_addPut s8 (by rw [ht9]; exact h9)) rfl ?_
  rw [ht9]
  refine xg_aloadn 8 dX8_writeKey_7 rfl rfl rfl ?_
  refine xg_getP 11 kf_RX8_18 dX8_writeKey_8 rfl (by assumption) (by assumption) ?_
  refine xg_iloadn 12 dX8_writeKey_11 rfl rfl rfl ?_
  refine xg_iloadn 13 dX8_writeKey_12 rfl rfl rfl ?_
  refine xg_iconst 14 dX8_writeKey_13 rfl ?_
  refine xg_callV 17 6 [_, _, _] _ kv_X6_enter ⟨_, _, rfl⟩ kl_RX8_210 dX8_writeKey_14 rfl (by assumption) (by omega) rfl rfl (Nat.le_of_ble_eq_true rfl) (by omega) ⟨Nat.le_refl _, Nat.le_refl _⟩ (ct_X6_enter ht12 (by omega) (by rw [hTb.v2 (by omega)]; omega)) rfl ?_
  have hS2 := hS1.tab (key := key) (v := v) p2 hk hv
  have hF2 : SF a F I P Y (if I (a + 2 + 3 * π 12 + 1) (key : Int) = -1 then upF (upF F (a + 50) 2 (min 99999 (w 9 + 1))) (a + 2 + 3 * π 12) 2 (upF F (a + 50) 2 (min 99999 (w 9 + 1)) (a + 2 + 3 * π 12) 2 + 1) else upF F (a + 50) 2 (min 99999 (w 9 + 1))) (upI (upI I (a + 2 + 3 * π 12 + 1) (key : Int) (v : Int)) (a + 2 + 3 * π 12 + 2) (key : Int) 0) P Y := (SF.uF (by omega)).tr (SF.en (by omega))
  revert hS2 hF2
  generalize (if I (a + 2 + 3 * π 12 + 1) (key : Int) = -1 then upF (upF F (a + 50) 2 (min 99999 (w 9 + 1))) (a + 2 + 3 * π 12) 2 (upF F (a + 50) 2 (min 99999 (w 9 + 1)) (a + 2 + 3 * π 12) 2 + 1) else upF F (a + 50) 2 (min 99999 (w 9 + 1))) = F2
  generalize (upI (upI I (a + 2 + 3 * π 12 + 1) (key : Int) (v : Int)) (a + 2 + 3 * π 12 + 2) (key : Int) 0) = I2
  intro hS2 hF2
  rw [show wS (wS w (7 + ((2 : Nat) : Int)) (min 99999 (w 9 + 1))) (19 + (key : Int)) (v : Int) = (sW1 w (key : Int) (v : Int)) from rfl] at hS2
  have hI1 := wInv_W1 hI (key := (key : Int)) (v := (v : Int)) (by omega) (by omega)
  obtain ⟨_, _, ⟨ρ, hB2⟩, -⟩ := id hS2
  obtain ⟨⟨-, -, x2, -, x4, -⟩, ⟨⟨-, -, -, y11, -⟩, -⟩, -, xT, -⟩ := id hB2
  have hx12 := sR (ρ 12) (x4 12 (by omega))
  have hx120 := hx12.1
  have hxn := xT.n
  have hxb := sEnt_bd (sW1 w (key : Int) (v : Int)) 19
  have hx5 := hI1.1.1.2.2.2.2.2.2.1
  refine xg_iconst 18 dX8_writeKey_17 rfl ?_
  refine xg_istoren 19 _ dX8_writeKey_18 rfl rfl rfl (by decide) (Or.inr rfl) ?_
  have join57 : ∀ (n : Int) (F3 : Nat → Nat → Int) (I3 : Nat → Int → Int) (P3 : Nat → Nat → Option Nat) (Y3 : Nat → Int → Option Nat), n = (sRoom (sW1 w (key : Int) (v : Int))).2 → SR T F3 I3 P3 Y3 a (sRoom (sW1 w (key : Int) (v : Int))).1 → SF a F I P Y F3 I3 P3 Y3 → xG E mX8_writeKey (xR d 0 0) X 57 [some (.ref a), some (J (key : Int)), some (J (v : Int)), some (J n)] [] (z, T, F3, I3, P3, Y3) 0 0 := by
    intro n F3 I3 P3 Y3 hn3 hS3 hF3
    have t0 := s0
    have hIR := wInv_room hI1 hI1.1.1.2.2.2.2.2.2.1.1
    refine xg_aloadn 58 dX8_writeKey_57 rfl rfl rfl ?_
    refine xg_callVq 61 8 [] _ kv_X8_beginJob ⟨_, _, rfl⟩ kl_RX8_242 dX8_writeKey_58 rfl (by assumption) (by omega) rfl rfl (Nat.le_of_ble_eq_true rfl) (by omega) ⟨Nat.le_refl _, Nat.le_refl _⟩ (ct_X8_beginJob hS3 hIR.2.1) rfl (fun F7 I7 P7 Y7 hS7 hF7 => ?_)
    refine xg_aloadn 62 dX8_writeKey_61 rfl rfl rfl ?_
    refine xg_iconst 63 dX8_writeKey_62 rfl ?_
    refine xg_callVq 66 8 [_] _ kv_X8_paidSlice ⟨_, _, rfl⟩ kl_RX8_245 dX8_writeKey_63 rfl (by assumption) (by omega) rfl rfl (Nat.le_of_ble_eq_true rfl) (by omega) ⟨Nat.le_refl _, Nat.le_refl _⟩ (ct_X8_paidSlice_any hS7 (wInv_beg hIR) (by omega)) rfl (fun F8 I8 P8 Y8 hS8 hF8 => ?_)
    refine xg_pop 67 dX8_writeKey_66 rfl rfl ?_
    refine xg_iloadn 68 dX8_writeKey_67 rfl rfl rfl ?_
    subst hX
    exact xg_ireturn dX8_writeKey_68 rfl ⟨Nat.le_refl _, Nat.le_refl _⟩ ⟨by rw [hn3]; rfl, F8, I8, P8, Y8, rfl, hS8, (hF3.tr hF7).tr hF8⟩
  refine xg_aloadn 20 dX8_writeKey_19 rfl rfl rfl ?_
  refine xg_getP 23 kf_RX8_18 dX8_writeKey_20 rfl (by assumption) (by assumption) ?_
  refine xg_getI 26 kf_RX8_117 dX8_writeKey_23 rfl (by assumption) ?_
  refine xg_aloadn 27 dX8_writeKey_26 rfl rfl rfl ?_
  refine xg_getI 30 kf_RX8_61 dX8_writeKey_27 rfl (by assumption) ?_
  refine xg_iclt 57 33 dX8_writeKey_30 rfl rfl (by omega) (fun hb30 => ?_) (fun hb30 => ?_)
  · skip
    have eR : (sRoom (sW1 w (key : Int) (v : Int))) = ((sW1 w (key : Int) (v : Int)), 0) := by unfold sRoom; rw [if_neg (by omega)]
    exact xg_weak _ (xle_s rfl (xle_s rfl (xle_s rfl (xle_s rfl xle_0)))) (join57 0 F2 I2 P Y (by rw [eR]) (by rw [eR]; exact hS2) hF2)
  · skip
    have hge : (sW1 w (key : Int) (v : Int)) 5 ≤ sEnt (sW1 w (key : Int) (v : Int)) 19 := by omega
    refine xg_aloadn 34 dX8_writeKey_33 rfl rfl rfl ?_
    refine xg_callVq 37 8 [] _ kv_X8_makeRoom ⟨_, _, rfl⟩ kl_RX8_229 dX8_writeKey_34 rfl (by assumption) (by omega) rfl rfl (Nat.le_of_ble_eq_true rfl) (by omega) ⟨Nat.le_refl _, Nat.le_refl _⟩ (ct_X8_makeRoom hS2 hI1 hst) rfl (fun F4 I4 P4 Y4 hS4 hF4 => ?_)
    obtain ⟨q1, q2, q3, q4⟩ := sStl_inv sFu hI1 (Int.le_refl 0)
    obtain ⟨-, -, -, q5⟩ := sStl_ok sFu hI1.1.1 hI1.1.2.1 (show (0 : Int) ≤ 0 by omega)
    have hfu := sFu_eq
    have q6 := q4 ((sW1 w (key : Int) (v : Int)) 11) hI1.2.2.2.1 hI1.2.2.2.2 (by have := hI1.2.2.2; omega)
    obtain ⟨_, _, ⟨σ, hB4⟩, -⟩ := id hS4
    obtain ⟨⟨⟨-, -, -, -, ⟨u7, u8⟩, -⟩, -⟩, ⟨-, ⟨-, -, -, -, u4, -⟩, -⟩, -⟩ := id hB4
    have u11 : F4 (a + 50) 4 = (sW1 w (key : Int) (v : Int)) 11 := u4.trans (wS_at _ _ _)
    have hw11 := hI1.2.2.2
    refine xg_istoren 38 _ dX8_writeKey_37 rfl rfl rfl (by decide) (Or.inr rfl) ?_
    refine xg_aloadn 39 dX8_writeKey_38 rfl rfl rfl ?_
    refine xg_getP 42 kf_RX8_42 dX8_writeKey_39 rfl (by assumption) (by assumption) ?_
    refine xg_iloadn 43 dX8_writeKey_42 rfl rfl rfl ?_
    refine xg_callV 46 10 [_] _ kv_X10_addStallsOfOne ⟨_, _, rfl⟩ kl_RX8_232 dX8_writeKey_43 rfl (by assumption) (by omega) rfl rfl (Nat.le_of_ble_eq_true rfl) (by omega) ⟨Nat.le_refl _, Nat.le_refl _⟩ (ct_X10_addStallsOfOne (by omega) u8 (by omega)) rfl ?_
    rw [u11]
    have hS5 := hS4.tal (k := 4) (v := max ((sW1 w (key : Int) (v : Int)) 11) (min 9999 (sStl sFu (sW1 w (key : Int) (v : Int)) 0).2)) (by omega) (by omega)
    rw [show wS (wS (sStl sFu (sW1 w (key : Int) (v : Int)) 0).1 11 ((sW1 w (key : Int) (v : Int)) 11)) (7 + ((4 : Nat) : Int)) (max ((sW1 w (key : Int) (v : Int)) 11) (min 9999 (sStl sFu (sW1 w (key : Int) (v : Int)) 0).2)) = (sStl sFu (sW1 w (key : Int) (v : Int)) 0).1 from by rw [show (7 : Int) + ((4 : Nat) : Int) = 11 from rfl, wS_wS, ← q6, wS_id]] at hS5
    have hF5 : SF a F I P Y (upF F4 (a + 50) 4 (max ((sW1 w (key : Int) (v : Int)) 11) (min 9999 (sStl sFu (sW1 w (key : Int) (v : Int)) 0).2))) I4 P4 Y4 := (hF2.tr hF4).tr (SF.uF (by omega))
    revert hS5 hF5
    generalize upF F4 (a + 50) 4 (max ((sW1 w (key : Int) (v : Int)) 11) (min 9999 (sStl sFu (sW1 w (key : Int) (v : Int)) 0).2)) = F5
    generalize hI54 : I4 = I5
    intro hS5 hF5
    obtain ⟨_, _, ⟨ρ5, hB5⟩, hV5, -⟩ := id hS5
    obtain ⟨⟨⟨⟨t0, t1, t2, t3⟩, -, ⟨t4, t5⟩, ⟨t6, tLv⟩, ⟨t7, t8⟩, -⟩, -⟩, ⟨⟨k1, -, k10, -⟩, -⟩, -⟩ := id hB5
    have hm0 := (hV5.1 0 (by omega)).2.1
    have hmb := sMany_bd (sStl sFu (sW1 w (key : Int) (v : Int)) 0).1 0
    have hN9 := wN_i q1.1.1.2.1.1
    have hW0 := q1.1.1.2.1
    have hW4 := q1.1.1.2.2.2.2.2.1
    have hcd : sCrowd (sStl sFu (sW1 w (key : Int) (v : Int)) 0).1 = decide ((sStl sFu (sW1 w (key : Int) (v : Int)) 0).1 4 + 2 ≤ sMany (sStl sFu (sW1 w (key : Int) (v : Int)) 0).1 0 ∨ (sStl sFu (sW1 w (key : Int) (v : Int)) 0).1 0 = 12) := rfl
    have tl0 := tLv.1
    have tl1 := tLv.2.1.2.1
    have tl2 := tLv.2.2.2.1
    refine xg_aloadn 47 dX8_writeKey_46 rfl rfl rfl ?_
    refine xg_callV 50 8 [] _ kv_X8_hasRoom ⟨_, _, rfl⟩ kl_RX8_235 dX8_writeKey_47 rfl (by assumption) (by omega) rfl rfl (Nat.le_of_ble_eq_true rfl) (by omega) ⟨Nat.le_refl _, Nat.le_refl _⟩ (ct_X8_hasRoom t0 t6 tl0 tl1 tl2.1 (by omega) (by have e9 : I5 (a + 45 + 2) 0 = sMany (sStl sFu (sW1 w (key : Int) (v : Int)) 0).1 0 := hm0; omega) (by omega) (by omega)) rfl ?_
    refine xg_deq 57 53 dX8_writeKey_50 rfl rfl (fun hb50 => ?_) (fun hb50 => ?_)
    · skip
      have hcf : sCrowd (sStl sFu (sW1 w (key : Int) (v : Int)) 0).1 = true := by rw [hcd]; exact decide_eq_true (by have e9 : I5 (a + 45 + 2) 0 = sMany (sStl sFu (sW1 w (key : Int) (v : Int)) 0).1 0 := hm0; omega)
      have eR : (sRoom (sW1 w (key : Int) (v : Int))) = ((sStl sFu (sW1 w (key : Int) (v : Int)) 0).1, (sStl sFu (sW1 w (key : Int) (v : Int)) 0).2) := by unfold sRoom; rw [if_pos hge, if_pos hcf]
      exact xg_weak _ (xle_s rfl (xle_s rfl (xle_s rfl (xle_s rfl xle_0)))) (join57 _ F5 I5 P4 Y4 (by rw [eR]) (by rw [eR]; exact hS5) hF5)
    · skip
      refine xg_aloadn 54 dX8_writeKey_53 rfl rfl rfl ?_
      refine xg_callVq 57 8 [] _ kv_X8_pourTable ⟨_, _, rfl⟩ kl_RX8_239 dX8_writeKey_54 rfl (by assumption) (by omega) rfl rfl (Nat.le_of_ble_eq_true rfl) (by omega) ⟨Nat.le_refl _, Nat.le_refl _⟩ (ct_X8_pourTable hS5 q1.2.1 (by omega) (by rw [q2.ent]; omega)) rfl (fun F6 I6 P6 Y6 hS6 hF6 => ?_)
      have hcf : sCrowd (sStl sFu (sW1 w (key : Int) (v : Int)) 0).1 = false := by rw [hcd]; exact decide_eq_false (by have e9 : I5 (a + 45 + 2) 0 = sMany (sStl sFu (sW1 w (key : Int) (v : Int)) 0).1 0 := hm0; omega)
      have eR : (sRoom (sW1 w (key : Int) (v : Int))) = (sFlush (sStl sFu (sW1 w (key : Int) (v : Int)) 0).1, (sStl sFu (sW1 w (key : Int) (v : Int)) 0).2) := by unfold sRoom; rw [if_pos hge, if_neg (by rw [hcf]; decide)]
      exact xg_weak _ (xle_s rfl (xle_s rfl (xle_s rfl (xle_s rfl xle_0)))) (join57 _ F6 I6 P6 Y6 (by rw [eR]) (by rw [eR]; exact hS6) (hF5.tr hF6))

