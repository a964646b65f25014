theorem dX8_addRun_0 : decode cX8_addRun 0 = .ok (.aload_n 0, 1) := by decide +kernel
theorem dX8_addRun_1 : decode cX8_addRun 1 = .ok (.getfield 70, 3) := by decide +kernel
theorem dX8_addRun_4 : decode cX8_addRun 4 = .ok (.ifCond .lt 12, 3) := by decide +kernel
theorem dX8_addRun_7 : decode cX8_addRun 7 = .ok (.aload_n 0, 1) := by decide +kernel
theorem dX8_addRun_8 : decode cX8_addRun 8 = .ok (.getfield 70, 3) := by decide +kernel
theorem dX8_addRun_11 : decode cX8_addRun 11 = .ok (.bipush 12, 2) := by decide +kernel
theorem dX8_addRun_13 : decode cX8_addRun 13 = .ok (.if_icmp .lt 4, 3) := by decide +kernel
theorem dX8_addRun_16 : decode cX8_addRun 16 = .ok (.return_, 1) := by decide +kernel
theorem dX8_addRun_17 : decode cX8_addRun 17 = .ok (.aload_n 0, 1) := by decide +kernel
theorem dX8_addRun_18 : decode cX8_addRun 18 = .ok (.invokevirtual 259, 3) := by decide +kernel
theorem dX8_addRun_21 : decode cX8_addRun 21 = .ok (.aload_n 0, 1) := by decide +kernel
theorem dX8_addRun_22 : decode cX8_addRun 22 = .ok (.getfield 11, 3) := by decide +kernel
theorem dX8_addRun_25 : decode cX8_addRun 25 = .ok (.aload_n 0, 1) := by decide +kernel
theorem dX8_addRun_26 : decode cX8_addRun 26 = .ok (.getfield 70, 3) := by decide +kernel
theorem dX8_addRun_29 : decode cX8_addRun 29 = .ok (.aaload, 1) := by decide +kernel
theorem dX8_addRun_30 : decode cX8_addRun 30 = .ok (.astore 5, 2) := by decide +kernel
theorem dX8_addRun_32 : decode cX8_addRun 32 = .ok (.aload 5, 2) := by decide +kernel
theorem dX8_addRun_34 : decode cX8_addRun 34 = .ok (.invokevirtual 220, 3) := by decide +kernel
theorem dX8_addRun_37 : decode cX8_addRun 37 = .ok (.aload 5, 2) := by decide +kernel
theorem dX8_addRun_39 : decode cX8_addRun 39 = .ok (.iload_n 1, 1) := by decide +kernel
theorem dX8_addRun_40 : decode cX8_addRun 40 = .ok (.putfield 167, 3) := by decide +kernel
theorem dX8_addRun_43 : decode cX8_addRun 43 = .ok (.iconst 0, 1) := by decide +kernel
theorem dX8_addRun_44 : decode cX8_addRun 44 = .ok (.istore 6, 2) := by decide +kernel
theorem dX8_addRun_46 : decode cX8_addRun 46 = .ok (.iload 6, 2) := by decide +kernel
theorem dX8_addRun_48 : decode cX8_addRun 48 = .ok (.iload 4, 2) := by decide +kernel
theorem dX8_addRun_50 : decode cX8_addRun 50 = .ok (.if_icmp .ge 37, 3) := by decide +kernel
theorem dX8_addRun_53 : decode cX8_addRun 53 = .ok (.iload 6, 2) := by decide +kernel
theorem dX8_addRun_55 : decode cX8_addRun 55 = .ok (.aload_n 2, 1) := by decide +kernel
theorem dX8_addRun_56 : decode cX8_addRun 56 = .ok (.arraylength, 1) := by decide +kernel
theorem dX8_addRun_57 : decode cX8_addRun 57 = .ok (.if_icmp .ge 30, 3) := by decide +kernel
theorem dX8_addRun_60 : decode cX8_addRun 60 = .ok (.iload 6, 2) := by decide +kernel
theorem dX8_addRun_62 : decode cX8_addRun 62 = .ok (.aload_n 3, 1) := by decide +kernel
theorem dX8_addRun_63 : decode cX8_addRun 63 = .ok (.arraylength, 1) := by decide +kernel
theorem dX8_addRun_64 : decode cX8_addRun 64 = .ok (.if_icmp .ge 23, 3) := by decide +kernel
theorem dX8_addRun_67 : decode cX8_addRun 67 = .ok (.aload 5, 2) := by decide +kernel
theorem dX8_addRun_69 : decode cX8_addRun 69 = .ok (.aload_n 2, 1) := by decide +kernel
theorem dX8_addRun_70 : decode cX8_addRun 70 = .ok (.iload 6, 2) := by decide +kernel
theorem dX8_addRun_72 : decode cX8_addRun 72 = .ok (.iaload, 1) := by decide +kernel
theorem dX8_addRun_73 : decode cX8_addRun 73 = .ok (.aload_n 3, 1) := by decide +kernel
theorem dX8_addRun_74 : decode cX8_addRun 74 = .ok (.iload 6, 2) := by decide +kernel
theorem dX8_addRun_76 : decode cX8_addRun 76 = .ok (.iaload, 1) := by decide +kernel
theorem dX8_addRun_77 : decode cX8_addRun 77 = .ok (.iconst 0, 1) := by decide +kernel
theorem dX8_addRun_78 : decode cX8_addRun 78 = .ok (.invokevirtual 210, 3) := by decide +kernel
theorem dX8_addRun_81 : decode cX8_addRun 81 = .ok (.iinc 6 1, 3) := by decide +kernel
theorem dX8_addRun_84 : decode cX8_addRun 84 = .ok (.goto (-38), 3) := by decide +kernel
theorem dX8_addRun_87 : decode cX8_addRun 87 = .ok (.aload_n 0, 1) := by decide +kernel
theorem dX8_addRun_88 : decode cX8_addRun 88 = .ok (.dup, 1) := by decide +kernel
theorem dX8_addRun_89 : decode cX8_addRun 89 = .ok (.getfield 70, 3) := by decide +kernel
theorem dX8_addRun_92 : decode cX8_addRun 92 = .ok (.iconst 1, 1) := by decide +kernel
theorem dX8_addRun_93 : decode cX8_addRun 93 = .ok (.iadd, 1) := by decide +kernel
theorem dX8_addRun_94 : decode cX8_addRun 94 = .ok (.putfield 70, 3) := by decide +kernel
theorem dX8_addRun_97 : decode cX8_addRun 97 = .ok (.aload_n 0, 1) := by decide +kernel
theorem dX8_addRun_98 : decode cX8_addRun 98 = .ok (.getfield 35, 3) := by decide +kernel
theorem dX8_addRun_101 : decode cX8_addRun 101 = .ok (.aload_n 0, 1) := by decide +kernel
theorem dX8_addRun_102 : decode cX8_addRun 102 = .ok (.invokevirtual 180, 3) := by decide +kernel
theorem dX8_addRun_105 : decode cX8_addRun 105 = .ok (.return_, 1) := by decide +kernel
theorem rG.heap2 {F F' : Nat → Nat → Int} {I : Nat → Int → Int} {b : Nat} {u g : Int → Int} (h : rG F I b u g) (hF : F' b 2 = F b 2) : rG F' I b u g := by unfold rG; rw [hF]; exact h
set_option maxHeartbeats 4000000 in
set_option maxRecDepth 100000 in
theorem ct_X8_addRun {E : xE} {z : Nat} {T : Nat → Nat × Int} {F : Nat → Nat → Int} {I : Nat → Int → Int} {P : Nat → Nat → Option Nat} {Y : Nat → Int → Option Nat} {a : Nat} {w : Int → Int} (hS : SR T F I P Y a w) (hI : wInv w) {kA vA n : Nat} {lv : Int} (hN12 : w 0 < 12) (hl : 0 ≤ lv ∧ lv ≤ 3) (hA : ((T kA).1 = 14 ∧ (T kA).2 = 20) ∧ (T vA).1 = 14 ∧ (T vA).2 = 20) (hAo : (kA < a ∨ a + 57 ≤ kA) ∧ (vA < a ∨ a + 57 ≤ vA) ∧ ∀ l, P a 16 = some l → kA ≠ l + 5 ∧ vA ≠ l + 5) (hn : 0 < n ∧ n ≤ 20) (hk : ∀ i : Nat, 0 ≤ I kA (i : Int) ∧ I kA (i : Int) < 60) (hv : ∀ i : Nat, 0 ≤ I vA (i : Int) ∧ I vA (i : Int) ≤ 100) : Ct E 2 mX8_addRun 0 0 [.ref a, J lv, .ref kA, .ref vA, J (n : Int)] (z, T, F, I, P, Y) (xQ a none z T F I P Y (sAdd w lv (I kA) (I vA) n)) := by
  obtain ⟨⟨hO, hL, hTy⟩, hLw, ⟨π, hB⟩, hV, hLf⟩ := id hS
  obtain ⟨⟨⟨⟨s0, s1, s2, s3⟩, sR, ⟨s4, s5⟩, ⟨s6, sLv⟩, ⟨s7, s8⟩, ⟨s9, sJo⟩, s10, s11, s12⟩, p1, p2, p3, p4, p5⟩, ⟨⟨c1, c9, c10, c11, c12, c13, c14, c15⟩, hTl, j0, j1, j2⟩, hRn, hTb, hOt, hJo⟩ := id hB
  obtain ⟨hR, o0, o1, o2, o3, o4, o5, o6, oc, o13, o14, o16, o17, o18, ov⟩ := id hO
  have hN := wN_i o0.1
  obtain ⟨⟨hA1, hA2⟩, hA3, hA4⟩ := hA
  obtain ⟨hAo1, hAo2, hAo3⟩ := hAo
  obtain ⟨q1, q2, q3⟩ := wInv_add hI hN12 hl hk hv hn.1
  refine Ct.of [some (.ref a), some (J lv), some (.ref kA), some (.ref vA), some (J (n : Int)), none, none] kt_X8_addRun rfl (Nat.le_of_ble_eq_true rfl) rfl (fun d hd => ?_)
  generalize hX : xN E _ _ _ = X
  refine xg_aloadn 1 dX8_addRun_0 rfl rfl rfl ?_
  refine xg_getI 4 kf_RX8_70 dX8_addRun_1 rfl (by assumption) ?_
  refine xg_iflt 16 7 dX8_addRun_4 rfl rfl (by omega) (fun hb4 => ?_) (fun hb4 => ?_)
  · exfalso; omega
  · skip
    refine xg_aloadn 8 dX8_addRun_7 rfl rfl rfl ?_
    refine xg_getI 11 kf_RX8_70 dX8_addRun_8 rfl (by assumption) ?_
    refine xg_bipush 13 dX8_addRun_11 rfl (by decide) ?_
    refine xg_iclt 17 16 dX8_addRun_13 rfl rfl (by omega) (fun hb13 => ?_) (fun hb13 => ?_)
    · skip
      refine xg_aloadn 18 dX8_addRun_17 rfl rfl rfl ?_
      refine xg_callVq 21 8 [] _ kv_X8_giveUpJob ⟨_, _, rfl⟩ kl_RX8_259 dX8_addRun_18 rfl (by assumption) (by omega) rfl rfl (Nat.le_of_ble_eq_true rfl) (by omega) ⟨Nat.le_refl _, Nat.le_refl _⟩ (ct_X8_giveUpJob hS hI.2.1) rfl (fun F1 I1 P1 Y1 hS1 hF1 => ?_)
      have hHI := wInv_halt hI
      obtain ⟨hG1, hL1, ⟨ρ, hB1⟩, -, hl1⟩ := id hS1
      obtain ⟨⟨⟨⟨t0, t1, t2, t3⟩, tR, -, ⟨t6, tLv⟩, -⟩, x1, x2, x3, x4, x5⟩, ⟨⟨d1, -⟩, -⟩, -⟩ := id hB1
      have tl0 := tLv.1
      have e0 := sHalt_0 (w := w)
      obtain ⟨r, hr⟩ : ∃ r : Nat, (r : Int) = w 0 := ⟨wN w, hN⟩
      have hxr := x4 r (by omega)
      have hrow := tR (ρ r) hxr
      have hrow0 := hrow.1
      have ik : I1 kA = I kA := (hF1.1 kA hAo1).2.2.2 (fun l hl => (hAo3 l hl).1)
      have iv : I1 vA = I vA := (hF1.1 vA hAo2).2.2.2 (fun l hl => (hAo3 l hl).2)
      refine xg_aloadn 22 dX8_addRun_21 rfl rfl rfl ?_
      refine xg_getP 25 kf_RX8_11 dX8_addRun_22 rfl (by assumption) (by assumption) ?_
      refine xg_aloadn 26 dX8_addRun_25 rfl rfl rfl ?_
      refine xg_getI 29 kf_RX8_70 dX8_addRun_26 rfl (by assumption) ?_
      rw [d1, e0, ← hr]
      refine xg_rald 30 dX8_addRun_29 rfl (by assumption) (by omega) (x1 r (by omega)) ?_
      refine xg_astore 32 _ dX8_addRun_30 rfl rfl (by decide) (Or.inr rfl) ?_
      refine xg_aload 34 dX8_addRun_32 rfl rfl ?_
      refine xg_callV 37 6 [] _ kv_X6_wipe ⟨_, _, rfl⟩ kl_RX8_220 dX8_addRun_34 rfl (by assumption) (by omega) rfl rfl (Nat.le_of_ble_eq_true rfl) (by omega) ⟨Nat.le_refl _, Nat.le_refl _⟩ (ct_X6_wipe hrow) rfl ?_
      refine xg_aload 39 dX8_addRun_37 rfl rfl ?_
      refine xg_iloadn 40 dX8_addRun_39 rfl rfl rfl ?_
      refine xg_putI 43 kf_RX8_167 dX8_addRun_40 rfl (by assumption) ?_
      refine xg_iconst 44 dX8_addRun_43 rfl ?_
      refine xg_istore 46 _ dX8_addRun_44 rfl rfl (by decide) (Or.inr rfl) ?_
      have loop46 : ∀ (mm : Nat) (i : Nat) (F2 : Nat → Nat → Int) (I2 : Nat → Int → Int), (i ≤ n) → rG F2 I2 (a + 2 + 3 * ρ r) (fun k => (sPut (I kA) (I vA) (sRow0 w lv) (w 0) i) (201 + 122 * w 0 + k)) (fun k => (sPut (I kA) (I vA) (sRow0 w lv) (w 0) i) (261 + 122 * w 0 + k)) → F2 (a + 2 + 3 * ρ r) 3 = lv → F2 (a + 2 + 3 * ρ r) 4 = 0 → (∀ b : Nat, b ≠ a + 2 + 3 * ρ r → F2 b = F1 b) → (∀ b : Nat, b ≠ a + 2 + 3 * ρ r + 1 → b ≠ a + 2 + 3 * ρ r + 2 → I2 b = I1 b) → (n : Int) - (i : Int) < (mm : Int) → xG E mX8_addRun (xR d 0 0) X 46 [some (.ref a), some (J lv), some (.ref kA), some (.ref vA), some (J (n : Int)), some (.ref (a + 2 + 3 * ρ r)), some (J (i : Int))] [] (z, T, F2, I2, P1, Y1) 0 0 := by
        intro mm
        induction mm with
        | zero => intro i F2 I2 hi hrg hf3 hf4 fo2 io2 hm; exfalso; omega
        | succ mm ih =>
          intro i F2 I2 hi hrg hf3 hf4 fo2 io2 hm
          have fa2 : ∀ k : Nat, k = k → F2 a k = F1 a k := fun k _ => by rw [fo2 a (by omega)]
          refine xg_iload 48 dX8_addRun_46 rfl rfl ?_
          refine xg_iload 50 dX8_addRun_48 rfl rfl ?_
          refine xg_icge 87 53 dX8_addRun_50 rfl rfl (by omega) (fun hb50 => ?_) (fun hb50 => ?_)
          · skip
            refine xg_aloadn 88 dX8_addRun_87 rfl rfl rfl ?_
            refine xg_dup 89 dX8_addRun_88 rfl rfl ?_
            refine xg_getI 92 kf_RX8_70 dX8_addRun_89 rfl (by assumption) ?_
            rw [fa2 1 rfl, d1, e0]
            refine xg_iconst 93 dX8_addRun_92 rfl ?_
            refine xg_iadd 94 dX8_addRun_93 rfl ?_
            refine xg_putI 97 kf_RX8_70 dX8_addRun_94 rfl (by assumption) ?_
            rw [show i = n by omega] at hrg
            have hrun : rRun (upF F2 a 1 (w 0 + 1)) I2 (a + 2 + 3 * ρ r) (sAdd w lv (I kA) (I vA) n) (r : Int) := by
              refine ⟨?_, ?_, ?_⟩
              · rw [upF_na _ _ _ _ (by omega), hf3]
                unfold sAdd
                rw [wS_ne _ _ _ (by omega), sPut_c hk (by omega)]
                unfold sRow0
                rw [hr]
                exact ((if_neg (by omega)).trans (by rw [wS_ne _ _ _ (by omega), wS_at])).symm
              · rw [upF_na _ _ _ _ (by omega), hf4]
                unfold sAdd
                rw [wS_ne _ _ _ (by omega), sPut_c hk (by omega)]
                unfold sRow0
                rw [hr]
                exact ((if_neg (by omega)).trans (by rw [wS_at])).symm
              · refine (hrg.heap (upF_na _ _ _ _ (by omega)) rfl rfl).congr (fun k k0 k1 => ?_) (fun k k0 k1 => ?_)
                · rw [hr]; exact wS_ne _ _ _ (by omega)
                · rw [hr]; exact wS_ne _ _ _ (by omega)
            have hB5 := hB1.push (F' := upF F2 a 1 (w 0 + 1)) (I' := I2) (w' := sAdd w lv (I kA) (I vA) n) (r := r) (by rw [e0]; exact hr) (by rw [e0]; exact hN12) hHI.1.1.2.2.2.2.2.2.2.2.2.2.1.2 hrun (by rw [upF_at, e0]) (fun k hk => by rw [upF_nk _ _ _ _ hk, fa2 k rfl]) (fun b b1 b2 => by rw [upF_na _ _ _ _ b1, fo2 b b2]) io2 (by rw [e0]; exact wS_at _ _ _) (fun j j0 hj => q3 j j0 (by rw [e0] at hj; exact hj))
            have hF5 : SF a F I P Y (upF F2 a 1 (w 0 + 1)) I2 P1 Y1 := hF1.tr (SF.of (fun b hb => by rw [upF_na _ _ _ _ (by omega), fo2 b (by omega)]) (fun b hb _ => io2 b (by omega) (by omega)))
            refine xg_aloadn 98 dX8_addRun_97 rfl rfl rfl ?_
            refine xg_getP 101 kf_RX8_35 dX8_addRun_98 rfl (by assumption) (by assumption) ?_
            refine xg_aloadn 102 dX8_addRun_101 rfl rfl rfl ?_
            refine xg_callV 105 5 [_] _ kv_X5_recount ⟨_, _, rfl⟩ kl_RX8_180 dX8_addRun_102 rfl (by assumption) (by omega) rfl rfl (Nat.le_of_ble_eq_true rfl) (by omega) ⟨Nat.le_refl _, Nat.le_refl _⟩ (ct_X5_recount hB5 q1.1.1 q1.2.1.lv tLv) rfl ?_
            subst hX
            exact xg_return dX8_addRun_105 rfl ⟨Nat.le_refl _, Nat.le_refl _⟩ ⟨rfl, _, _, _, _, rfl, SR.rec q1.1 (hLw.sf hF5 q2) hB5 (by rw [upF_na _ _ _ _ (by omega), fo2 _ (by omega), hl1, sLeft_0 (fun q hq => by have := (hHI.2.1.2 (sHalt_16 o16)).1 q hq; omega) hHI.1.1.2.1.1, sLeft_0 (fun q hq => by have := (q1.2.1.2 ((q3 16 (by omega) (by omega)).trans (sHalt_16 o16))).1 q hq; omega) q1.1.1.2.1.1]), hF5.tr SF.rec⟩
          · skip
            refine xg_iload 55 dX8_addRun_53 rfl rfl ?_
            refine xg_aloadn 56 dX8_addRun_55 rfl rfl rfl ?_
            refine xg_alen 57 dX8_addRun_56 rfl (by assumption) hA2 ?_
            refine xg_icge 87 60 dX8_addRun_57 rfl rfl (by omega) (fun hb57 => ?_) (fun hb57 => ?_)
            · exfalso; omega
            · skip
              refine xg_iload 62 dX8_addRun_60 rfl rfl ?_
              refine xg_aloadn 63 dX8_addRun_62 rfl rfl rfl ?_
              refine xg_alen 64 dX8_addRun_63 rfl (by assumption) hA4 ?_
              refine xg_icge 87 67 dX8_addRun_64 rfl rfl (by omega) (fun hb64 => ?_) (fun hb64 => ?_)
              · exfalso; omega
              · skip
                refine xg_aload 69 dX8_addRun_67 rfl rfl ?_
                refine xg_aloadn 70 dX8_addRun_69 rfl rfl rfl ?_
                refine xg_iload 72 dX8_addRun_70 rfl rfl ?_
                skip
                refine xg_iald 73 dX8_addRun_72 rfl (by assumption) (by omega) ?_
                rw [io2 kA (by omega) (by omega), ik]
                refine xg_aloadn 74 dX8_addRun_73 rfl rfl rfl ?_
                refine xg_iload 76 dX8_addRun_74 rfl rfl ?_
                refine xg_iald 77 dX8_addRun_76 rfl (by assumption) (by omega) ?_
                rw [io2 vA (by omega) (by omega), iv]
                have hkk := hk i
                have hvv := hv i
                have hUO := wOk_put (wOk_row0 hO hN12 hl) (r := w 0) (by omega) hk hv i
                refine xg_iconst 78 dX8_addRun_77 rfl ?_
                refine xg_callV 81 6 [_, _, _] _ kv_X6_enter ⟨_, _, rfl⟩ kl_RX8_210 dX8_addRun_78 rfl (by assumption) (by omega) rfl rfl (Nat.le_of_ble_eq_true rfl) (by omega) ⟨Nat.le_refl _, Nat.le_refl _⟩ (ct_X6_enter hrow hkk (by rw [(hrg.2 (I kA (i : Int)) hkk.1 hkk.2).1]; exact hUO.1 _)) rfl ?_
                refine xg_iinc 84 _ dX8_addRun_81 rfl rfl rfl rfl (by decide) (Or.inr rfl) ?_
                refine xg_goto 46 dX8_addRun_84 rfl ?_
                have hrg2 := hrg.enter (key := I kA (i : Int)) (v := I vA (i : Int)) (x := 0) hkk (by omega)
                exact xg_weak _ (xle_s rfl (xle_s rfl (xle_s rfl (xle_s rfl (xle_s rfl (xle_s rfl (xle_s rfl xle_0))))))) (ih (i + 1) _ _ (by omega) (hrg2.congr (fun k k0 k1 => by
                  show wS (wS _ _ _) _ _ _ = wS _ _ _ _
                  rw [wS_ne _ _ _ (by omega)]
                  unfold wS
                  by_cases q : k = I kA (i : Int)
                  · rw [if_pos q, if_pos (by omega)]
                  · rw [if_neg q, if_neg (by omega)]) (fun k k0 k1 => by
                  show wS (wS _ _ _) _ _ _ = wS _ _ _ _
                  unfold wS
                  by_cases q : k = I kA (i : Int)
                  · rw [if_pos q, if_pos (by omega)]
                  · rw [if_neg q, if_neg (by omega), if_neg (by omega)])) (by rw [enF_nk (by omega)]; exact hf3) (by rw [enF_nk (by omega)]; exact hf4) (fun b hb => by rw [enF_na hb]; exact fo2 b hb) (fun b b1 b2 => by rw [enI_na b1 b2]; exact io2 b b1 b2) (by omega))
      exact xg_weak _ (xle_s rfl (xle_s rfl (xle_s rfl (xle_s rfl (xle_s rfl (xle_s rfl (xle_s rfl xle_0))))))) (loop46 21 0 _ _ (by omega) ((rG.wiped (F := F1) (I := I1) (u := fun k => sRow0 w lv (201 + 122 * w 0 + k)) (g := fun k => sRow0 w lv (261 + 122 * w 0 + k)) (fun k k0 k1 => by unfold sRow0; exact if_pos (by omega))).heap2 (upF_nk _ _ _ _ (by omega))) (upF_at _ _ _ _) (by rw [upF_nk _ _ _ _ (by omega)]; exact fWipe_at.2.2) (fun b hb => by rw [upF_na _ _ _ _ hb]; exact fWipe_na hb) (fun b b1 b2 => iWipe_na ⟨b1, b2⟩) (by omega))
    · exfalso; omega

