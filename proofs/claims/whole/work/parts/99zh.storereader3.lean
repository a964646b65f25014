theorem dX9_readLine_0 : decode cX9_readLine 0 = .ok (.aload_n 0, 1) := by decide +kernel
theorem dX9_readLine_1 : decode cX9_readLine 1 = .ok (.getfield 9, 3) := by decide +kernel
theorem dX9_readLine_4 : decode cX9_readLine 4 = .ok (.bipush 13, 2) := by decide +kernel
theorem dX9_readLine_6 : decode cX9_readLine 6 = .ok (.invokevirtual 22, 3) := by decide +kernel
theorem dX9_readLine_9 : decode cX9_readLine 9 = .ok (.ifCond .eq 9, 3) := by decide +kernel
theorem dX9_readLine_12 : decode cX9_readLine 12 = .ok (.aload_n 0, 1) := by decide +kernel
theorem dX9_readLine_13 : decode cX9_readLine 13 = .ok (.aload_n 1, 1) := by decide +kernel
theorem dX9_readLine_14 : decode cX9_readLine 14 = .ok (.invokevirtual 49, 3) := by decide +kernel
theorem dX9_readLine_17 : decode cX9_readLine 17 = .ok (.ireturn, 1) := by decide +kernel
theorem dX9_readLine_18 : decode cX9_readLine 18 = .ok (.aload_n 0, 1) := by decide +kernel
theorem dX9_readLine_19 : decode cX9_readLine 19 = .ok (.getfield 9, 3) := by decide +kernel
theorem dX9_readLine_22 : decode cX9_readLine 22 = .ok (.iconst 4, 1) := by decide +kernel
theorem dX9_readLine_23 : decode cX9_readLine 23 = .ok (.invokevirtual 52, 3) := by decide +kernel
theorem dX9_readLine_26 : decode cX9_readLine 26 = .ok (.ifCond .eq 29, 3) := by decide +kernel
theorem dX9_readLine_29 : decode cX9_readLine 29 = .ok (.aload_n 0, 1) := by decide +kernel
theorem dX9_readLine_30 : decode cX9_readLine 30 = .ok (.bipush 12, 2) := by decide +kernel
theorem dX9_readLine_32 : decode cX9_readLine 32 = .ok (.iconst 0, 1) := by decide +kernel
theorem dX9_readLine_33 : decode cX9_readLine 33 = .ok (.invokevirtual 55, 3) := by decide +kernel
theorem dX9_readLine_36 : decode cX9_readLine 36 = .ok (.istore_n 2, 1) := by decide +kernel
theorem dX9_readLine_37 : decode cX9_readLine 37 = .ok (.aload_n 0, 1) := by decide +kernel
theorem dX9_readLine_38 : decode cX9_readLine 38 = .ok (.iload_n 2, 1) := by decide +kernel
theorem dX9_readLine_39 : decode cX9_readLine 39 = .ok (.ifCond .eq 10, 3) := by decide +kernel
theorem dX9_readLine_42 : decode cX9_readLine 42 = .ok (.aload_n 0, 1) := by decide +kernel
theorem dX9_readLine_43 : decode cX9_readLine 43 = .ok (.getfield 59, 3) := by decide +kernel
theorem dX9_readLine_46 : decode cX9_readLine 46 = .ok (.goto 4, 3) := by decide +kernel
theorem dX9_readLine_49 : decode cX9_readLine 49 = .ok (.iconst 0, 1) := by decide +kernel
theorem dX9_readLine_50 : decode cX9_readLine 50 = .ok (.putfield 28, 3) := by decide +kernel
theorem dX9_readLine_53 : decode cX9_readLine 53 = .ok (.iload_n 2, 1) := by decide +kernel
theorem dX9_readLine_54 : decode cX9_readLine 54 = .ok (.ireturn, 1) := by decide +kernel
theorem dX9_readLine_55 : decode cX9_readLine 55 = .ok (.aload_n 0, 1) := by decide +kernel
theorem dX9_readLine_56 : decode cX9_readLine 56 = .ok (.getfield 9, 3) := by decide +kernel
theorem dX9_readLine_59 : decode cX9_readLine 59 = .ok (.bipush 8, 2) := by decide +kernel
theorem dX9_readLine_61 : decode cX9_readLine 61 = .ok (.invokevirtual 52, 3) := by decide +kernel
theorem dX9_readLine_64 : decode cX9_readLine 64 = .ok (.ifCond .eq 10, 3) := by decide +kernel
theorem dX9_readLine_67 : decode cX9_readLine 67 = .ok (.aload_n 1, 1) := by decide +kernel
theorem dX9_readLine_68 : decode cX9_readLine 68 = .ok (.iconst 0, 1) := by decide +kernel
theorem dX9_readLine_69 : decode cX9_readLine 69 = .ok (.invokevirtual 62, 3) := by decide +kernel
theorem dX9_readLine_72 : decode cX9_readLine 72 = .ok (.iconst 1, 1) := by decide +kernel
theorem dX9_readLine_73 : decode cX9_readLine 73 = .ok (.ireturn, 1) := by decide +kernel
theorem dX9_readLine_74 : decode cX9_readLine 74 = .ok (.aload_n 0, 1) := by decide +kernel
theorem dX9_readLine_75 : decode cX9_readLine 75 = .ok (.getfield 9, 3) := by decide +kernel
theorem dX9_readLine_78 : decode cX9_readLine 78 = .ok (.bipush 16, 2) := by decide +kernel
theorem dX9_readLine_80 : decode cX9_readLine 80 = .ok (.invokevirtual 52, 3) := by decide +kernel
theorem dX9_readLine_83 : decode cX9_readLine 83 = .ok (.ifCond .eq 10, 3) := by decide +kernel
theorem dX9_readLine_86 : decode cX9_readLine 86 = .ok (.aload_n 1, 1) := by decide +kernel
theorem dX9_readLine_87 : decode cX9_readLine 87 = .ok (.iconst 1, 1) := by decide +kernel
theorem dX9_readLine_88 : decode cX9_readLine 88 = .ok (.invokevirtual 62, 3) := by decide +kernel
theorem dX9_readLine_91 : decode cX9_readLine 91 = .ok (.iconst 1, 1) := by decide +kernel
theorem dX9_readLine_92 : decode cX9_readLine 92 = .ok (.ireturn, 1) := by decide +kernel
theorem dX9_readLine_93 : decode cX9_readLine 93 = .ok (.aload_n 0, 1) := by decide +kernel
theorem dX9_readLine_94 : decode cX9_readLine 94 = .ok (.aload_n 1, 1) := by decide +kernel
theorem dX9_readLine_95 : decode cX9_readLine 95 = .ok (.invokevirtual 66, 3) := by decide +kernel
theorem dX9_readLine_98 : decode cX9_readLine 98 = .ok (.ireturn, 1) := by decide +kernel
theorem dX9_readInto_0 : decode cX9_readInto 0 = .ok (.aload_n 0, 1) := by decide +kernel
theorem dX9_readInto_1 : decode cX9_readInto 1 = .ok (.getfield 9, 3) := by decide +kernel
theorem dX9_readInto_4 : decode cX9_readInto 4 = .ok (.bipush 52, 2) := by decide +kernel
theorem dX9_readInto_6 : decode cX9_readInto 6 = .ok (.invokevirtual 22, 3) := by decide +kernel
theorem dX9_readInto_9 : decode cX9_readInto 9 = .ok (.ifCond .eq 5, 3) := by decide +kernel
theorem dX9_readInto_12 : decode cX9_readInto 12 = .ok (.iconst 1, 1) := by decide +kernel
theorem dX9_readInto_13 : decode cX9_readInto 13 = .ok (.ireturn, 1) := by decide +kernel
theorem dX9_readInto_14 : decode cX9_readInto 14 = .ok (.iconst 0, 1) := by decide +kernel
theorem dX9_readInto_15 : decode cX9_readInto 15 = .ok (.istore_n 2, 1) := by decide +kernel
theorem dX9_readInto_16 : decode cX9_readInto 16 = .ok (.iload_n 2, 1) := by decide +kernel
theorem dX9_readInto_17 : decode cX9_readInto 17 = .ok (.bipush 14, 2) := by decide +kernel
theorem dX9_readInto_19 : decode cX9_readInto 19 = .ok (.if_icmp .ge 86, 3) := by decide +kernel
theorem dX9_readInto_22 : decode cX9_readInto 22 = .ok (.aload_n 0, 1) := by decide +kernel
theorem dX9_readInto_23 : decode cX9_readInto 23 = .ok (.iconst 0, 1) := by decide +kernel
theorem dX9_readInto_24 : decode cX9_readInto 24 = .ok (.putfield 28, 3) := by decide +kernel
theorem dX9_readInto_27 : decode cX9_readInto 27 = .ok (.aload_n 0, 1) := by decide +kernel
theorem dX9_readInto_28 : decode cX9_readInto 28 = .ok (.aload_n 1, 1) := by decide +kernel
theorem dX9_readInto_29 : decode cX9_readInto 29 = .ok (.invokevirtual 32, 3) := by decide +kernel
theorem dX9_readInto_32 : decode cX9_readInto 32 = .ok (.ifCond .ne 5, 3) := by decide +kernel
theorem dX9_readInto_35 : decode cX9_readInto 35 = .ok (.iconst 0, 1) := by decide +kernel
theorem dX9_readInto_36 : decode cX9_readInto 36 = .ok (.ireturn, 1) := by decide +kernel
theorem dX9_readInto_37 : decode cX9_readInto 37 = .ok (.iconst 0, 1) := by decide +kernel
theorem dX9_readInto_38 : decode cX9_readInto 38 = .ok (.istore_n 3, 1) := by decide +kernel
theorem dX9_readInto_39 : decode cX9_readInto 39 = .ok (.iload_n 3, 1) := by decide +kernel
theorem dX9_readInto_40 : decode cX9_readInto 40 = .ok (.aload_n 0, 1) := by decide +kernel
theorem dX9_readInto_41 : decode cX9_readInto 41 = .ok (.getfield 28, 3) := by decide +kernel
theorem dX9_readInto_44 : decode cX9_readInto 44 = .ok (.if_icmp .ge 26, 3) := by decide +kernel
theorem dX9_readInto_47 : decode cX9_readInto 47 = .ok (.aload_n 1, 1) := by decide +kernel
theorem dX9_readInto_48 : decode cX9_readInto 48 = .ok (.aload_n 0, 1) := by decide +kernel
theorem dX9_readInto_49 : decode cX9_readInto 49 = .ok (.getfield 15, 3) := by decide +kernel
theorem dX9_readInto_52 : decode cX9_readInto 52 = .ok (.iload_n 3, 1) := by decide +kernel
theorem dX9_readInto_53 : decode cX9_readInto 53 = .ok (.iaload, 1) := by decide +kernel
theorem dX9_readInto_54 : decode cX9_readInto 54 = .ok (.aload_n 0, 1) := by decide +kernel
theorem dX9_readInto_55 : decode cX9_readInto 55 = .ok (.getfield 19, 3) := by decide +kernel
theorem dX9_readInto_58 : decode cX9_readInto 58 = .ok (.iload_n 3, 1) := by decide +kernel
theorem dX9_readInto_59 : decode cX9_readInto 59 = .ok (.iaload, 1) := by decide +kernel
theorem dX9_readInto_60 : decode cX9_readInto 60 = .ok (.invokevirtual 36, 3) := by decide +kernel
theorem dX9_readInto_63 : decode cX9_readInto 63 = .ok (.pop, 1) := by decide +kernel
theorem dX9_readInto_64 : decode cX9_readInto 64 = .ok (.iinc 3 1, 3) := by decide +kernel
theorem dX9_readInto_67 : decode cX9_readInto 67 = .ok (.goto (-28), 3) := by decide +kernel
theorem dX9_readInto_70 : decode cX9_readInto 70 = .ok (.aload_n 0, 1) := by decide +kernel
theorem dX9_readInto_71 : decode cX9_readInto 71 = .ok (.getfield 9, 3) := by decide +kernel
theorem dX9_readInto_74 : decode cX9_readInto 74 = .ok (.bipush 52, 2) := by decide +kernel
theorem dX9_readInto_76 : decode cX9_readInto 76 = .ok (.invokevirtual 22, 3) := by decide +kernel
theorem dX9_readInto_79 : decode cX9_readInto 79 = .ok (.ifCond .eq 5, 3) := by decide +kernel
theorem dX9_readInto_82 : decode cX9_readInto 82 = .ok (.iconst 1, 1) := by decide +kernel
theorem dX9_readInto_83 : decode cX9_readInto 83 = .ok (.ireturn, 1) := by decide +kernel
theorem dX9_readInto_84 : decode cX9_readInto 84 = .ok (.aload_n 0, 1) := by decide +kernel
theorem dX9_readInto_85 : decode cX9_readInto 85 = .ok (.getfield 9, 3) := by decide +kernel
theorem dX9_readInto_88 : decode cX9_readInto 88 = .ok (.sipush 159, 3) := by decide +kernel
theorem dX9_readInto_91 : decode cX9_readInto 91 = .ok (.invokevirtual 42, 3) := by decide +kernel
theorem dX9_readInto_94 : decode cX9_readInto 94 = .ok (.ifCond .ne 5, 3) := by decide +kernel
theorem dX9_readInto_97 : decode cX9_readInto 97 = .ok (.iconst 0, 1) := by decide +kernel
theorem dX9_readInto_98 : decode cX9_readInto 98 = .ok (.ireturn, 1) := by decide +kernel
theorem dX9_readInto_99 : decode cX9_readInto 99 = .ok (.iinc 2 1, 3) := by decide +kernel
theorem dX9_readInto_102 : decode cX9_readInto 102 = .ok (.goto (-86), 3) := by decide +kernel
theorem dX9_readInto_105 : decode cX9_readInto 105 = .ok (.aload_n 0, 1) := by decide +kernel
theorem dX9_readInto_106 : decode cX9_readInto 106 = .ok (.getfield 9, 3) := by decide +kernel
theorem dX9_readInto_109 : decode cX9_readInto 109 = .ok (.invokevirtual 45, 3) := by decide +kernel
theorem dX9_readInto_112 : decode cX9_readInto 112 = .ok (.ireturn, 1) := by decide +kernel
set_option maxHeartbeats 4000000 in
set_option maxRecDepth 100000 in
theorem ct_X9_readRun {E : xE} {z : Nat} {T : Nat → Nat × Int} {F : Nat → Nat → Int} {I : Nat → Int → Int} {P : Nat → Nat → Option Nat} {Y : Nat → Int → Option Nat} {s N : Nat} {t : Int → Int} {e : Int} (hs : wScn T P s) (ht4 : ∀ j : Int, 0 ≤ j → j < 400 → 0 ≤ t j ∧ t j ≤ 255) (he : 0 ≤ e ∧ e ≤ 400) {i : Nat} {q : Int} (hA : cAt t e F I s N i q) {r : Nat} (hr : wSrd T P r s) (hsr : s + 4 ≤ r) (hrg : pRg I r) {a : Nat} {w : Int → Int} (hS : SR T F I P Y a w) (hI : wI2 w) (hD : cFar a s r P) (hk13 : zK t e q = 13) : Ct E 3 mX9_readRun 0 0 [.ref r, .ref a] (z, T, F, I, P, Y) (cSt z T F I P Y t e a s r N w (gRun t e q w)) := by
  obtain ⟨r0, r1, ⟨ra1, ra2, ra3⟩, rb1, rb2, rb3⟩ := id hr
  have s0 := hs.1
  have hq0 := hA.q0 he.1
  obtain ⟨d1, d2, d3⟩ := id hD
  obtain ⟨g1, g2, ⟨π, g3⟩, g4, g5⟩ := id hS
  have st0 := g3.1.1.1.1
  have hw0 : F a 1 = w 0 := g3.2.1.1.1
  have o0 := g1.1.2.1
  have hold := sOld0_b hI
  refine Ct.of [some (.ref r), some (.ref a), none] kt_X9_readRun rfl (Nat.le_of_ble_eq_true rfl) rfl (fun d hd => ?_)
  generalize hX : xN E _ _ _ = X
  refine xg_aloadn 1 dX9_readRun_0 rfl rfl rfl ?_
  refine xg_getI 4 kf_RX9_85 dX9_readRun_1 rfl st0 ?_
  rw [hw0]
  refine xg_bipush 6 dX9_readRun_4 rfl (by decide) ?_
  refine xg_iclt 17 9 dX9_readRun_6 rfl rfl (by omega) (fun hb6 => ?_) (fun hb6 => ?_)
  · skip
    refine xg_aloadn 18 dX9_readRun_17 rfl rfl rfl ?_
    refine xg_getP 21 kf_RX9_9 dX9_readRun_18 rfl r0 r1 ?_
    refine xg_bipush 23 dX9_readRun_21 rfl (by decide) ?_
    refine xg_callV 26 7 [_] _ kv_X7_takes ⟨_, _, rfl⟩ kl_RX9_52 dX9_readRun_23 rfl (by assumption) (by omega) rfl rfl (Nat.le_of_ble_eq_true rfl) (by omega) ⟨Nat.le_refl _, Nat.le_refl _⟩ (c0_takes hs ht4 he hA (k := 13) (by omega)) rfl ?_
    rw [if_pos hk13]
    have hx1 := zX_b (t := t) (zK_lt (t := t) (e := e) (q := q) (by omega))
    have hA1 := hA.nx (by omega)
    refine xg_pop 27 dX9_readRun_26 rfl rfl ?_
    refine xg_aloadn 28 dX9_readRun_27 rfl rfl rfl ?_
    refine xg_getP 31 kf_RX9_9 dX9_readRun_28 rfl r0 r1 ?_
    refine xg_iconst 32 dX9_readRun_31 rfl ?_
    refine xg_callV 35 7 [_] _ kv_X7_needs ⟨_, _, rfl⟩ kl_RX9_42 dX9_readRun_32 rfl (by assumption) (by omega) rfl rfl (Nat.le_of_ble_eq_true rfl) (by omega) ⟨Nat.le_refl _, Nat.le_refl _⟩ (c0_needs hs ht4 he hA1 (k := 0) (by omega)) rfl ?_
    refine xg_dne 40 38 dX9_readRun_35 rfl rfl (fun hb35 => ?_) (fun hb35 => ?_)
    · rw [if_pos hb35]
      have hx2 := zX_b (t := t) (zK_lt (t := t) (e := e) (q := zX t e q) (by omega))
      have hA2 := hA1.nx (by omega)
      have hS2 : SR T (upF (upF F s 4 ((i + 1 : Nat) : Int)) s 4 ((i + 1 + 1 : Nat) : Int)) I P Y a w := hS.cf hD (fun b b1 b2 => by simp only [upF_na _ _ _ _ b1]) (fun _ _ _ => rfl)
      refine xg_aloadn 41 dX9_readRun_40 rfl rfl rfl ?_
      refine xg_getP 44 kf_RX9_9 dX9_readRun_41 rfl r0 r1 ?_
      refine xg_aloadn 45 dX9_readRun_44 rfl rfl rfl ?_
      refine xg_callV 48 8 [] _ kv_X8_oldestLevel ⟨_, _, rfl⟩ kl_RX9_88 dX9_readRun_45 rfl (by assumption) (by omega) rfl rfl (Nat.le_of_ble_eq_true rfl) (by omega) ⟨Nat.le_refl _, Nat.le_refl _⟩ (ct_X8_oldestLevel hS2) rfl ?_
      rw [show (if w 0 = 0 then 0 else w (199 + 122 * (w 0 - 1))) = sOld0 w from rfl]
      refine xg_iconst 49 dX9_readRun_48 rfl ?_
      by_cases h2 : zK t e (zX t e (zX t e q)) = 51 ∧ sOld0 w ≤ zNm t e (zX t e (zX t e q)) ∧ zNm t e (zX t e (zX t e q)) ≤ 3
      · have hx3 := zX_b (t := t) (zK_lt (t := t) (e := e) (q := zX t e (zX t e q)) (by omega))
        have hA3 := hA2.nx (by omega)
        refine xg_callV 52 7 [_, _] _ kv_X7_needsNumber ⟨_, _, rfl⟩ kl_RX9_69 dX9_readRun_49 rfl (by assumption) (by omega) rfl rfl (Nat.le_of_ble_eq_true rfl) (by omega) ⟨Nat.le_refl _, Nat.le_refl _⟩ (c0_needsNumber hs ht4 he hA2 (lo := sOld0 w) (hi9 := 3) (by omega)) rfl ?_
        rw [if_pos h2, show zNb0 t e (zX t e (zX t e q)) (sOld0 w) 3 = (zNm t e (zX t e (zX t e q))) from if_pos h2]
        refine xg_istoren 53 _ dX9_readRun_52 rfl rfl rfl (by decide) (Or.inr rfl) ?_
        refine xg_iloadn 54 dX9_readRun_53 rfl rfl rfl ?_
        refine xg_iconst 55 dX9_readRun_54 rfl ?_
        refine xg_iceq 80 58 dX9_readRun_55 rfl rfl (by omega) (fun hb55 => ?_) (fun hb55 => ?_)
        · exfalso; omega
        · skip
          refine xg_aloadn 59 dX9_readRun_58 rfl rfl rfl ?_
          refine xg_getP 62 kf_RX9_9 dX9_readRun_59 rfl r0 r1 ?_
          refine xg_bipush 64 dX9_readRun_62 rfl (by decide) ?_
          refine xg_callV 67 7 [_] _ kv_X7_needs ⟨_, _, rfl⟩ kl_RX9_42 dX9_readRun_64 rfl (by assumption) (by omega) rfl rfl (Nat.le_of_ble_eq_true rfl) (by omega) ⟨Nat.le_refl _, Nat.le_refl _⟩ (c0_needs hs ht4 he hA3 (k := 14) (by omega)) rfl ?_
          refine xg_deq 80 70 dX9_readRun_67 rfl rfl (fun hb67 => ?_) (fun hb67 => ?_)
          · rw [if_neg hb67]
            refine xg_iconst 81 dX9_readRun_80 rfl ?_
            subst hX
            refine xg_zreturn dX9_readRun_81 rfl (by first | exact bI_01 _ | omega) ⟨Nat.le_refl _, Nat.le_refl _⟩ ?_
            have hSB : SR T (upF (upF (upF (upF F s 4 ((i + 1 : Nat) : Int)) s 4 ((i + 1 + 1 : Nat) : Int)) s 4 ((i + 1 + 1 + 1 : Nat) : Int)) s 5 (zX t e (zX t e (zX t e q)))) I P Y a w := hS.cf hD (fun b b1 b2 => by simp only [upF_na _ _ _ _ b1]) (fun _ _ _ => rfl)
            have hCB : dFr a s r F I P Y (upF (upF (upF (upF F s 4 ((i + 1 : Nat) : Int)) s 4 ((i + 1 + 1 : Nat) : Int)) s 4 ((i + 1 + 1 + 1 : Nat) : Int)) s 5 (zX t e (zX t e (zX t e q)))) I P Y := dFr.of (fun b b1 b2 => by simp only [upF_na _ _ _ _ b1]) (fun _ _ _ => rfl)
            rw [gRun_4 (by omega) (by omega) h2 (by omega)]
            exact ⟨rfl, _, _, _, _, upF_at _ _ _ _, hrg, hSB, hCB, rfl⟩
          · rw [if_pos hb67]
            have hx4 := zX_b (t := t) (zK_lt (t := t) (e := e) (q := zX t e (zX t e (zX t e q))) (by omega))
            have hA4 := hA3.nx (by omega)
            refine xg_aloadn 71 dX9_readRun_70 rfl rfl rfl ?_
            refine xg_bipush 73 dX9_readRun_71 rfl (by decide) ?_
            refine xg_iconst 74 dX9_readRun_73 rfl ?_
            rcases hs6 : gPr t e true 20 (zX t e (zX t e (zX t e (zX t e q)))) 0 [] with f6 | ⟨ps6, q6⟩
            · skip
              refine xg_callVe 77 9 [_, _] _ kv_X9_readPairs ⟨_, _, rfl⟩ kl_RX9_55 dX9_readRun_74 rfl (by assumption) (by omega) rfl rfl (Nat.le_of_ble_eq_true rfl) (by omega) ⟨Nat.le_refl _, Nat.le_refl _⟩ (cPrs.cg hs6 (ct_X9_readPairs hs ht4 he hA4 hr hsr hrg (mo := 20) (ri := true) (by decide))) rfl (fun v9 h9 e9 => ?_)
              obtain ⟨rfl, F6, I6, hf6, hR6, hF6, hI6, rfl⟩ := e9
              refine xg_ifne 82 80 dX9_readRun_77 rfl rfl (by omega) (fun hb77 => ?_) (fun hb77 => ?_)
              · exfalso; omega
              · skip
                refine xg_iconst 81 dX9_readRun_80 rfl ?_
                subst hX
                refine xg_zreturn dX9_readRun_81 rfl (by first | exact bI_01 _ | omega) ⟨Nat.le_refl _, Nat.le_refl _⟩ ?_
                rw [gRun_5 (by omega) (by omega) h2 (by omega) hs6]
                have hF7 : ∀ b : Nat, b ≠ s → b ≠ r → F6 b = F b := fun b b1 b2 => by rw [hF6 b b1 b2]; simp only [upF_na _ _ _ _ b1]
                exact ⟨rfl, _, _, _, _, hf6, hR6, hS.cf hD hF7 hI6, dFr.of hF7 hI6, rfl⟩
            · have hok6 := gPr_ok 20 hs6 (Int.le_refl 0) psOk.nil
              obtain ⟨c1, c2, c3, c4, c5⟩ := hok6
              have c6 : 0 < ps6.length := c4
              have c7 : ps6.length ≤ 0 + 20 := c5
              refine xg_callVe 77 9 [_, _] _ kv_X9_readPairs ⟨_, _, rfl⟩ kl_RX9_55 dX9_readRun_74 rfl (by assumption) (by omega) rfl rfl (Nat.le_of_ble_eq_true rfl) (by omega) ⟨Nat.le_refl _, Nat.le_refl _⟩ (cPrs.cg hs6 (ct_X9_readPairs hs ht4 he hA4 hr hsr hrg (mo := 20) (ri := true) (by decide))) rfl (fun v9 h9 e9 => ?_)
              obtain ⟨rfl, F6, I6, i6, hA6, hR6, hH6, hn6, hw6, hF6, hI6, rfl⟩ := e9
              refine xg_ifne 82 80 dX9_readRun_77 rfl rfl (by omega) (fun hb77 => ?_) (fun hb77 => ?_)
              · skip
                refine xg_aloadn 83 dX9_readRun_82 rfl rfl rfl ?_
                refine xg_iloadn 84 dX9_readRun_83 rfl rfl rfl ?_
                refine xg_aloadn 85 dX9_readRun_84 rfl rfl rfl ?_
                refine xg_getP 88 kf_RX9_15 dX9_readRun_85 rfl r0 ra1 ?_
                refine xg_aloadn 89 dX9_readRun_88 rfl rfl rfl ?_
                refine xg_getP 92 kf_RX9_19 dX9_readRun_89 rfl r0 rb1 ?_
                refine xg_aloadn 93 dX9_readRun_92 rfl rfl rfl ?_
                refine xg_getI 96 kf_RX9_59 dX9_readRun_93 rfl r0 ?_
                rw [hn6]
                have hF7 : ∀ b : Nat, b ≠ s → b ≠ r → F6 b = F b := fun b b1 b2 => by rw [hF6 b b1 b2]; simp only [upF_na _ _ _ _ b1]
                have hS6 : SR T F6 I6 P Y a w := hS.cf hD hF7 hI6
                have hC6 : dFr a s r F I P Y F6 I6 P Y := dFr.of hF7 hI6
                refine xg_callVq 99 8 [_, _, _, _] _ kv_X8_addRun ⟨_, _, rfl⟩ kl_RX9_92 dX9_readRun_96 rfl (by assumption) (by omega) rfl rfl (Nat.le_of_ble_eq_true rfl) (by omega) ⟨Nat.le_refl _, Nat.le_refl _⟩ (ct_X8_addRun hS6 hI.1 (kA := r + 1) (vA := r + 2) (n := ps6.length) (by omega) (by omega) ⟨⟨ra2, ra3⟩, rb2, rb3⟩ ⟨by omega, by omega, fun l hl => by have := d3 l hl; omega⟩ ⟨c6, by omega⟩ (fun i => (hR6 i).1) (fun i => (hR6 i).2)) rfl (fun Fk1 Ik1 Pk1 Yk1 hSk1 hFk1 => ?_)
                refine xg_iconst 100 dX9_readRun_99 rfl ?_
                subst hX
                refine xg_zreturn dX9_readRun_100 rfl (by first | exact bI_01 _ | omega) ⟨Nat.le_refl _, Nat.le_refl _⟩ ?_
                rw [gRun_6 (by omega) (by omega) h2 (by omega) hs6]
                rw [sAdd_cg (k2 := kOf ps6) (v2 := vOf ps6) (fun i hi => hH6 i hi)] at hSk1
                exact ⟨rfl, _, _, _, _, _, hA6.sf hFk1 hD, hR6.fr (hFk1.r1 hD) (hFk1.r2 hD), by rw [hFk1.r0 hD, hw6]; simp only [upF_na _ _ _ _ (show r ≠ s by omega)], hSk1, hC6.tr hFk1.c, rfl⟩
              · exfalso; omega
      · skip
        refine xg_callV 52 7 [_, _] _ kv_X7_needsNumber ⟨_, _, rfl⟩ kl_RX9_69 dX9_readRun_49 rfl (by assumption) (by omega) rfl rfl (Nat.le_of_ble_eq_true rfl) (by omega) ⟨Nat.le_refl _, Nat.le_refl _⟩ (c0_needsNumber hs ht4 he hA2 (lo := sOld0 w) (hi9 := 3) (by omega)) rfl ?_
        rw [if_neg h2, show zNb0 t e (zX t e (zX t e q)) (sOld0 w) 3 = -1 from if_neg h2]
        refine xg_istoren 53 _ dX9_readRun_52 rfl rfl rfl (by decide) (Or.inr rfl) ?_
        refine xg_iloadn 54 dX9_readRun_53 rfl rfl rfl ?_
        refine xg_iconst 55 dX9_readRun_54 rfl ?_
        refine xg_iceq 80 58 dX9_readRun_55 rfl rfl (by omega) (fun hb55 => ?_) (fun hb55 => ?_)
        · skip
          refine xg_iconst 81 dX9_readRun_80 rfl ?_
          subst hX
          refine xg_zreturn dX9_readRun_81 rfl (by first | exact bI_01 _ | omega) ⟨Nat.le_refl _, Nat.le_refl _⟩ ?_
          have hSB : SR T (upF (upF (upF F s 4 ((i + 1 : Nat) : Int)) s 4 ((i + 1 + 1 : Nat) : Int)) s 5 (zX t e (zX t e q))) I P Y a w := hS.cf hD (fun b b1 b2 => by simp only [upF_na _ _ _ _ b1]) (fun _ _ _ => rfl)
          have hCB : dFr a s r F I P Y (upF (upF (upF F s 4 ((i + 1 : Nat) : Int)) s 4 ((i + 1 + 1 : Nat) : Int)) s 5 (zX t e (zX t e q))) I P Y := dFr.of (fun b b1 b2 => by simp only [upF_na _ _ _ _ b1]) (fun _ _ _ => rfl)
          rw [gRun_3 (by omega) (by omega) h2]
          exact ⟨rfl, _, _, _, _, upF_at _ _ _ _, hrg, hSB, hCB, rfl⟩
        · exfalso; omega
    · rw [if_neg hb35]
      refine xg_iconst 39 dX9_readRun_38 rfl ?_
      subst hX
      refine xg_zreturn dX9_readRun_39 rfl (by first | exact bI_01 _ | omega) ⟨Nat.le_refl _, Nat.le_refl _⟩ ?_
      have hSB : SR T (upF (upF F s 4 ((i + 1 : Nat) : Int)) s 5 (zX t e q)) I P Y a w := hS.cf hD (fun b b1 b2 => by simp only [upF_na _ _ _ _ b1]) (fun _ _ _ => rfl)
      have hCB : dFr a s r F I P Y (upF (upF F s 4 ((i + 1 : Nat) : Int)) s 5 (zX t e q)) I P Y := dFr.of (fun b b1 b2 => by simp only [upF_na _ _ _ _ b1]) (fun _ _ _ => rfl)
      rw [gRun_2 (by omega) (by omega)]
      exact ⟨rfl, _, _, _, _, upF_at _ _ _ _, hrg, hSB, hCB, rfl⟩
  · skip
    refine xg_aloadn 10 dX9_readRun_9 rfl rfl rfl ?_
    refine xg_getP 13 kf_RX9_9 dX9_readRun_10 rfl r0 r1 ?_
    refine xg_callV 16 7 [] _ kv_X7_fail ⟨_, _, rfl⟩ kl_RX9_45 dX9_readRun_13 rfl (by assumption) (by omega) rfl rfl (Nat.le_of_ble_eq_true rfl) (by omega) ⟨Nat.le_refl _, Nat.le_refl _⟩ (c0_fail hs ht4 he hA) rfl ?_
    subst hX
    refine xg_zreturn dX9_readRun_16 rfl (by first | exact bI_01 _ | omega) ⟨Nat.le_refl _, Nat.le_refl _⟩ ?_
    rw [gRun_1 (by omega)]
    exact ⟨rfl, _, _, _, _, upF_at _ _ _ _, hrg, hS.cf hD (fun b b1 b2 => upF_na _ _ _ _ b1) (fun _ _ _ => rfl), dFr.of (fun b b1 b2 => upF_na _ _ _ _ b1) (fun _ _ _ => rfl), rfl⟩

def cLn (z : Nat) (T : Nat → Nat × Int) (F : Nat → Nat → Int) (I : Nat → Int → Int) (P : Nat → Nat → Option Nat) (Y : Nat → Int → Option Nat) (t : Int → Int) (e : Int) (a s r N : Nat) (w : Int → Int) : gSz → Option Value → xH → Prop
  | .inl f => fun v h' => v = some (J 0) ∧ ∃ (F' : Nat → Nat → Int) (I' : Nat → Int → Int) (P' : Nat → Nat → Option Nat) (Y' : Nat → Int → Option Nat), F' s 5 = f ∧ pRg I' r ∧ SR T F' I' P' Y' a w ∧ dFr a s r F I P Y F' I' P' Y' ∧ h' = (z, T, F', I', P', Y')
  | .inr (w', q') => fun v h' => v = some (J 1) ∧ ∃ (F' : Nat → Nat → Int) (I' : Nat → Int → Int) (P' : Nat → Nat → Option Nat) (Y' : Nat → Int → Option Nat) (i' : Nat) (w1 : Int → Int) (ps : List (Int × Int)), cAt t e F' I' s N i' q' ∧ pRg I' r ∧ pHo I' r ps ∧ F' r 4 = (ps.length : Int) ∧ ps.length ≤ 20 ∧ psOk ps ∧ SR T F' I' P' Y' a w1 ∧ wI2 w1 ∧ w' = sWrs w1 ps ∧ dFr a s r F I P Y F' I' P' Y' ∧ h' = (z, T, F', I', P', Y')
theorem cLn.cg {E : xE} {z kk : Nat} {T : Nat → Nat × Int} {F : Nat → Nat → Int} {I : Nat → Int → Int} {P : Nat → Nat → Option Nat} {Y : Nat → Int → Option Nat} {t : Int → Int} {e : Int} {a s r N : Nat} {w : Int → Int} {M : xM} {As : List Value} {hh : xH} {x y : gSz} (h : x = y) (ct : Ct E kk M 0 0 As hh (cLn z T F I P Y t e a s r N w x)) : Ct E kk M 0 0 As hh (cLn z T F I P Y t e a s r N w y) := h ▸ ct
set_option maxHeartbeats 4000000 in
set_option maxRecDepth 100000 in
theorem ct_X9_readLine {E : xE} {z : Nat} {T : Nat → Nat × Int} {F : Nat → Nat → Int} {I : Nat → Int → Int} {P : Nat → Nat → Option Nat} {Y : Nat → Int → Option Nat} {s N : Nat} {t : Int → Int} {e : Int} (hs : wScn T P s) (ht4 : ∀ j : Int, 0 ≤ j → j < 400 → 0 ≤ t j ∧ t j ≤ 255) (he : 0 ≤ e ∧ e ≤ 400) {i : Nat} {q : Int} (hA : cAt t e F I s N i q) {r : Nat} (hr : wSrd T P r s) (hsr : s + 4 ≤ r) (hrg : pRg I r) {a : Nat} {w : Int → Int} (hS : SR T F I P Y a w) (hI : wI2 w) (hD : cFar a s r P) (h4 : F r 4 = 0) : Ct E 4 mX9_readLine 0 0 [.ref r, .ref a] (z, T, F, I, P, Y) (cLn z T F I P Y t e a s r N w (gSLn t e q w)) := by
  obtain ⟨r0, r1, ⟨ra1, ra2, ra3⟩, rb1, rb2, rb3⟩ := id hr
  have s0 := hs.1
  have hq0 := hA.q0 he.1
  obtain ⟨d1, d2, d3⟩ := id hD
  obtain ⟨g1, g2, ⟨π, g3⟩, g4, g5⟩ := id hS
  have st0 := g3.1.1.1.1
  have hw0 : F a 1 = w 0 := g3.2.1.1.1
  have o0 := g1.1.2.1
  refine Ct.of [some (.ref r), some (.ref a), none] kt_X9_readLine rfl (Nat.le_of_ble_eq_true rfl) rfl (fun d hd => ?_)
  generalize hX : xN E _ _ _ = X
  refine xg_aloadn 1 dX9_readLine_0 rfl rfl rfl ?_
  refine xg_getP 4 kf_RX9_9 dX9_readLine_1 rfl r0 r1 ?_
  refine xg_bipush 6 dX9_readLine_4 rfl (by decide) ?_
  refine xg_callV 9 7 [_] _ kv_X7_is ⟨_, _, rfl⟩ kl_RX9_22 dX9_readLine_6 rfl (by assumption) (by omega) rfl rfl (Nat.le_of_ble_eq_true rfl) (by omega) ⟨Nat.le_refl _, Nat.le_refl _⟩ (c0_is hs ht4 he hA (k := 13) (by omega)) rfl ?_
  refine xg_deq 18 12 dX9_readLine_9 rfl rfl (fun hb9 => ?_) (fun hb9 => ?_)
  · skip
    refine xg_aloadn 19 dX9_readLine_18 rfl rfl rfl ?_
    refine xg_getP 22 kf_RX9_9 dX9_readLine_19 rfl r0 r1 ?_
    refine xg_iconst 23 dX9_readLine_22 rfl ?_
    refine xg_callV 26 7 [_] _ kv_X7_takes ⟨_, _, rfl⟩ kl_RX9_52 dX9_readLine_23 rfl (by assumption) (by omega) rfl rfl (Nat.le_of_ble_eq_true rfl) (by omega) ⟨Nat.le_refl _, Nat.le_refl _⟩ (c0_takes hs ht4 he hA (k := 4) (by omega)) rfl ?_
    refine xg_deq 55 29 dX9_readLine_26 rfl rfl (fun hb26 => ?_) (fun hb26 => ?_)
    · rw [if_neg hb26]
      refine xg_aloadn 56 dX9_readLine_55 rfl rfl rfl ?_
      refine xg_getP 59 kf_RX9_9 dX9_readLine_56 rfl r0 r1 ?_
      refine xg_bipush 61 dX9_readLine_59 rfl (by decide) ?_
      refine xg_callV 64 7 [_] _ kv_X7_takes ⟨_, _, rfl⟩ kl_RX9_52 dX9_readLine_61 rfl (by assumption) (by omega) rfl rfl (Nat.le_of_ble_eq_true rfl) (by omega) ⟨Nat.le_refl _, Nat.le_refl _⟩ (c0_takes hs ht4 he hA (k := 8) (by omega)) rfl ?_
      refine xg_deq 74 67 dX9_readLine_64 rfl rfl (fun hb64 => ?_) (fun hb64 => ?_)
      · rw [if_neg hb64]
        refine xg_aloadn 75 dX9_readLine_74 rfl rfl rfl ?_
        refine xg_getP 78 kf_RX9_9 dX9_readLine_75 rfl r0 r1 ?_
        refine xg_bipush 80 dX9_readLine_78 rfl (by decide) ?_
        refine xg_callV 83 7 [_] _ kv_X7_takes ⟨_, _, rfl⟩ kl_RX9_52 dX9_readLine_80 rfl (by assumption) (by omega) rfl rfl (Nat.le_of_ble_eq_true rfl) (by omega) ⟨Nat.le_refl _, Nat.le_refl _⟩ (c0_takes hs ht4 he hA (k := 16) (by omega)) rfl ?_
        refine xg_deq 93 86 dX9_readLine_83 rfl rfl (fun hb83 => ?_) (fun hb83 => ?_)
        · rw [if_neg hb83]
          refine xg_aloadn 94 dX9_readLine_93 rfl rfl rfl ?_
          refine xg_aloadn 95 dX9_readLine_94 rfl rfl rfl ?_
          rcases hs3 : gSLn t e q w with f3 | ⟨w3, q3⟩
          · skip
            refine xg_callVe 98 9 [_] _ kv_X9_readSetting ⟨_, _, rfl⟩ kl_RX9_66 dX9_readLine_95 rfl (by assumption) (by omega) rfl rfl (Nat.le_of_ble_eq_true rfl) (by omega) ⟨Nat.le_refl _, Nat.le_refl _⟩ (cSt.cg hs3 (ct_X9_readSetting hs ht4 he hA hr hsr hrg hS hI hD (by omega))) rfl (fun v9 h9 e9 => ?_)
            obtain ⟨rfl, F3, I3, P3, Y3, hf3, hR3, hS3, hC3, rfl⟩ := e9
            subst hX
            refine xg_zreturn dX9_readLine_98 rfl (by first | exact bI_01 _ | omega) ⟨Nat.le_refl _, Nat.le_refl _⟩ ?_
            rw [hs3]
            exact ⟨rfl, _, _, _, _, hf3, hR3, hS3, hC3, rfl⟩
          · skip
            refine xg_callVe 98 9 [_] _ kv_X9_readSetting ⟨_, _, rfl⟩ kl_RX9_66 dX9_readLine_95 rfl (by assumption) (by omega) rfl rfl (Nat.le_of_ble_eq_true rfl) (by omega) ⟨Nat.le_refl _, Nat.le_refl _⟩ (cSt.cg hs3 (ct_X9_readSetting hs ht4 he hA hr hsr hrg hS hI hD (by omega))) rfl (fun v9 h9 e9 => ?_)
            obtain ⟨rfl, F3, I3, P3, Y3, i3, hA3, hR3, hn3, hS3, hC3, rfl⟩ := e9
            subst hX
            refine xg_zreturn dX9_readLine_98 rfl (by first | exact bI_01 _ | omega) ⟨Nat.le_refl _, Nat.le_refl _⟩ ?_
            rw [hs3]
            have hok := gSLn_ok (t := t) (e := e) (q := q) hI
            rw [hs3] at hok
            exact ⟨rfl, _, _, _, _, _, _, [], hA3, hR3, pHo.nil, hn3.trans h4, by decide, psOk.nil, hS3, hok.1, rfl, hC3, rfl⟩
        · rw [if_pos hb83]
          have hx1 := zX_b (t := t) (zK_lt (t := t) (e := e) (q := q) (by omega))
          have hA1 := hA.nx (by omega)
          have hS1 : SR T (upF F s 4 ((i + 1 : Nat) : Int)) I P Y a w := hS.cf hD (fun b b1 b2 => by rw [upF_na _ _ _ _ b1]) (fun _ _ _ => rfl)
          have hC1 : dFr a s r F I P Y (upF F s 4 ((i + 1 : Nat) : Int)) I P Y := dFr.of (fun b b1 b2 => by rw [upF_na _ _ _ _ b1]) (fun _ _ _ => rfl)
          refine xg_aloadn 87 dX9_readLine_86 rfl rfl rfl ?_
          refine xg_iconst 88 dX9_readLine_87 rfl ?_
          refine xg_callVq 91 8 [_] _ kv_X8_tellPlan ⟨_, _, rfl⟩ kl_RX9_62 dX9_readLine_88 rfl (by assumption) (by omega) rfl rfl (Nat.le_of_ble_eq_true rfl) (by omega) ⟨Nat.le_refl _, Nat.le_refl _⟩ (ct_X8_tellPlan hS1 hI.1 (v := 1) (by omega)) rfl (fun Fk2 Ik2 Pk2 Yk2 hSk2 hFk2 => ?_)
          refine xg_iconst 92 dX9_readLine_91 rfl ?_
          subst hX
          refine xg_zreturn dX9_readLine_92 rfl (by first | exact bI_01 _ | omega) ⟨Nat.le_refl _, Nat.le_refl _⟩ ?_
          have heq : gSLn t e q w = .inr (wS (sHalt w) 3 1, zX t e q) := by unfold gSLn; rw [if_neg (by omega), if_neg (by omega), if_neg (by omega), if_neg (by omega), if_neg (by omega), if_neg (by omega), if_pos (by omega)]
          have hok := gSLn_ok (t := t) (e := e) (q := q) hI
          rw [heq] at hok
          rw [heq]
          exact ⟨rfl, _, _, _, _, _, _, [], hA1.sf hFk2 hD, hrg.fr (hFk2.r1 hD) (hFk2.r2 hD), pHo.nil, by rw [hFk2.r0 hD, upF_na _ _ _ _ (by omega)]; exact h4, by decide, psOk.nil, hSk2, hok.1, rfl, hC1.tr hFk2.c, rfl⟩
      · rw [if_pos hb64]
        have hx1 := zX_b (t := t) (zK_lt (t := t) (e := e) (q := q) (by omega))
        have hA1 := hA.nx (by omega)
        have hS1 : SR T (upF F s 4 ((i + 1 : Nat) : Int)) I P Y a w := hS.cf hD (fun b b1 b2 => by rw [upF_na _ _ _ _ b1]) (fun _ _ _ => rfl)
        have hC1 : dFr a s r F I P Y (upF F s 4 ((i + 1 : Nat) : Int)) I P Y := dFr.of (fun b b1 b2 => by rw [upF_na _ _ _ _ b1]) (fun _ _ _ => rfl)
        refine xg_aloadn 68 dX9_readLine_67 rfl rfl rfl ?_
        refine xg_iconst 69 dX9_readLine_68 rfl ?_
        refine xg_callVq 72 8 [_] _ kv_X8_tellPlan ⟨_, _, rfl⟩ kl_RX9_62 dX9_readLine_69 rfl (by assumption) (by omega) rfl rfl (Nat.le_of_ble_eq_true rfl) (by omega) ⟨Nat.le_refl _, Nat.le_refl _⟩ (ct_X8_tellPlan hS1 hI.1 (v := 0) (by omega)) rfl (fun Fk1 Ik1 Pk1 Yk1 hSk1 hFk1 => ?_)
        refine xg_iconst 73 dX9_readLine_72 rfl ?_
        subst hX
        refine xg_zreturn dX9_readLine_73 rfl (by first | exact bI_01 _ | omega) ⟨Nat.le_refl _, Nat.le_refl _⟩ ?_
        have heq : gSLn t e q w = .inr (wS (sHalt w) 3 0, zX t e q) := by unfold gSLn; rw [if_neg (by omega), if_neg (by omega), if_neg (by omega), if_neg (by omega), if_neg (by omega), if_pos (by omega)]
        have hok := gSLn_ok (t := t) (e := e) (q := q) hI
        rw [heq] at hok
        rw [heq]
        exact ⟨rfl, _, _, _, _, _, _, [], hA1.sf hFk1 hD, hrg.fr (hFk1.r1 hD) (hFk1.r2 hD), pHo.nil, by rw [hFk1.r0 hD, upF_na _ _ _ _ (by omega)]; exact h4, by decide, psOk.nil, hSk1, hok.1, rfl, hC1.tr hFk1.c, rfl⟩
    · rw [if_pos hb26]
      have hx1 := zX_b (t := t) (zK_lt (t := t) (e := e) (q := q) (by omega))
      have hA1 := hA.nx (by omega)
      have hS1 : SR T (upF F s 4 ((i + 1 : Nat) : Int)) I P Y a w := hS.cf hD (fun b b1 b2 => by rw [upF_na _ _ _ _ b1]) (fun _ _ _ => rfl)
      have hC1 : dFr a s r F I P Y (upF F s 4 ((i + 1 : Nat) : Int)) I P Y := dFr.of (fun b b1 b2 => by rw [upF_na _ _ _ _ b1]) (fun _ _ _ => rfl)
      refine xg_aloadn 30 dX9_readLine_29 rfl rfl rfl ?_
      refine xg_bipush 32 dX9_readLine_30 rfl (by decide) ?_
      refine xg_iconst 33 dX9_readLine_32 rfl ?_
      rcases hs6 : gPr t e false 12 (zX t e q) 0 [] with f6 | ⟨ps6, q6⟩
      · skip
        refine xg_callVe 36 9 [_, _] _ kv_X9_readPairs ⟨_, _, rfl⟩ kl_RX9_55 dX9_readLine_33 rfl (by assumption) (by omega) rfl rfl (Nat.le_of_ble_eq_true rfl) (by omega) ⟨Nat.le_refl _, Nat.le_refl _⟩ (cPrs.cg hs6 (ct_X9_readPairs hs ht4 he hA1 hr hsr hrg (mo := 12) (ri := false) (by decide))) rfl (fun v9 h9 e9 => ?_)
        obtain ⟨rfl, F6, I6, hf6, hR6, hF6, hI6, rfl⟩ := e9
        refine xg_istoren 37 _ dX9_readLine_36 rfl rfl rfl (by decide) (Or.inr rfl) ?_
        refine xg_aloadn 38 dX9_readLine_37 rfl rfl rfl ?_
        refine xg_iloadn 39 dX9_readLine_38 rfl rfl rfl ?_
        refine xg_ifeq 49 42 dX9_readLine_39 rfl rfl (by omega) (fun hb39 => ?_) (fun hb39 => ?_)
        · skip
          refine xg_iconst 50 dX9_readLine_49 rfl ?_
          refine xg_putI 53 kf_RX9_28 dX9_readLine_50 rfl r0 ?_
          refine xg_iloadn 54 dX9_readLine_53 rfl rfl rfl ?_
          subst hX
          refine xg_zreturn dX9_readLine_54 rfl (by first | exact bI_01 _ | omega) ⟨Nat.le_refl _, Nat.le_refl _⟩ ?_
          have hF7 : ∀ b : Nat, b ≠ s → b ≠ r → upF F6 r 4 0 b = F b := fun b b1 b2 => by rw [upF_na _ _ _ _ b2, hF6 b b1 b2, upF_na _ _ _ _ b1]
          rw [show gSLn t e q w = .inl f6 from by unfold gSLn; rw [if_neg (by omega), if_pos (by omega)]; exact gTab_1 hs6]
          exact ⟨rfl, _, _, _, _, (by rw [upF_na _ _ _ _ (by omega)]; exact hf6), hR6, hS.cf hD hF7 hI6, dFr.of hF7 hI6, rfl⟩
        · exfalso; omega
      · have hok6 := gPr_ok 12 hs6 (Int.le_refl 0) psOk.nil
        obtain ⟨c1, c2, c3, c4, c5⟩ := hok6
        have c7 : ps6.length ≤ 0 + 12 := c5
        refine xg_callVe 36 9 [_, _] _ kv_X9_readPairs ⟨_, _, rfl⟩ kl_RX9_55 dX9_readLine_33 rfl (by assumption) (by omega) rfl rfl (Nat.le_of_ble_eq_true rfl) (by omega) ⟨Nat.le_refl _, Nat.le_refl _⟩ (cPrs.cg hs6 (ct_X9_readPairs hs ht4 he hA1 hr hsr hrg (mo := 12) (ri := false) (by decide))) rfl (fun v9 h9 e9 => ?_)
        obtain ⟨rfl, F6, I6, i6, hA6, hR6, hH6, hn6, hw6, hF6, hI6, rfl⟩ := e9
        refine xg_istoren 37 _ dX9_readLine_36 rfl rfl rfl (by decide) (Or.inr rfl) ?_
        refine xg_aloadn 38 dX9_readLine_37 rfl rfl rfl ?_
        refine xg_iloadn 39 dX9_readLine_38 rfl rfl rfl ?_
        refine xg_ifeq 49 42 dX9_readLine_39 rfl rfl (by omega) (fun hb39 => ?_) (fun hb39 => ?_)
        · exfalso; omega
        · skip
          refine xg_aloadn 43 dX9_readLine_42 rfl rfl rfl ?_
          refine xg_getI 46 kf_RX9_59 dX9_readLine_43 rfl r0 ?_
          refine xg_goto 50 dX9_readLine_46 rfl ?_
          refine xg_putI 53 kf_RX9_28 dX9_readLine_50 rfl r0 ?_
          refine xg_iloadn 54 dX9_readLine_53 rfl rfl rfl ?_
          subst hX
          refine xg_zreturn dX9_readLine_54 rfl (by first | exact bI_01 _ | omega) ⟨Nat.le_refl _, Nat.le_refl _⟩ ?_
          have hF7 : ∀ b : Nat, b ≠ s → b ≠ r → upF F6 r 4 (F6 r 3) b = F b := fun b b1 b2 => by rw [upF_na _ _ _ _ b2, hF6 b b1 b2, upF_na _ _ _ _ b1]
          rw [show gSLn t e q w = .inr (sWrs w ps6, q6) from by unfold gSLn; rw [if_neg (by omega), if_pos (by omega)]; exact gTab_2 hs6]
          exact ⟨rfl, _, _, _, _, _, w, ps6, hA6.fr (upF_na _ _ _ _ (by omega)) (fun _ _ _ => rfl), hR6, hH6, (upF_at _ _ _ _).trans hn6, by omega, c3, hS.cf hD hF7 hI6, hI, rfl, dFr.of hF7 hI6, rfl⟩
  · skip
    refine xg_aloadn 13 dX9_readLine_12 rfl rfl rfl ?_
    refine xg_aloadn 14 dX9_readLine_13 rfl rfl rfl ?_
    rcases hs1 : gRun t e q w with f1 | ⟨w1, q1⟩
    · skip
      refine xg_callVe 17 9 [_] _ kv_X9_readRun ⟨_, _, rfl⟩ kl_RX9_49 dX9_readLine_14 rfl (by assumption) (by omega) rfl rfl (Nat.le_of_ble_eq_true rfl) (by omega) ⟨Nat.le_refl _, Nat.le_refl _⟩ (cSt.cg hs1 (ct_X9_readRun hs ht4 he hA hr hsr hrg hS hI hD (by omega))) rfl (fun v9 h9 e9 => ?_)
      obtain ⟨rfl, F1, I1, P1, Y1, hf1, hR1, hS1, hC1, rfl⟩ := e9
      subst hX
      refine xg_zreturn dX9_readLine_17 rfl (by first | exact bI_01 _ | omega) ⟨Nat.le_refl _, Nat.le_refl _⟩ ?_
      rw [show gSLn t e q w = .inl f1 from by unfold gSLn; rw [if_pos (by omega)]; exact hs1]
      exact ⟨rfl, _, _, _, _, hf1, hR1, hS1, hC1, rfl⟩
    · skip
      refine xg_callVe 17 9 [_] _ kv_X9_readRun ⟨_, _, rfl⟩ kl_RX9_49 dX9_readLine_14 rfl (by assumption) (by omega) rfl rfl (Nat.le_of_ble_eq_true rfl) (by omega) ⟨Nat.le_refl _, Nat.le_refl _⟩ (cSt.cg hs1 (ct_X9_readRun hs ht4 he hA hr hsr hrg hS hI hD (by omega))) rfl (fun v9 h9 e9 => ?_)
      obtain ⟨rfl, F1, I1, P1, Y1, i1, hA1, hR1, hn1, hS1, hC1, rfl⟩ := e9
      subst hX
      refine xg_zreturn dX9_readLine_17 rfl (by first | exact bI_01 _ | omega) ⟨Nat.le_refl _, Nat.le_refl _⟩ ?_
      rw [show gSLn t e q w = .inr (w1, q1) from by unfold gSLn; rw [if_pos (by omega)]; exact hs1]
      have hok := gSLn_ok (t := t) (e := e) (q := q) hI
      rw [show gSLn t e q w = .inr (w1, q1) from by unfold gSLn; rw [if_pos (by omega)]; exact hs1] at hok
      exact ⟨rfl, _, _, _, _, _, _, [], hA1, hR1, pHo.nil, hn1.trans h4, by decide, psOk.nil, hS1, hok.1, rfl, hC1, rfl⟩

