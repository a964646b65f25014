/-! the class reads a store's text, line by line -/
noncomputable def sWrN (w : Int → Int) (ps : List (Int × Int)) : Nat → Int → Int
  | 0 => w
  | n + 1 => sWrite (sWrN w ps n) (kOf ps (n : Int)) (vOf ps (n : Int))
theorem sWrN_cons {w : Int → Int} {p : Int × Int} {ps : List (Int × Int)} : ∀ n : Nat, sWrN w (p :: ps) (n + 1) = sWrN (sWrite w p.1 p.2) ps n
  | 0 => rfl
  | n + 1 => by
    have e1 : kOf (p :: ps) ((n + 1 : Nat) : Int) = kOf ps (n : Int) := by unfold kOf; rw [show (((n + 1 : Nat) : Int)).toNat = n + 1 by omega, show ((n : Int)).toNat = n by omega]; rfl
    have e2 : vOf (p :: ps) ((n + 1 : Nat) : Int) = vOf ps (n : Int) := by unfold vOf; rw [show (((n + 1 : Nat) : Int)).toNat = n + 1 by omega, show ((n : Int)).toNat = n by omega]; rfl
    rw [sWrN, sWrN_cons n, e1, e2, sWrN]
theorem sWrN_all : ∀ (ps : List (Int × Int)) (w : Int → Int), sWrN w ps ps.length = sWrs w ps
  | [], w => rfl
  | p :: ps, w => by rw [List.length_cons, sWrN_cons, sWrN_all ps]; rfl
theorem wScn.fr {T : Nat → Nat × Int} {P P' : Nat → Nat → Option Nat} {s : Nat} (h : wScn T P s) (hP : P' s = P s) : wScn T P' s := by unfold wScn at h ⊢; rw [hP]; exact h
theorem wSrd.fr {T : Nat → Nat × Int} {P P' : Nat → Nat → Option Nat} {r s : Nat} (h : wSrd T P r s) (hP : P' r = P r) : wSrd T P' r s := by unfold wSrd at h ⊢; rw [hP]; exact h
def cTx (z : Nat) (T : Nat → Nat × Int) (F : Nat → Nat → Int) (I : Nat → Int → Int) (P : Nat → Nat → Option Nat) (Y : Nat → Int → Option Nat) (a s r : Nat) : (Int ⊕ (Int → Int)) → Option Value → xH → Prop
  | .inl f => fun v h' => v = some (J 0) ∧ ∃ (F' : Nat → Nat → Int) (I' : Nat → Int → Int) (P' : Nat → Nat → Option Nat) (Y' : Nat → Int → Option Nat) (w1 : Int → Int), F' s 5 = f ∧ pRg I' r ∧ SR T F' I' P' Y' a w1 ∧ dFr a s r F I P Y F' I' P' Y' ∧ h' = (z, T, F', I', P', Y')
  | .inr w' => fun v h' => v = some (J 1) ∧ ∃ (F' : Nat → Nat → Int) (I' : Nat → Int → Int) (P' : Nat → Nat → Option Nat) (Y' : Nat → Int → Option Nat), F' s 5 = -1 ∧ pRg I' r ∧ SR T F' I' P' Y' a w' ∧ dFr a s r F I P Y F' I' P' Y' ∧ h' = (z, T, F', I', P', Y')
set_option maxHeartbeats 4000000 in
set_option maxRecDepth 100000 in
theorem ct_X9_readInto {E : xE} {z : Nat} {T : Nat → Nat × Int} {F : Nat → Nat → Int} {I : Nat → Int → Int} {P : Nat → Nat → Option Nat} {Y : Nat → Int → Option Nat} {s N : Nat} {t : Int → Int} {e : Int} (hs : wScn T P s) (ht4 : ∀ j : Int, 0 ≤ j → j < 400 → 0 ≤ t j ∧ t j ≤ 255) (he : 0 ≤ e ∧ e ≤ 400) {i : Nat} {q : Int} (hA : cAt t e F I s N i q) {r : Nat} (hr : wSrd T P r s) (hsr : s + 4 ≤ r) (hrg : pRg I r) {a : Nat} {w : Int → Int} (hS : SR T F I P Y a w) (hI : wI2 w) (hD : cFar a s r P) (hq : q = zSk t e 0) : Ct E 6 mX9_readInto 0 0 [.ref r, .ref a] (z, T, F, I, P, Y) (cTx z T F I P Y a s r (gSto t e w)) := by
  have st9 : (T a).1 = 9 := by obtain ⟨g1, g2, ⟨π, g3⟩, g4⟩ := id hS; exact g3.1.1.1.1
  obtain ⟨r0, r1, ⟨ra1, ra2, ra3⟩, rb1, rb2, rb3⟩ := id hr
  have s0 := hs.1
  obtain ⟨d1, d2, d3⟩ := id hD
  have hq0 := hA.q0 he.1
  refine Ct.of [some (.ref r), some (.ref a), none, none] kt_X9_readInto rfl (Nat.le_of_ble_eq_true rfl) rfl (fun d hd => ?_)
  generalize hX : xN E _ _ _ = X
  refine xg_aloadn 1 dX9_readInto_0 rfl rfl rfl ?_
  refine xg_getP 4 kf_RX9_9 dX9_readInto_1 rfl r0 r1 ?_
  refine xg_bipush 6 dX9_readInto_4 rfl (by decide) ?_
  refine xg_callV 9 7 [_] _ kv_X7_is ⟨_, _, rfl⟩ kl_RX9_22 dX9_readInto_6 rfl (by assumption) (by omega) rfl rfl (Nat.le_of_ble_eq_true rfl) (by omega) ⟨Nat.le_refl _, Nat.le_refl _⟩ (c0_is hs ht4 he hA (k := 52) (by omega)) rfl ?_
  refine xg_deq 14 12 dX9_readInto_9 rfl rfl (fun hb9 => ?_) (fun hb9 => ?_)
  · skip
    refine xg_iconst 15 dX9_readInto_14 rfl ?_
    refine xg_istoren 16 _ dX9_readInto_15 rfl rfl rfl (by decide) (Or.inr rfl) ?_
    have loop16 : ∀ (mm : Nat) (n i1 : Nat) (q1 : Int) (w1 : Int → Int) (F1 : Nat → Nat → Int) (I1 : Nat → Int → Int) (P1 : Nat → Nat → Option Nat) (Y1 : Nat → Int → Option Nat), n ≤ 14 → cAt t e F1 I1 s N i1 q1 → pRg I1 r → SR T F1 I1 P1 Y1 a w1 → wI2 w1 → dFr a s r F I P Y F1 I1 P1 Y1 → gSto t e w = gStL t e (14 - n) q1 w1 → 20 - (n : Int) < (mm : Int) → xG E mX9_readInto (xR d 0 0) X 16 [some (.ref r), some (.ref a), some (J (n : Int)), none] [] (z, T, F1, I1, P1, Y1) 0 0 := by
      intro mm
      induction mm with
      | zero => intro n i1 q1 w1 F1 I1 P1 Y1 hn hA1 hR1 hS1 hI1 hC1 hg hm; exfalso; omega
      | succ mm iho =>
        intro n i1 q1 w1 F1 I1 P1 Y1 hn hA1 hR1 hS1 hI1 hC1 hg hm
        have hs1 : wScn T P1 s := hs.fr (hC1.2.1 s (by omega)).1
        have hr1 : wSrd T P1 r s := hr.fr (hC1.2.1 r (by omega)).1
        have hD1 : cFar a s r P1 := hD.f hC1
        obtain ⟨r0, r1, ⟨ra1, ra2, ra3⟩, rb1, rb2, rb3⟩ := id hr1
        have hA2 : cAt t e (upF F1 r 4 0) I1 s N i1 q1 := hA1.fr (upF_na _ _ _ _ (by omega)) (fun _ _ _ => rfl)
        have hS2 : SR T (upF F1 r 4 0) I1 P1 Y1 a w1 := hS1.cf hD1 (fun b b1 b2 => upF_na _ _ _ _ b2) (fun _ _ _ => rfl)
        have hC2 : dFr a s r F I P Y (upF F1 r 4 0) I1 P1 Y1 := hC1.tr (dFr.of (fun b b1 b2 => upF_na _ _ _ _ b2) (fun _ _ _ => rfl))
        have hq1 := hA1.q0 he.1
        refine xg_iloadn 17 dX9_readInto_16 rfl rfl rfl ?_
        refine xg_bipush 19 dX9_readInto_17 rfl (by decide) ?_
        refine xg_icge 105 22 dX9_readInto_19 rfl rfl (by omega) (fun hb19 => ?_) (fun hb19 => ?_)
        · skip
          refine xg_aloadn 106 dX9_readInto_105 rfl rfl rfl ?_
          refine xg_getP 109 kf_RX9_9 dX9_readInto_106 rfl r0 r1 ?_
          refine xg_callV 112 7 [] _ kv_X7_fail ⟨_, _, rfl⟩ kl_RX9_45 dX9_readInto_109 rfl (by assumption) (by omega) rfl rfl (Nat.le_of_ble_eq_true rfl) (by omega) ⟨Nat.le_refl _, Nat.le_refl _⟩ (c0_fail hs1 ht4 he hA1) rfl ?_
          subst hX
          refine xg_zreturn dX9_readInto_112 rfl (by first | exact bI_01 _ | omega) ⟨Nat.le_refl _, Nat.le_refl _⟩ ?_
          rw [hg, show 14 - n = 0 by omega]
          exact ⟨rfl, _, _, _, _, _, upF_at _ _ _ _, hR1, hS1.cf hD1 (fun b b1 b2 => upF_na _ _ _ _ b1) (fun _ _ _ => rfl), hC1.tr (dFr.of (fun b b1 b2 => upF_na _ _ _ _ b1) (fun _ _ _ => rfl)), rfl⟩
        · skip
          refine xg_aloadn 23 dX9_readInto_22 rfl rfl rfl ?_
          refine xg_iconst 24 dX9_readInto_23 rfl ?_
          refine xg_putI 27 kf_RX9_28 dX9_readInto_24 rfl r0 ?_
          refine xg_aloadn 28 dX9_readInto_27 rfl rfl rfl ?_
          refine xg_aloadn 29 dX9_readInto_28 rfl rfl rfl ?_
          rcases hs3 : gSLn t e q1 w1 with f3 | ⟨w3, q3⟩
          · skip
            refine xg_callVe 32 9 [_] _ kv_X9_readLine ⟨_, _, rfl⟩ kl_RX9_32 dX9_readInto_29 rfl (by assumption) (by omega) rfl rfl (Nat.le_of_ble_eq_true rfl) (by omega) ⟨Nat.le_refl _, Nat.le_refl _⟩ (cLn.cg hs3 (ct_X9_readLine hs1 ht4 he hA2 hr1 hsr hR1 hS2 hI1 hD1 (upF_at _ _ _ _))) rfl (fun v9 h9 e9 => ?_)
            obtain ⟨rfl, F3, I3, P3, Y3, hf3, hR3, hS3, hC3, rfl⟩ := e9
            refine xg_ifne 37 35 dX9_readInto_32 rfl rfl (by omega) (fun hb32 => ?_) (fun hb32 => ?_)
            · exfalso; omega
            · skip
              refine xg_iconst 36 dX9_readInto_35 rfl ?_
              subst hX
              refine xg_zreturn dX9_readInto_36 rfl (by first | exact bI_01 _ | omega) ⟨Nat.le_refl _, Nat.le_refl _⟩ ?_
              rw [hg, show 14 - n = 14 - (n + 1) + 1 by omega, gStL_1 hs3]
              exact ⟨rfl, _, _, _, _, _, hf3, hR3, hS3, hC2.tr hC3, rfl⟩
          · skip
            refine xg_callVe 32 9 [_] _ kv_X9_readLine ⟨_, _, rfl⟩ kl_RX9_32 dX9_readInto_29 rfl (by assumption) (by omega) rfl rfl (Nat.le_of_ble_eq_true rfl) (by omega) ⟨Nat.le_refl _, Nat.le_refl _⟩ (cLn.cg hs3 (ct_X9_readLine hs1 ht4 he hA2 hr1 hsr hR1 hS2 hI1 hD1 (upF_at _ _ _ _))) rfl (fun v9 h9 e9 => ?_)
            obtain ⟨rfl, F3, I3, P3, Y3, i3, w4, ps3, hA3, hR3, hH3, hn3, hl3, hp3, hS3, hI3, hw3, hC3, rfl⟩ := e9
            subst hw3
            refine xg_ifne 37 35 dX9_readInto_32 rfl rfl (by omega) (fun hb32 => ?_) (fun hb32 => ?_)
            · skip
              refine xg_iconst 38 dX9_readInto_37 rfl ?_
              refine xg_istoren 39 _ dX9_readInto_38 rfl rfl rfl (by decide) (Or.inr rfl) ?_
              have loop39 : ∀ (mm : Nat) (j : Nat) (F5 : Nat → Nat → Int) (I5 : Nat → Int → Int) (P5 : Nat → Nat → Option Nat) (Y5 : Nat → Int → Option Nat), j ≤ ps3.length → SR T F5 I5 P5 Y5 a (sWrN w4 ps3 j) → wI2 (sWrN w4 ps3 j) → cAt t e F5 I5 s N i3 q3 → pRg I5 r → pHo I5 r ps3 → F5 r 4 = (ps3.length : Int) → dFr a s r F I P Y F5 I5 P5 Y5 → 30 - (j : Int) < (mm : Int) → xG E mX9_readInto (xR d 0 0) X 39 [some (.ref r), some (.ref a), some (J (n : Int)), some (J (j : Int))] [] (z, T, F5, I5, P5, Y5) 0 0 := by
                intro mm
                induction mm with
                | zero => intro j F5 I5 P5 Y5 hj hS5 hI5 hA5 hR5 hH5 hn5 hC5 hm; exfalso; omega
                | succ mm ih =>
                  intro j F5 I5 P5 Y5 hj hS5 hI5 hA5 hR5 hH5 hn5 hC5 hm
                  have hs5 : wScn T P5 s := hs.fr (hC5.2.1 s (by omega)).1
                  have hr5 : wSrd T P5 r s := hr.fr (hC5.2.1 r (by omega)).1
                  have hD5 : cFar a s r P5 := hD.f hC5
                  obtain ⟨r0, r1, ⟨ra1, ra2, ra3⟩, rb1, rb2, rb3⟩ := id hr5
                  refine xg_iloadn 40 dX9_readInto_39 rfl rfl rfl ?_
                  refine xg_aloadn 41 dX9_readInto_40 rfl rfl rfl ?_
                  refine xg_getI 44 kf_RX9_28 dX9_readInto_41 rfl r0 ?_
                  rw [hn5]
                  refine xg_icge 70 47 dX9_readInto_44 rfl rfl (by omega) (fun hb44 => ?_) (fun hb44 => ?_)
                  · skip
                    have hje : j = ps3.length := by omega
                    rw [hje, sWrN_all] at hS5 hI5
                    have hq3 := hA5.q0 he.1
                    refine xg_aloadn 71 dX9_readInto_70 rfl rfl rfl ?_
                    refine xg_getP 74 kf_RX9_9 dX9_readInto_71 rfl r0 r1 ?_
                    refine xg_bipush 76 dX9_readInto_74 rfl (by decide) ?_
                    refine xg_callV 79 7 [_] _ kv_X7_is ⟨_, _, rfl⟩ kl_RX9_22 dX9_readInto_76 rfl (by assumption) (by omega) rfl rfl (Nat.le_of_ble_eq_true rfl) (by omega) ⟨Nat.le_refl _, Nat.le_refl _⟩ (c0_is hs5 ht4 he hA5 (k := 52) (by omega)) rfl ?_
                    refine xg_deq 84 82 dX9_readInto_79 rfl rfl (fun hb79 => ?_) (fun hb79 => ?_)
                    · skip
                      refine xg_aloadn 85 dX9_readInto_84 rfl rfl rfl ?_
                      refine xg_getP 88 kf_RX9_9 dX9_readInto_85 rfl r0 r1 ?_
                      refine xg_sipush 91 dX9_readInto_88 rfl (by decide) ?_
                      refine xg_callV 94 7 [_] _ kv_X7_needs ⟨_, _, rfl⟩ kl_RX9_42 dX9_readInto_91 rfl (by assumption) (by omega) rfl rfl (Nat.le_of_ble_eq_true rfl) (by omega) ⟨Nat.le_refl _, Nat.le_refl _⟩ (c0_needs hs5 ht4 he hA5 (k := 159) (by omega)) rfl ?_
                      refine xg_dne 99 97 dX9_readInto_94 rfl rfl (fun hb94 => ?_) (fun hb94 => ?_)
                      · rw [if_pos hb94]
                        refine xg_iinc 102 _ dX9_readInto_99 rfl rfl rfl rfl (by decide) (Or.inr rfl) ?_
                        refine xg_goto 16 dX9_readInto_102 rfl ?_
                        have hx9 := zX_b (t := t) (zK_lt (t := t) (e := e) (q := q3) (by omega))
                        exact xg_weak _ (xle_s rfl (xle_s rfl (xle_s (v := J (((n + 1 : Nat)) : Int)) (congrArg (fun x => some (J x)) (by omega)) (xle_n xle_0)))) (iho (n + 1) (i3 + 1) (zX t e q3) (sWrs w4 ps3) (upF F5 s 4 ((i3 + 1 : Nat) : Int)) I5 P5 Y5 (by omega) (hA5.nx (by omega)) hR5 (hS5.cf hD5 (fun b b1 b2 => upF_na _ _ _ _ b1) (fun _ _ _ => rfl)) hI5 (hC5.tr (dFr.of (fun b b1 b2 => upF_na _ _ _ _ b1) (fun _ _ _ => rfl))) (by rw [hg, show 14 - n = 14 - (n + 1) + 1 by omega, gStL_3 hs3 (by omega) (by omega)]) (by omega))
                      · rw [if_neg hb94]
                        refine xg_iconst 98 dX9_readInto_97 rfl ?_
                        subst hX
                        refine xg_zreturn dX9_readInto_98 rfl (by first | exact bI_01 _ | omega) ⟨Nat.le_refl _, Nat.le_refl _⟩ ?_
                        rw [hg, show 14 - n = 14 - (n + 1) + 1 by omega, gStL_4 hs3 (by omega) (by omega)]
                        exact ⟨rfl, _, _, _, _, _, upF_at _ _ _ _, hR5, hS5.cf hD5 (fun b b1 b2 => upF_na _ _ _ _ b1) (fun _ _ _ => rfl), hC5.tr (dFr.of (fun b b1 b2 => upF_na _ _ _ _ b1) (fun _ _ _ => rfl)), rfl⟩
                    · skip
                      refine xg_iconst 83 dX9_readInto_82 rfl ?_
                      subst hX
                      refine xg_zreturn dX9_readInto_83 rfl (by first | exact bI_01 _ | omega) ⟨Nat.le_refl _, Nat.le_refl _⟩ ?_
                      rw [hg, show 14 - n = 14 - (n + 1) + 1 by omega, gStL_2 hs3 (by omega)]
                      exact ⟨rfl, _, _, _, _, hA5.2.2.1, hR5, hS5, hC5, rfl⟩
                  · skip
                    refine xg_aloadn 48 dX9_readInto_47 rfl rfl rfl ?_
                    refine xg_aloadn 49 dX9_readInto_48 rfl rfl rfl ?_
                    refine xg_getP 52 kf_RX9_15 dX9_readInto_49 rfl r0 ra1 ?_
                    refine xg_iloadn 53 dX9_readInto_52 rfl rfl rfl ?_
                    refine xg_iald 54 dX9_readInto_53 rfl ra2 (by rw [ra3]; omega) ?_
                    refine xg_aloadn 55 dX9_readInto_54 rfl rfl rfl ?_
                    refine xg_getP 58 kf_RX9_19 dX9_readInto_55 rfl r0 rb1 ?_
                    refine xg_iloadn 59 dX9_readInto_58 rfl rfl rfl ?_
                    refine xg_iald 60 dX9_readInto_59 rfl rb2 (by rw [rb3]; omega) ?_
                    have hpj := hp3.at j
                    have ek : (((kOf ps3 (j : Int)).toNat : Nat) : Int) = kOf ps3 (j : Int) := by omega
                    have ev : (((vOf ps3 (j : Int)).toNat : Nat) : Int) = vOf ps3 (j : Int) := by omega
                    rw [(hH5 j (by omega)).1, (hH5 j (by omega)).2, ← ek, ← ev]
                    refine xg_callVq 63 8 [_, _] _ kv_X8_writeKey ⟨_, _, rfl⟩ kl_RX9_36 dX9_readInto_60 rfl st9 (by omega) rfl rfl (Nat.le_of_ble_eq_true rfl) (by omega) ⟨Nat.le_refl _, Nat.le_refl _⟩ (ct_X8_writeKey hS5 hI5.1 (key := (kOf ps3 (j : Int)).toNat) (v := (vOf ps3 (j : Int)).toNat) (by omega) (by omega) (by rw [ek, ev]; exact sStop_write hI5 hpj.1 hpj.2)) rfl (fun Fk1 Ik1 Pk1 Yk1 hSk1 hFk1 => ?_)
                    rw [ek, ev] at hSk1
                    refine xg_pop 64 dX9_readInto_63 rfl rfl ?_
                    refine xg_iinc 67 _ dX9_readInto_64 rfl rfl rfl rfl (by decide) (Or.inr rfl) ?_
                    refine xg_goto 39 dX9_readInto_67 rfl ?_
                    exact xg_weak _ (xle_s rfl (xle_s rfl (xle_s rfl (xle_s (v := J (((j + 1 : Nat)) : Int)) (congrArg (fun x => some (J x)) (by omega)) xle_0)))) (ih (j + 1) Fk1 Ik1 Pk1 Yk1 (by omega) hSk1 (wI2_write hI5 hpj.1 hpj.2) (hA5.sf hFk1 hD5) (hR5.fr (hFk1.r1 hD5) (hFk1.r2 hD5)) (hH5.fr (hFk1.r1 hD5) (hFk1.r2 hD5)) (by rw [hFk1.r0 hD5]; exact hn5) (hC5.tr hFk1.c) (by omega))
              exact xg_weak _ (xle_s rfl (xle_s rfl (xle_s rfl (xle_s rfl xle_0)))) (loop39 50 0 F3 I3 P3 Y3 (Nat.zero_le _) hS3 hI3 hA3 hR3 hH3 hn3 (hC2.tr hC3) (by omega))
            · exfalso; omega
    exact xg_weak _ (xle_s rfl (xle_s rfl (xle_s rfl (xle_n xle_0)))) (loop16 50 0 i q w F I P Y (by omega) hA hrg hS hI dFr.rf (by unfold gSto; rw [← hq, if_neg (by omega)]) (by omega))
  · skip
    refine xg_iconst 13 dX9_readInto_12 rfl ?_
    subst hX
    refine xg_zreturn dX9_readInto_13 rfl (by first | exact bI_01 _ | omega) ⟨Nat.le_refl _, Nat.le_refl _⟩ ?_
    rw [show gSto t e w = .inr w from by unfold gSto; rw [← hq, if_pos (by omega)]]
    exact ⟨rfl, _, _, _, _, hA.2.2.1, hrg, hS, dFr.rf, rfl⟩

