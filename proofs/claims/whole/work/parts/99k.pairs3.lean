set_option maxHeartbeats 4000000 in
set_option maxRecDepth 100000 in
theorem ct_X0_pairing_all {E : xE} {z : Nat} {T : Nat → Nat × Int} {F : Nat → Nat → Int} {I : Nat → Int → Int} {P : Nat → Nat → Option Nat} {Y : Nat → Int → Option Nat} {a c : Nat} {w : Int → Int} (hC : wCho T P Y c) (hS : SR T F I P Y a w) (hd : c + 39 ≤ a ∨ a + 57 ≤ c)  : Ct E 2 mX0_pairing 0 0 [.ref c, .ref a, J (-1)] (z, T, F, I, P, Y) (xCh c (some (J (sPrs w (2 ^ nP w - 1)))) z T F I P Y) := by
  obtain ⟨k0, ⟨b1, ⟨b2, b3⟩, b4⟩, ⟨g1, ⟨g2, g3⟩, g4⟩, ⟨u1, u2, u3⟩, ⟨h1, ⟨h2, h3⟩, h4⟩, ⟨m1, m2, m3⟩, n1, n2, n3⟩ := id hC
  obtain ⟨⟨hO, hL, hTy⟩, hLw, ⟨π, hB⟩, hV, hLf⟩ := id hS
  obtain ⟨⟨⟨⟨s0, s1, s2, s3⟩, sR, ⟨s4, s5⟩, ⟨s6, sLv⟩, ⟨s7, s8⟩, ⟨s9, sJo⟩, s10, s11, s12⟩, p1, p2, p3, p4, p5⟩, ⟨⟨c1, c9, c10, c11, c12, c13, c14, c15⟩, hTl, j0, j1, j2⟩, hRn, hTb, hOt, hJo⟩ := id hB
  obtain ⟨hR, o0, o1, o2, o3, o4, o5, o6, oc, o13, o14, o16, o17, o18, ov⟩ := id hO
  have hN := wN_i o0.1
  obtain ⟨hn, hn2, hn3⟩ := nP_8 w
  have h8 : min 8 (w 0) = ((nP w : Nat) : Int) := by unfold nP; omega
  have h81 : xshl 1 ((nP w : Nat) : Int) = ((2 ^ nP w : Nat) : Int) := xshl1' (by omega)
  refine Ct.of [some (.ref c), some (.ref a), some (J (-1)), none, none, none] kt_X0_pairing rfl (Nat.le_of_ble_eq_true rfl) rfl (fun d hd => ?_)
  generalize hX : xN E _ _ _ = X
  refine xg_bipush 2 dX0_pairing_0 rfl (by decide) ?_
  refine xg_aloadn 3 dX0_pairing_2 rfl rfl rfl ?_
  refine xg_getI 6 kf_RX0_32 dX0_pairing_3 rfl (by assumption) ?_
  rw [c1]
  refine xg_mmin 9 kl_RX0_38 dX0_pairing_6 rfl (by omega) (Nat.le_of_ble_eq_true rfl) (by omega) ⟨Nat.le_refl _, Nat.le_refl _⟩ ?_
  rw [h8]
  refine xg_istoren 10 _ dX0_pairing_9 rfl rfl rfl (by decide) (Or.inr rfl) ?_
  refine xg_iconst 11 dX0_pairing_10 rfl ?_
  refine xg_istore 13 _ dX0_pairing_11 rfl rfl (by decide) (Or.inr rfl) ?_
  have loop13 : ∀ (mm : Nat) (i : Nat) (J2 : Nat → Int → Int), (i ≤ nP w) → cFr c I J2 → pSh w J2 c i 0 (nP w) → 20 - (i : Int) < (mm : Int) → xG E mX0_pairing (xR d 0 0) X 13 [some (.ref c), some (.ref a), some (J (-1)), some (J ((nP w : Nat) : Int)), some (J (i : Int)), none] [] (z, T, F, J2, P, Y) 0 0 := by
    intro mm
    induction mm with
    | zero => intro i J2 hi hf hsh hm; exfalso; omega
    | succ mm ih =>
      intro i J2 hi hf hsh hm
      refine xg_iload 15 dX0_pairing_13 rfl rfl ?_
      refine xg_iloadn 16 dX0_pairing_15 rfl rfl rfl ?_
      refine xg_icge 67 19 dX0_pairing_16 rfl rfl (by omega) (fun hb16 => ?_) (fun hb16 => ?_)
      · skip
        refine xg_aloadn 68 dX0_pairing_67 rfl rfl rfl ?_
        refine xg_getP 71 kf_RX0_26 dX0_pairing_68 rfl (by assumption) (by assumption) ?_
        refine xg_iconst 72 dX0_pairing_71 rfl ?_
        refine xg_iconst 73 dX0_pairing_72 rfl ?_
        refine xg_iast 74 dX0_pairing_73 rfl (by assumption) (by rw [m3]; omega) ?_
        refine xg_iconst 75 dX0_pairing_74 rfl ?_
        refine xg_istore 77 _ dX0_pairing_75 rfl rfl (by decide) (Or.inr rfl) ?_
        have loop77 : ∀ (mm : Nat) (s : Nat) (J4 : Nat → Int → Int), (1 ≤ s ∧ s ≤ 2 ^ nP w) → cFr c I J4 → pSh w J4 c (nP w) 0 (nP w) → pPr w (J4 (c + 37)) (nP w) s → 300 - (s : Int) < (mm : Int) → xG E mX0_pairing (xR d 0 0) X 77 [some (.ref c), some (.ref a), some (J (-1)), some (J ((nP w : Nat) : Int)), some (J (s : Int)), none] [] (z, T, F, J4, P, Y) 0 0 := by
          intro mm
          induction mm with
          | zero => intro s J4 hs hf3 hsh3 hp3 hm; exfalso; omega
          | succ mm ih3 =>
            intro s J4 hs hf3 hsh3 hp3 hm
            refine xg_iload 79 dX0_pairing_77 rfl rfl ?_
            refine xg_iconst 80 dX0_pairing_79 rfl ?_
            refine xg_iloadn 81 dX0_pairing_80 rfl rfl rfl ?_
            refine xg_ishl 82 dX0_pairing_81 rfl ?_
            rw [h81]
            refine xg_icge 105 85 dX0_pairing_82 rfl rfl (by omega) (fun hb82 => ?_) (fun hb82 => ?_)
            · skip
              rw [show s = 2 ^ nP w by omega] at hp3
              refine xg_iconst 106 dX0_pairing_105 rfl ?_
              refine xg_iloadn 107 dX0_pairing_106 rfl rfl rfl ?_
              refine xg_ishl 108 dX0_pairing_107 rfl ?_
              rw [h81]
              refine xg_iconst 109 dX0_pairing_108 rfl ?_
              refine xg_isub 110 dX0_pairing_109 rfl ?_
              rw [show ((2 ^ nP w : Nat) : Int) - 1 = ((2 ^ nP w - 1 : Nat) : Int) by omega]
              refine xg_istore 112 _ dX0_pairing_110 rfl rfl (by decide) (Or.inr rfl) ?_
              refine xg_iloadn 113 dX0_pairing_112 rfl rfl rfl ?_
              refine xg_iconst 114 dX0_pairing_113 rfl ?_
              refine xg_icne 127 117 dX0_pairing_114 rfl rfl (by omega) (fun hb114 => ?_) (fun hb114 => ?_)
              · exfalso; omega
              · skip
                refine xg_aloadn 118 dX0_pairing_117 rfl rfl rfl ?_
                refine xg_getP 121 kf_RX0_26 dX0_pairing_118 rfl (by assumption) (by assumption) ?_
                refine xg_iload 123 dX0_pairing_121 rfl rfl ?_
                refine xg_iald 124 dX0_pairing_123 rfl (by assumption) (by rw [m3]; omega) ?_
                refine xg_goto 135 dX0_pairing_124 rfl ?_
                subst hX
                exact xg_ireturn dX0_pairing_135 rfl ⟨Nat.le_refl _, Nat.le_refl _⟩ ⟨congrArg (fun v => some (J v)) (hp3 _ (by omega)), J4, rfl, hf3⟩
            · skip
              refine xg_aloadn 86 dX0_pairing_85 rfl rfl rfl ?_
              refine xg_getP 89 kf_RX0_26 dX0_pairing_86 rfl (by assumption) (by assumption) ?_
              refine xg_iload 91 dX0_pairing_89 rfl rfl ?_
              refine xg_aloadn 92 dX0_pairing_91 rfl rfl rfl ?_
              refine xg_iload 94 dX0_pairing_92 rfl rfl ?_
              refine xg_iloadn 95 dX0_pairing_94 rfl rfl rfl ?_
              have hls : 0 < s ∧ s < 2 ^ nP w := by omega
              refine xg_callV 98 0 [_, _] _ kv_X0_mostOf ⟨_, _, rfl⟩ kl_RX0_69 dX0_pairing_95 rfl (by assumption) (by omega) rfl rfl (Nat.le_of_ble_eq_true rfl) (by omega) ⟨Nat.le_refl _, Nat.le_refl _⟩ (ct_X0_mostOf hC hn hls hsh3 hp3) rfl ?_
              refine xg_iast 99 dX0_pairing_98 rfl (by assumption) (by rw [m3]; omega) ?_
              refine xg_iinc 102 _ dX0_pairing_99 rfl rfl rfl rfl (by decide) (Or.inr rfl) ?_
              refine xg_goto 77 dX0_pairing_102 rfl ?_
              exact xg_weak _ (xle_s rfl (xle_s rfl (xle_s rfl (xle_s rfl (xle_s rfl (xle_n xle_0)))))) (ih3 (s + 1) _ (by omega) (hf3.up (by omega) _ _) (hsh3.ne (by omega) (by omega) _ _ (by omega)) (by rw [upI_wS]; exact pPr_S hp3 (by omega)) (by omega))
        rw [show (i : Nat) = nP w by omega] at hsh
        exact xg_weak _ (xle_s rfl (xle_s rfl (xle_s rfl (xle_s rfl (xle_s rfl (xle_n xle_0)))))) (loop77 400 1 _ (by omega) (hf.up (by omega) _ _) (hsh.ne (by omega) (by omega) _ _ (by omega)) (by rw [upI_wS]; exact pPr_1 w _ _) (by omega))
      · skip
        refine xg_iconst 20 dX0_pairing_19 rfl ?_
        refine xg_istore 22 _ dX0_pairing_20 rfl rfl (by decide) (Or.inr rfl) ?_
        have loop22 : ∀ (mm : Nat) (j : Nat) (J3 : Nat → Int → Int), (j ≤ nP w) → cFr c I J3 → pSh w J3 c i j (nP w) → 20 - (j : Int) < (mm : Int) → xG E mX0_pairing (xR d 0 0) X 22 [some (.ref c), some (.ref a), some (J (-1)), some (J ((nP w : Nat) : Int)), some (J (i : Int)), some (J (j : Int))] [] (z, T, F, J3, P, Y) 0 0 := by
          intro mm
          induction mm with
          | zero => intro j J3 hj hf hsh2 hm; exfalso; omega
          | succ mm ih2 =>
            intro j J3 hj hf hsh2 hm
            have hnN : (nP w : Int) ≤ w 0 := by unfold nP; omega
            refine xg_iload 24 dX0_pairing_22 rfl rfl ?_
            refine xg_iloadn 25 dX0_pairing_24 rfl rfl rfl ?_
            refine xg_icge 61 28 dX0_pairing_25 rfl rfl (by omega) (fun hb25 => ?_) (fun hb25 => ?_)
            · skip
              refine xg_iinc 64 _ dX0_pairing_61 rfl rfl rfl rfl (by decide) (Or.inr rfl) ?_
              refine xg_goto 13 dX0_pairing_64 rfl ?_
              exact xg_weak _ (xle_s rfl (xle_s rfl (xle_s rfl (xle_s rfl (xle_s rfl (xle_n xle_0)))))) (ih (i + 1) J3 (by omega) hf (fun g l g1 g2 => hsh2 g l g1 (by omega)) (by omega))
            · skip
              refine xg_aloadn 29 dX0_pairing_28 rfl rfl rfl ?_
              refine xg_getP 32 kf_RX0_23 dX0_pairing_29 rfl (by assumption) (by assumption) ?_
              refine xg_iload 34 dX0_pairing_32 rfl rfl ?_
              refine xg_aald 35 dX0_pairing_34 rfl (by assumption) (by omega) (h4 i (by omega)).1 ?_
              refine xg_iload 37 dX0_pairing_35 rfl rfl ?_
              refine xg_aloadn 38 dX0_pairing_37 rfl rfl rfl ?_
              refine xg_getP 41 kf_RX0_44 dX0_pairing_38 rfl (by assumption) (by assumption) ?_
              refine xg_iload 43 dX0_pairing_41 rfl rfl ?_
              refine xg_rald 44 dX0_pairing_43 rfl (by assumption) (by omega) (p1 i (by omega)) ?_
              refine xg_aloadn 45 dX0_pairing_44 rfl rfl rfl ?_
              refine xg_getP 48 kf_RX0_44 dX0_pairing_45 rfl (by assumption) (by assumption) ?_
              refine xg_iload 50 dX0_pairing_48 rfl rfl ?_
              refine xg_rald 51 dX0_pairing_50 rfl (by assumption) (by omega) (p1 j (by omega)) ?_
              refine xg_callV 54 6 [_] _ kv_X6_keysAlsoIn ⟨_, _, rfl⟩ kl_RX0_65 dX0_pairing_51 rfl (sR (π i) (p4 i (by omega))).1 (by omega) rfl rfl (Nat.le_of_ble_eq_true rfl) (by omega) ⟨Nat.le_refl _, Nat.le_refl _⟩ (ct_X6_keysAlsoIn2 (sR (π i) (p4 i (by omega))) (sR (π j) (p4 j (by omega))) (fun k k0 k1 => by rw [hf _ (by have := p4 i (by omega); omega), (hRn i (by omega)).v2 ⟨k0, k1⟩]; exact ov _ (by omega) (by omega)) (fun k k0 k1 => by rw [hf _ (by have := p4 j (by omega); omega), (hRn j (by omega)).v2 ⟨k0, k1⟩]; exact ov _ (by omega) (by omega))) rfl ?_
              rw [sAlk_e (w := w) (a := i) (b := j) (fun k k0 k1 => by rw [hf _ (by have := p4 i (by omega); omega)]; exact (hRn i (by omega)).v2 ⟨k0, k1⟩) (fun k k0 k1 => by rw [hf _ (by have := p4 j (by omega); omega)]; exact (hRn j (by omega)).v2 ⟨k0, k1⟩)]
              refine xg_iast 55 dX0_pairing_54 rfl (h4 i (by omega)).2.1 (by rw [(h4 i (by omega)).2.2]; omega) ?_
              refine xg_iinc 58 _ dX0_pairing_55 rfl rfl rfl rfl (by decide) (Or.inr rfl) ?_
              refine xg_goto 22 dX0_pairing_58 rfl ?_
              exact xg_weak _ (xle_s rfl (xle_s rfl (xle_s rfl (xle_s rfl (xle_s rfl (xle_s rfl xle_0)))))) (ih2 (j + 1) _ (by omega) (hf.up (by omega) _ _) (hsh2.S rfl) (by omega))
        exact xg_weak _ (xle_s rfl (xle_s rfl (xle_s rfl (xle_s rfl (xle_s rfl (xle_s rfl xle_0)))))) (loop22 30 0 J2 (by omega) hf hsh (by omega))
  exact xg_weak _ (xle_s rfl (xle_s rfl (xle_s rfl (xle_s rfl (xle_s rfl (xle_n xle_0)))))) (loop13 30 0 I (by omega) cFr.rf (fun g l g1 g2 => by omega) (by omega))

set_option maxHeartbeats 4000000 in
set_option maxRecDepth 100000 in
theorem ct_X0_pairing {E : xE} {z : Nat} {T : Nat → Nat × Int} {F : Nat → Nat → Int} {I : Nat → Int → Int} {P : Nat → Nat → Option Nat} {Y : Nat → Int → Option Nat} {a c : Nat} {w : Int → Int} (hC : wCho T P Y c) (hS : SR T F I P Y a w) (hd : c + 39 ≤ a ∨ a + 57 ≤ c) {r : Nat} (hr : r < nP w) : Ct E 2 mX0_pairing 0 0 [.ref c, .ref a, J (r : Int)] (z, T, F, I, P, Y) (xCh c (some (J (sPar w r (2 ^ nP w) (2 ^ nP w - 1)))) z T F I P Y) := by
  obtain ⟨k0, ⟨b1, ⟨b2, b3⟩, b4⟩, ⟨g1, ⟨g2, g3⟩, g4⟩, ⟨u1, u2, u3⟩, ⟨h1, ⟨h2, h3⟩, h4⟩, ⟨m1, m2, m3⟩, n1, n2, n3⟩ := id hC
  obtain ⟨⟨hO, hL, hTy⟩, hLw, ⟨π, hB⟩, hV, hLf⟩ := id hS
  obtain ⟨⟨⟨⟨s0, s1, s2, s3⟩, sR, ⟨s4, s5⟩, ⟨s6, sLv⟩, ⟨s7, s8⟩, ⟨s9, sJo⟩, s10, s11, s12⟩, p1, p2, p3, p4, p5⟩, ⟨⟨c1, c9, c10, c11, c12, c13, c14, c15⟩, hTl, j0, j1, j2⟩, hRn, hTb, hOt, hJo⟩ := id hB
  obtain ⟨hR, o0, o1, o2, o3, o4, o5, o6, oc, o13, o14, o16, o17, o18, ov⟩ := id hO
  have hN := wN_i o0.1
  obtain ⟨hn, hn2, hn3⟩ := nP_8 w
  have h8 : min 8 (w 0) = ((nP w : Nat) : Int) := by unfold nP; omega
  have h81 : xshl 1 ((nP w : Nat) : Int) = ((2 ^ nP w : Nat) : Int) := xshl1' (by omega)
  refine Ct.of [some (.ref c), some (.ref a), some (J (r : Int)), none, none, none] kt_X0_pairing rfl (Nat.le_of_ble_eq_true rfl) rfl (fun d hd => ?_)
  generalize hX : xN E _ _ _ = X
  refine xg_bipush 2 dX0_pairing_0 rfl (by decide) ?_
  refine xg_aloadn 3 dX0_pairing_2 rfl rfl rfl ?_
  refine xg_getI 6 kf_RX0_32 dX0_pairing_3 rfl (by assumption) ?_
  rw [c1]
  refine xg_mmin 9 kl_RX0_38 dX0_pairing_6 rfl (by omega) (Nat.le_of_ble_eq_true rfl) (by omega) ⟨Nat.le_refl _, Nat.le_refl _⟩ ?_
  rw [h8]
  refine xg_istoren 10 _ dX0_pairing_9 rfl rfl rfl (by decide) (Or.inr rfl) ?_
  refine xg_iconst 11 dX0_pairing_10 rfl ?_
  refine xg_istore 13 _ dX0_pairing_11 rfl rfl (by decide) (Or.inr rfl) ?_
  have loop13 : ∀ (mm : Nat) (i : Nat) (J2 : Nat → Int → Int), (i ≤ nP w) → cFr c I J2 → pSh w J2 c i 0 (nP w) → 20 - (i : Int) < (mm : Int) → xG E mX0_pairing (xR d 0 0) X 13 [some (.ref c), some (.ref a), some (J (r : Int)), some (J ((nP w : Nat) : Int)), some (J (i : Int)), none] [] (z, T, F, J2, P, Y) 0 0 := by
    intro mm
    induction mm with
    | zero => intro i J2 hi hf hsh hm; exfalso; omega
    | succ mm ih =>
      intro i J2 hi hf hsh hm
      refine xg_iload 15 dX0_pairing_13 rfl rfl ?_
      refine xg_iloadn 16 dX0_pairing_15 rfl rfl rfl ?_
      refine xg_icge 67 19 dX0_pairing_16 rfl rfl (by omega) (fun hb16 => ?_) (fun hb16 => ?_)
      · skip
        refine xg_aloadn 68 dX0_pairing_67 rfl rfl rfl ?_
        refine xg_getP 71 kf_RX0_26 dX0_pairing_68 rfl (by assumption) (by assumption) ?_
        refine xg_iconst 72 dX0_pairing_71 rfl ?_
        refine xg_iconst 73 dX0_pairing_72 rfl ?_
        refine xg_iast 74 dX0_pairing_73 rfl (by assumption) (by rw [m3]; omega) ?_
        refine xg_iconst 75 dX0_pairing_74 rfl ?_
        refine xg_istore 77 _ dX0_pairing_75 rfl rfl (by decide) (Or.inr rfl) ?_
        have loop77 : ∀ (mm : Nat) (s : Nat) (J4 : Nat → Int → Int), (1 ≤ s ∧ s ≤ 2 ^ nP w) → cFr c I J4 → pSh w J4 c (nP w) 0 (nP w) → pPr w (J4 (c + 37)) (nP w) s → 300 - (s : Int) < (mm : Int) → xG E mX0_pairing (xR d 0 0) X 77 [some (.ref c), some (.ref a), some (J (r : Int)), some (J ((nP w : Nat) : Int)), some (J (s : Int)), none] [] (z, T, F, J4, P, Y) 0 0 := by
          intro mm
          induction mm with
          | zero => intro s J4 hs hf3 hsh3 hp3 hm; exfalso; omega
          | succ mm ih3 =>
            intro s J4 hs hf3 hsh3 hp3 hm
            refine xg_iload 79 dX0_pairing_77 rfl rfl ?_
            refine xg_iconst 80 dX0_pairing_79 rfl ?_
            refine xg_iloadn 81 dX0_pairing_80 rfl rfl rfl ?_
            refine xg_ishl 82 dX0_pairing_81 rfl ?_
            rw [h81]
            refine xg_icge 105 85 dX0_pairing_82 rfl rfl (by omega) (fun hb82 => ?_) (fun hb82 => ?_)
            · skip
              rw [show s = 2 ^ nP w by omega] at hp3
              refine xg_iconst 106 dX0_pairing_105 rfl ?_
              refine xg_iloadn 107 dX0_pairing_106 rfl rfl rfl ?_
              refine xg_ishl 108 dX0_pairing_107 rfl ?_
              rw [h81]
              refine xg_iconst 109 dX0_pairing_108 rfl ?_
              refine xg_isub 110 dX0_pairing_109 rfl ?_
              rw [show ((2 ^ nP w : Nat) : Int) - 1 = ((2 ^ nP w - 1 : Nat) : Int) by omega]
              refine xg_istore 112 _ dX0_pairing_110 rfl rfl (by decide) (Or.inr rfl) ?_
              refine xg_iloadn 113 dX0_pairing_112 rfl rfl rfl ?_
              refine xg_iconst 114 dX0_pairing_113 rfl ?_
              refine xg_icne 127 117 dX0_pairing_114 rfl rfl (by omega) (fun hb114 => ?_) (fun hb114 => ?_)
              · skip
                refine xg_aloadn 128 dX0_pairing_127 rfl rfl rfl ?_
                refine xg_iload 130 dX0_pairing_128 rfl rfl ?_
                refine xg_iloadn 131 dX0_pairing_130 rfl rfl rfl ?_
                refine xg_iloadn 132 dX0_pairing_131 rfl rfl rfl ?_
                refine xg_callV 135 0 [_, _, _] _ kv_X0_partnerIn ⟨_, _, rfl⟩ kl_RX0_72 dX0_pairing_132 rfl (by assumption) (by omega) rfl rfl (Nat.le_of_ble_eq_true rfl) (by omega) ⟨Nat.le_refl _, Nat.le_refl _⟩ (ct_X0_partnerIn hC hsh3 hp3 hr) rfl ?_
                subst hX
                exact xg_ireturn dX0_pairing_135 rfl ⟨Nat.le_refl _, Nat.le_refl _⟩ ⟨rfl, J4, rfl, hf3⟩
              · exfalso; omega
            · skip
              refine xg_aloadn 86 dX0_pairing_85 rfl rfl rfl ?_
              refine xg_getP 89 kf_RX0_26 dX0_pairing_86 rfl (by assumption) (by assumption) ?_
              refine xg_iload 91 dX0_pairing_89 rfl rfl ?_
              refine xg_aloadn 92 dX0_pairing_91 rfl rfl rfl ?_
              refine xg_iload 94 dX0_pairing_92 rfl rfl ?_
              refine xg_iloadn 95 dX0_pairing_94 rfl rfl rfl ?_
              have hls : 0 < s ∧ s < 2 ^ nP w := by omega
              refine xg_callV 98 0 [_, _] _ kv_X0_mostOf ⟨_, _, rfl⟩ kl_RX0_69 dX0_pairing_95 rfl (by assumption) (by omega) rfl rfl (Nat.le_of_ble_eq_true rfl) (by omega) ⟨Nat.le_refl _, Nat.le_refl _⟩ (ct_X0_mostOf hC hn hls hsh3 hp3) rfl ?_
              refine xg_iast 99 dX0_pairing_98 rfl (by assumption) (by rw [m3]; omega) ?_
              refine xg_iinc 102 _ dX0_pairing_99 rfl rfl rfl rfl (by decide) (Or.inr rfl) ?_
              refine xg_goto 77 dX0_pairing_102 rfl ?_
              exact xg_weak _ (xle_s rfl (xle_s rfl (xle_s rfl (xle_s rfl (xle_s rfl (xle_n xle_0)))))) (ih3 (s + 1) _ (by omega) (hf3.up (by omega) _ _) (hsh3.ne (by omega) (by omega) _ _ (by omega)) (by rw [upI_wS]; exact pPr_S hp3 (by omega)) (by omega))
        rw [show (i : Nat) = nP w by omega] at hsh
        exact xg_weak _ (xle_s rfl (xle_s rfl (xle_s rfl (xle_s rfl (xle_s rfl (xle_n xle_0)))))) (loop77 400 1 _ (by omega) (hf.up (by omega) _ _) (hsh.ne (by omega) (by omega) _ _ (by omega)) (by rw [upI_wS]; exact pPr_1 w _ _) (by omega))
      · skip
        refine xg_iconst 20 dX0_pairing_19 rfl ?_
        refine xg_istore 22 _ dX0_pairing_20 rfl rfl (by decide) (Or.inr rfl) ?_
        have loop22 : ∀ (mm : Nat) (j : Nat) (J3 : Nat → Int → Int), (j ≤ nP w) → cFr c I J3 → pSh w J3 c i j (nP w) → 20 - (j : Int) < (mm : Int) → xG E mX0_pairing (xR d 0 0) X 22 [some (.ref c), some (.ref a), some (J (r : Int)), some (J ((nP w : Nat) : Int)), some (J (i : Int)), some (J (j : Int))] [] (z, T, F, J3, P, Y) 0 0 := by
          intro mm
          induction mm with
          | zero => intro j J3 hj hf hsh2 hm; exfalso; omega
          | succ mm ih2 =>
            intro j J3 hj hf hsh2 hm
            have hnN : (nP w : Int) ≤ w 0 := by unfold nP; omega
            refine xg_iload 24 dX0_pairing_22 rfl rfl ?_
            refine xg_iloadn 25 dX0_pairing_24 rfl rfl rfl ?_
            refine xg_icge 61 28 dX0_pairing_25 rfl rfl (by omega) (fun hb25 => ?_) (fun hb25 => ?_)
            · skip
              refine xg_iinc 64 _ dX0_pairing_61 rfl rfl rfl rfl (by decide) (Or.inr rfl) ?_
              refine xg_goto 13 dX0_pairing_64 rfl ?_
              exact xg_weak _ (xle_s rfl (xle_s rfl (xle_s rfl (xle_s rfl (xle_s rfl (xle_n xle_0)))))) (ih (i + 1) J3 (by omega) hf (fun g l g1 g2 => hsh2 g l g1 (by omega)) (by omega))
            · skip
              refine xg_aloadn 29 dX0_pairing_28 rfl rfl rfl ?_
              refine xg_getP 32 kf_RX0_23 dX0_pairing_29 rfl (by assumption) (by assumption) ?_
              refine xg_iload 34 dX0_pairing_32 rfl rfl ?_
              refine xg_aald 35 dX0_pairing_34 rfl (by assumption) (by omega) (h4 i (by omega)).1 ?_
              refine xg_iload 37 dX0_pairing_35 rfl rfl ?_
              refine xg_aloadn 38 dX0_pairing_37 rfl rfl rfl ?_
              refine xg_getP 41 kf_RX0_44 dX0_pairing_38 rfl (by assumption) (by assumption) ?_
              refine xg_iload 43 dX0_pairing_41 rfl rfl ?_
              refine xg_rald 44 dX0_pairing_43 rfl (by assumption) (by omega) (p1 i (by omega)) ?_
              refine xg_aloadn 45 dX0_pairing_44 rfl rfl rfl ?_
              refine xg_getP 48 kf_RX0_44 dX0_pairing_45 rfl (by assumption) (by assumption) ?_
              refine xg_iload 50 dX0_pairing_48 rfl rfl ?_
              refine xg_rald 51 dX0_pairing_50 rfl (by assumption) (by omega) (p1 j (by omega)) ?_
              refine xg_callV 54 6 [_] _ kv_X6_keysAlsoIn ⟨_, _, rfl⟩ kl_RX0_65 dX0_pairing_51 rfl (sR (π i) (p4 i (by omega))).1 (by omega) rfl rfl (Nat.le_of_ble_eq_true rfl) (by omega) ⟨Nat.le_refl _, Nat.le_refl _⟩ (ct_X6_keysAlsoIn2 (sR (π i) (p4 i (by omega))) (sR (π j) (p4 j (by omega))) (fun k k0 k1 => by rw [hf _ (by have := p4 i (by omega); omega), (hRn i (by omega)).v2 ⟨k0, k1⟩]; exact ov _ (by omega) (by omega)) (fun k k0 k1 => by rw [hf _ (by have := p4 j (by omega); omega), (hRn j (by omega)).v2 ⟨k0, k1⟩]; exact ov _ (by omega) (by omega))) rfl ?_
              rw [sAlk_e (w := w) (a := i) (b := j) (fun k k0 k1 => by rw [hf _ (by have := p4 i (by omega); omega)]; exact (hRn i (by omega)).v2 ⟨k0, k1⟩) (fun k k0 k1 => by rw [hf _ (by have := p4 j (by omega); omega)]; exact (hRn j (by omega)).v2 ⟨k0, k1⟩)]
              refine xg_iast 55 dX0_pairing_54 rfl (h4 i (by omega)).2.1 (by rw [(h4 i (by omega)).2.2]; omega) ?_
              refine xg_iinc 58 _ dX0_pairing_55 rfl rfl rfl rfl (by decide) (Or.inr rfl) ?_
              refine xg_goto 22 dX0_pairing_58 rfl ?_
              exact xg_weak _ (xle_s rfl (xle_s rfl (xle_s rfl (xle_s rfl (xle_s rfl (xle_s rfl xle_0)))))) (ih2 (j + 1) _ (by omega) (hf.up (by omega) _ _) (hsh2.S rfl) (by omega))
        exact xg_weak _ (xle_s rfl (xle_s rfl (xle_s rfl (xle_s rfl (xle_s rfl (xle_s rfl xle_0)))))) (loop22 30 0 J2 (by omega) hf hsh (by omega))
  exact xg_weak _ (xle_s rfl (xle_s rfl (xle_s rfl (xle_s rfl (xle_s rfl (xle_n xle_0)))))) (loop13 30 0 I (by omega) cFr.rf (fun g l g1 g2 => by omega) (by omega))

set_option maxHeartbeats 4000000 in
set_option maxRecDepth 100000 in
theorem ct_X0_pairing_far {E : xE} {z : Nat} {T : Nat → Nat × Int} {F : Nat → Nat → Int} {I : Nat → Int → Int} {P : Nat → Nat → Option Nat} {Y : Nat → Int → Option Nat} {a c : Nat} {w : Int → Int} (hC : wCho T P Y c) (hS : SR T F I P Y a w) (hd : c + 39 ≤ a ∨ a + 57 ≤ c) {v : Int} (hv : 8 ≤ v ∧ v ≤ 100) : Ct E 2 mX0_pairing 0 0 [.ref c, .ref a, J v] (z, T, F, I, P, Y) (xCh c (some (J (-1))) z T F I P Y) := by
  obtain ⟨k0, ⟨b1, ⟨b2, b3⟩, b4⟩, ⟨g1, ⟨g2, g3⟩, g4⟩, ⟨u1, u2, u3⟩, ⟨h1, ⟨h2, h3⟩, h4⟩, ⟨m1, m2, m3⟩, n1, n2, n3⟩ := id hC
  obtain ⟨⟨hO, hL, hTy⟩, hLw, ⟨π, hB⟩, hV, hLf⟩ := id hS
  obtain ⟨⟨⟨⟨s0, s1, s2, s3⟩, sR, ⟨s4, s5⟩, ⟨s6, sLv⟩, ⟨s7, s8⟩, ⟨s9, sJo⟩, s10, s11, s12⟩, p1, p2, p3, p4, p5⟩, ⟨⟨c1, c9, c10, c11, c12, c13, c14, c15⟩, hTl, j0, j1, j2⟩, hRn, hTb, hOt, hJo⟩ := id hB
  obtain ⟨hR, o0, o1, o2, o3, o4, o5, o6, oc, o13, o14, o16, o17, o18, ov⟩ := id hO
  have hN := wN_i o0.1
  obtain ⟨hn, hn2, hn3⟩ := nP_8 w
  have h8 : min 8 (w 0) = ((nP w : Nat) : Int) := by unfold nP; omega
  have h81 : xshl 1 ((nP w : Nat) : Int) = ((2 ^ nP w : Nat) : Int) := xshl1' (by omega)
  refine Ct.of [some (.ref c), some (.ref a), some (J v), none, none, none] kt_X0_pairing rfl (Nat.le_of_ble_eq_true rfl) rfl (fun d hd => ?_)
  generalize hX : xN E _ _ _ = X
  refine xg_bipush 2 dX0_pairing_0 rfl (by decide) ?_
  refine xg_aloadn 3 dX0_pairing_2 rfl rfl rfl ?_
  refine xg_getI 6 kf_RX0_32 dX0_pairing_3 rfl (by assumption) ?_
  rw [c1]
  refine xg_mmin 9 kl_RX0_38 dX0_pairing_6 rfl (by omega) (Nat.le_of_ble_eq_true rfl) (by omega) ⟨Nat.le_refl _, Nat.le_refl _⟩ ?_
  rw [h8]
  refine xg_istoren 10 _ dX0_pairing_9 rfl rfl rfl (by decide) (Or.inr rfl) ?_
  refine xg_iconst 11 dX0_pairing_10 rfl ?_
  refine xg_istore 13 _ dX0_pairing_11 rfl rfl (by decide) (Or.inr rfl) ?_
  have loop13 : ∀ (mm : Nat) (i : Nat) (J2 : Nat → Int → Int), (i ≤ nP w) → cFr c I J2 → pSh w J2 c i 0 (nP w) → 20 - (i : Int) < (mm : Int) → xG E mX0_pairing (xR d 0 0) X 13 [some (.ref c), some (.ref a), some (J v), some (J ((nP w : Nat) : Int)), some (J (i : Int)), none] [] (z, T, F, J2, P, Y) 0 0 := by
    intro mm
    induction mm with
    | zero => intro i J2 hi hf hsh hm; exfalso; omega
    | succ mm ih =>
      intro i J2 hi hf hsh hm
      refine xg_iload 15 dX0_pairing_13 rfl rfl ?_
      refine xg_iloadn 16 dX0_pairing_15 rfl rfl rfl ?_
      refine xg_icge 67 19 dX0_pairing_16 rfl rfl (by omega) (fun hb16 => ?_) (fun hb16 => ?_)
      · skip
        refine xg_aloadn 68 dX0_pairing_67 rfl rfl rfl ?_
        refine xg_getP 71 kf_RX0_26 dX0_pairing_68 rfl (by assumption) (by assumption) ?_
        refine xg_iconst 72 dX0_pairing_71 rfl ?_
        refine xg_iconst 73 dX0_pairing_72 rfl ?_
        refine xg_iast 74 dX0_pairing_73 rfl (by assumption) (by rw [m3]; omega) ?_
        refine xg_iconst 75 dX0_pairing_74 rfl ?_
        refine xg_istore 77 _ dX0_pairing_75 rfl rfl (by decide) (Or.inr rfl) ?_
        have loop77 : ∀ (mm : Nat) (s : Nat) (J4 : Nat → Int → Int), (1 ≤ s ∧ s ≤ 2 ^ nP w) → cFr c I J4 → pSh w J4 c (nP w) 0 (nP w) → pPr w (J4 (c + 37)) (nP w) s → 300 - (s : Int) < (mm : Int) → xG E mX0_pairing (xR d 0 0) X 77 [some (.ref c), some (.ref a), some (J v), some (J ((nP w : Nat) : Int)), some (J (s : Int)), none] [] (z, T, F, J4, P, Y) 0 0 := by
          intro mm
          induction mm with
          | zero => intro s J4 hs hf3 hsh3 hp3 hm; exfalso; omega
          | succ mm ih3 =>
            intro s J4 hs hf3 hsh3 hp3 hm
            refine xg_iload 79 dX0_pairing_77 rfl rfl ?_
            refine xg_iconst 80 dX0_pairing_79 rfl ?_
            refine xg_iloadn 81 dX0_pairing_80 rfl rfl rfl ?_
            refine xg_ishl 82 dX0_pairing_81 rfl ?_
            rw [h81]
            refine xg_icge 105 85 dX0_pairing_82 rfl rfl (by omega) (fun hb82 => ?_) (fun hb82 => ?_)
            · skip
              rw [show s = 2 ^ nP w by omega] at hp3
              refine xg_iconst 106 dX0_pairing_105 rfl ?_
              refine xg_iloadn 107 dX0_pairing_106 rfl rfl rfl ?_
              refine xg_ishl 108 dX0_pairing_107 rfl ?_
              rw [h81]
              refine xg_iconst 109 dX0_pairing_108 rfl ?_
              refine xg_isub 110 dX0_pairing_109 rfl ?_
              rw [show ((2 ^ nP w : Nat) : Int) - 1 = ((2 ^ nP w - 1 : Nat) : Int) by omega]
              refine xg_istore 112 _ dX0_pairing_110 rfl rfl (by decide) (Or.inr rfl) ?_
              refine xg_iloadn 113 dX0_pairing_112 rfl rfl rfl ?_
              refine xg_iconst 114 dX0_pairing_113 rfl ?_
              refine xg_icne 127 117 dX0_pairing_114 rfl rfl (by omega) (fun hb114 => ?_) (fun hb114 => ?_)
              · skip
                refine xg_aloadn 128 dX0_pairing_127 rfl rfl rfl ?_
                refine xg_iload 130 dX0_pairing_128 rfl rfl ?_
                refine xg_iloadn 131 dX0_pairing_130 rfl rfl rfl ?_
                refine xg_iloadn 132 dX0_pairing_131 rfl rfl rfl ?_
                refine xg_callV 135 0 [_, _, _] _ kv_X0_partnerIn ⟨_, _, rfl⟩ kl_RX0_72 dX0_pairing_132 rfl (by assumption) (by omega) rfl rfl (Nat.le_of_ble_eq_true rfl) (by omega) ⟨Nat.le_refl _, Nat.le_refl _⟩ (ct_X0_partnerIn_far hC hsh3 hp3 hv) rfl ?_
                subst hX
                exact xg_ireturn dX0_pairing_135 rfl ⟨Nat.le_refl _, Nat.le_refl _⟩ ⟨rfl, J4, rfl, hf3⟩
              · exfalso; omega
            · skip
              refine xg_aloadn 86 dX0_pairing_85 rfl rfl rfl ?_
              refine xg_getP 89 kf_RX0_26 dX0_pairing_86 rfl (by assumption) (by assumption) ?_
              refine xg_iload 91 dX0_pairing_89 rfl rfl ?_
              refine xg_aloadn 92 dX0_pairing_91 rfl rfl rfl ?_
              refine xg_iload 94 dX0_pairing_92 rfl rfl ?_
              refine xg_iloadn 95 dX0_pairing_94 rfl rfl rfl ?_
              have hls : 0 < s ∧ s < 2 ^ nP w := by omega
              refine xg_callV 98 0 [_, _] _ kv_X0_mostOf ⟨_, _, rfl⟩ kl_RX0_69 dX0_pairing_95 rfl (by assumption) (by omega) rfl rfl (Nat.le_of_ble_eq_true rfl) (by omega) ⟨Nat.le_refl _, Nat.le_refl _⟩ (ct_X0_mostOf hC hn hls hsh3 hp3) rfl ?_
              refine xg_iast 99 dX0_pairing_98 rfl (by assumption) (by rw [m3]; omega) ?_
              refine xg_iinc 102 _ dX0_pairing_99 rfl rfl rfl rfl (by decide) (Or.inr rfl) ?_
              refine xg_goto 77 dX0_pairing_102 rfl ?_
              exact xg_weak _ (xle_s rfl (xle_s rfl (xle_s rfl (xle_s rfl (xle_s rfl (xle_n xle_0)))))) (ih3 (s + 1) _ (by omega) (hf3.up (by omega) _ _) (hsh3.ne (by omega) (by omega) _ _ (by omega)) (by rw [upI_wS]; exact pPr_S hp3 (by omega)) (by omega))
        rw [show (i : Nat) = nP w by omega] at hsh
        exact xg_weak _ (xle_s rfl (xle_s rfl (xle_s rfl (xle_s rfl (xle_s rfl (xle_n xle_0)))))) (loop77 400 1 _ (by omega) (hf.up (by omega) _ _) (hsh.ne (by omega) (by omega) _ _ (by omega)) (by rw [upI_wS]; exact pPr_1 w _ _) (by omega))
      · skip
        refine xg_iconst 20 dX0_pairing_19 rfl ?_
        refine xg_istore 22 _ dX0_pairing_20 rfl rfl (by decide) (Or.inr rfl) ?_
        have loop22 : ∀ (mm : Nat) (j : Nat) (J3 : Nat → Int → Int), (j ≤ nP w) → cFr c I J3 → pSh w J3 c i j (nP w) → 20 - (j : Int) < (mm : Int) → xG E mX0_pairing (xR d 0 0) X 22 [some (.ref c), some (.ref a), some (J v), some (J ((nP w : Nat) : Int)), some (J (i : Int)), some (J (j : Int))] [] (z, T, F, J3, P, Y) 0 0 := by
          intro mm
          induction mm with
          | zero => intro j J3 hj hf hsh2 hm; exfalso; omega
          | succ mm ih2 =>
            intro j J3 hj hf hsh2 hm
            have hnN : (nP w : Int) ≤ w 0 := by unfold nP; omega
            refine xg_iload 24 dX0_pairing_22 rfl rfl ?_
            refine xg_iloadn 25 dX0_pairing_24 rfl rfl rfl ?_
            refine xg_icge 61 28 dX0_pairing_25 rfl rfl (by omega) (fun hb25 => ?_) (fun hb25 => ?_)
            · skip
              refine xg_iinc 64 _ dX0_pairing_61 rfl rfl rfl rfl (by decide) (Or.inr rfl) ?_
              refine xg_goto 13 dX0_pairing_64 rfl ?_
              exact xg_weak _ (xle_s rfl (xle_s rfl (xle_s rfl (xle_s rfl (xle_s rfl (xle_n xle_0)))))) (ih (i + 1) J3 (by omega) hf (fun g l g1 g2 => hsh2 g l g1 (by omega)) (by omega))
            · skip
              refine xg_aloadn 29 dX0_pairing_28 rfl rfl rfl ?_
              refine xg_getP 32 kf_RX0_23 dX0_pairing_29 rfl (by assumption) (by assumption) ?_
              refine xg_iload 34 dX0_pairing_32 rfl rfl ?_
              refine xg_aald 35 dX0_pairing_34 rfl (by assumption) (by omega) (h4 i (by omega)).1 ?_
              refine xg_iload 37 dX0_pairing_35 rfl rfl ?_
              refine xg_aloadn 38 dX0_pairing_37 rfl rfl rfl ?_
              refine xg_getP 41 kf_RX0_44 dX0_pairing_38 rfl (by assumption) (by assumption) ?_
              refine xg_iload 43 dX0_pairing_41 rfl rfl ?_
              refine xg_rald 44 dX0_pairing_43 rfl (by assumption) (by omega) (p1 i (by omega)) ?_
              refine xg_aloadn 45 dX0_pairing_44 rfl rfl rfl ?_
              refine xg_getP 48 kf_RX0_44 dX0_pairing_45 rfl (by assumption) (by assumption) ?_
              refine xg_iload 50 dX0_pairing_48 rfl rfl ?_
              refine xg_rald 51 dX0_pairing_50 rfl (by assumption) (by omega) (p1 j (by omega)) ?_
              refine xg_callV 54 6 [_] _ kv_X6_keysAlsoIn ⟨_, _, rfl⟩ kl_RX0_65 dX0_pairing_51 rfl (sR (π i) (p4 i (by omega))).1 (by omega) rfl rfl (Nat.le_of_ble_eq_true rfl) (by omega) ⟨Nat.le_refl _, Nat.le_refl _⟩ (ct_X6_keysAlsoIn2 (sR (π i) (p4 i (by omega))) (sR (π j) (p4 j (by omega))) (fun k k0 k1 => by rw [hf _ (by have := p4 i (by omega); omega), (hRn i (by omega)).v2 ⟨k0, k1⟩]; exact ov _ (by omega) (by omega)) (fun k k0 k1 => by rw [hf _ (by have := p4 j (by omega); omega), (hRn j (by omega)).v2 ⟨k0, k1⟩]; exact ov _ (by omega) (by omega))) rfl ?_
              rw [sAlk_e (w := w) (a := i) (b := j) (fun k k0 k1 => by rw [hf _ (by have := p4 i (by omega); omega)]; exact (hRn i (by omega)).v2 ⟨k0, k1⟩) (fun k k0 k1 => by rw [hf _ (by have := p4 j (by omega); omega)]; exact (hRn j (by omega)).v2 ⟨k0, k1⟩)]
              refine xg_iast 55 dX0_pairing_54 rfl (h4 i (by omega)).2.1 (by rw [(h4 i (by omega)).2.2]; omega) ?_
              refine xg_iinc 58 _ dX0_pairing_55 rfl rfl rfl rfl (by decide) (Or.inr rfl) ?_
              refine xg_goto 22 dX0_pairing_58 rfl ?_
              exact xg_weak _ (xle_s rfl (xle_s rfl (xle_s rfl (xle_s rfl (xle_s rfl (xle_s rfl xle_0)))))) (ih2 (j + 1) _ (by omega) (hf.up (by omega) _ _) (hsh2.S rfl) (by omega))
        exact xg_weak _ (xle_s rfl (xle_s rfl (xle_s rfl (xle_s rfl (xle_s rfl (xle_s rfl xle_0)))))) (loop22 30 0 J2 (by omega) hf hsh (by omega))
  exact xg_weak _ (xle_s rfl (xle_s rfl (xle_s rfl (xle_s rfl (xle_s rfl (xle_n xle_0)))))) (loop13 30 0 I (by omega) cFr.rf (fun g l g1 g2 => by omega) (by omega))

theorem dX0_restingPairs_0 : decode cX0_restingPairs 0 = .ok (.aload_n 1, 1) := by decide +kernel
theorem dX0_restingPairs_1 : decode cX0_restingPairs 1 = .ok (.getfield 79, 3) := by decide +kernel
theorem dX0_restingPairs_4 : decode cX0_restingPairs 4 = .ok (.aload_n 1, 1) := by decide +kernel
theorem dX0_restingPairs_5 : decode cX0_restingPairs 5 = .ok (.getfield 82, 3) := by decide +kernel
theorem dX0_restingPairs_8 : decode cX0_restingPairs 8 = .ok (.getfield 48, 3) := by decide +kernel
theorem dX0_restingPairs_11 : decode cX0_restingPairs 11 = .ok (.isub, 1) := by decide +kernel
theorem dX0_restingPairs_12 : decode cX0_restingPairs 12 = .ok (.istore_n 2, 1) := by decide +kernel
theorem dX0_restingPairs_13 : decode cX0_restingPairs 13 = .ok (.iconst 0, 1) := by decide +kernel
theorem dX0_restingPairs_14 : decode cX0_restingPairs 14 = .ok (.aload_n 1, 1) := by decide +kernel
theorem dX0_restingPairs_15 : decode cX0_restingPairs 15 = .ok (.getfield 86, 3) := by decide +kernel
theorem dX0_restingPairs_18 : decode cX0_restingPairs 18 = .ok (.getfield 90, 3) := by decide +kernel
theorem dX0_restingPairs_21 : decode cX0_restingPairs 21 = .ok (.iconst 0, 1) := by decide +kernel
theorem dX0_restingPairs_22 : decode cX0_restingPairs 22 = .ok (.iaload, 1) := by decide +kernel
theorem dX0_restingPairs_23 : decode cX0_restingPairs 23 = .ok (.isub, 1) := by decide +kernel
theorem dX0_restingPairs_24 : decode cX0_restingPairs 24 = .ok (.istore_n 3, 1) := by decide +kernel
theorem dX0_restingPairs_25 : decode cX0_restingPairs 25 = .ok (.aload_n 1, 1) := by decide +kernel
theorem dX0_restingPairs_26 : decode cX0_restingPairs 26 = .ok (.invokevirtual 95, 3) := by decide +kernel
theorem dX0_restingPairs_29 : decode cX0_restingPairs 29 = .ok (.iconst 4, 1) := by decide +kernel
theorem dX0_restingPairs_30 : decode cX0_restingPairs 30 = .ok (.idiv, 1) := by decide +kernel
theorem dX0_restingPairs_31 : decode cX0_restingPairs 31 = .ok (.istore 4, 2) := by decide +kernel
theorem dX0_restingPairs_33 : decode cX0_restingPairs 33 = .ok (.aload_n 0, 1) := by decide +kernel
theorem dX0_restingPairs_34 : decode cX0_restingPairs 34 = .ok (.getfield 29, 3) := by decide +kernel
theorem dX0_restingPairs_37 : decode cX0_restingPairs 37 = .ok (.iconst 0, 1) := by decide +kernel
theorem dX0_restingPairs_38 : decode cX0_restingPairs 38 = .ok (.iconst 2, 1) := by decide +kernel
theorem dX0_restingPairs_39 : decode cX0_restingPairs 39 = .ok (.iastore, 1) := by decide +kernel
theorem dX0_restingPairs_40 : decode cX0_restingPairs 40 = .ok (.aload_n 0, 1) := by decide +kernel
theorem dX0_restingPairs_41 : decode cX0_restingPairs 41 = .ok (.getfield 29, 3) := by decide +kernel
theorem dX0_restingPairs_44 : decode cX0_restingPairs 44 = .ok (.iconst 1, 1) := by decide +kernel
theorem dX0_restingPairs_45 : decode cX0_restingPairs 45 = .ok (.iload 4, 2) := by decide +kernel
theorem dX0_restingPairs_47 : decode cX0_restingPairs 47 = .ok (.iastore, 1) := by decide +kernel
theorem dX0_restingPairs_48 : decode cX0_restingPairs 48 = .ok (.aload_n 0, 1) := by decide +kernel
theorem dX0_restingPairs_49 : decode cX0_restingPairs 49 = .ok (.getfield 29, 3) := by decide +kernel
theorem dX0_restingPairs_52 : decode cX0_restingPairs 52 = .ok (.iconst 2, 1) := by decide +kernel
theorem dX0_restingPairs_53 : decode cX0_restingPairs 53 = .ok (.iload_n 2, 1) := by decide +kernel
theorem dX0_restingPairs_54 : decode cX0_restingPairs 54 = .ok (.iastore, 1) := by decide +kernel
theorem dX0_restingPairs_55 : decode cX0_restingPairs 55 = .ok (.aload_n 0, 1) := by decide +kernel
theorem dX0_restingPairs_56 : decode cX0_restingPairs 56 = .ok (.getfield 29, 3) := by decide +kernel
theorem dX0_restingPairs_59 : decode cX0_restingPairs 59 = .ok (.iconst 3, 1) := by decide +kernel
theorem dX0_restingPairs_60 : decode cX0_restingPairs 60 = .ok (.iload_n 3, 1) := by decide +kernel
theorem dX0_restingPairs_61 : decode cX0_restingPairs 61 = .ok (.iastore, 1) := by decide +kernel
theorem dX0_restingPairs_62 : decode cX0_restingPairs 62 = .ok (.aload_n 0, 1) := by decide +kernel
theorem dX0_restingPairs_63 : decode cX0_restingPairs 63 = .ok (.getfield 29, 3) := by decide +kernel
theorem dX0_restingPairs_66 : decode cX0_restingPairs 66 = .ok (.iconst 4, 1) := by decide +kernel
theorem dX0_restingPairs_67 : decode cX0_restingPairs 67 = .ok (.iconst 0, 1) := by decide +kernel
theorem dX0_restingPairs_68 : decode cX0_restingPairs 68 = .ok (.iastore, 1) := by decide +kernel
theorem dX0_restingPairs_69 : decode cX0_restingPairs 69 = .ok (.aload_n 0, 1) := by decide +kernel
theorem dX0_restingPairs_70 : decode cX0_restingPairs 70 = .ok (.getfield 29, 3) := by decide +kernel
theorem dX0_restingPairs_73 : decode cX0_restingPairs 73 = .ok (.iconst 5, 1) := by decide +kernel
theorem dX0_restingPairs_74 : decode cX0_restingPairs 74 = .ok (.iconst 1, 1) := by decide +kernel
theorem dX0_restingPairs_75 : decode cX0_restingPairs 75 = .ok (.iastore, 1) := by decide +kernel
theorem dX0_restingPairs_76 : decode cX0_restingPairs 76 = .ok (.aload_n 0, 1) := by decide +kernel
theorem dX0_restingPairs_77 : decode cX0_restingPairs 77 = .ok (.getfield 29, 3) := by decide +kernel
theorem dX0_restingPairs_80 : decode cX0_restingPairs 80 = .ok (.bipush 6, 2) := by decide +kernel
theorem dX0_restingPairs_82 : decode cX0_restingPairs 82 = .ok (.iconst (-1), 1) := by decide +kernel
theorem dX0_restingPairs_83 : decode cX0_restingPairs 83 = .ok (.iastore, 1) := by decide +kernel
theorem dX0_restingPairs_84 : decode cX0_restingPairs 84 = .ok (.aload_n 0, 1) := by decide +kernel
theorem dX0_restingPairs_85 : decode cX0_restingPairs 85 = .ok (.getfield 29, 3) := by decide +kernel
theorem dX0_restingPairs_88 : decode cX0_restingPairs 88 = .ok (.bipush 7, 2) := by decide +kernel
theorem dX0_restingPairs_90 : decode cX0_restingPairs 90 = .ok (.iconst 2, 1) := by decide +kernel
theorem dX0_restingPairs_91 : decode cX0_restingPairs 91 = .ok (.iastore, 1) := by decide +kernel
theorem dX0_restingPairs_92 : decode cX0_restingPairs 92 = .ok (.iconst 0, 1) := by decide +kernel
theorem dX0_restingPairs_93 : decode cX0_restingPairs 93 = .ok (.istore 5, 2) := by decide +kernel
theorem dX0_restingPairs_95 : decode cX0_restingPairs 95 = .ok (.iconst 0, 1) := by decide +kernel
theorem dX0_restingPairs_96 : decode cX0_restingPairs 96 = .ok (.istore 6, 2) := by decide +kernel
theorem dX0_restingPairs_98 : decode cX0_restingPairs 98 = .ok (.iload 6, 2) := by decide +kernel
theorem dX0_restingPairs_100 : decode cX0_restingPairs 100 = .ok (.iconst 4, 1) := by decide +kernel
theorem dX0_restingPairs_101 : decode cX0_restingPairs 101 = .ok (.if_icmp .ge 76, 3) := by decide +kernel
theorem dX0_restingPairs_104 : decode cX0_restingPairs 104 = .ok (.iload 6, 2) := by decide +kernel
theorem dX0_restingPairs_106 : decode cX0_restingPairs 106 = .ok (.iconst 2, 1) := by decide +kernel
theorem dX0_restingPairs_107 : decode cX0_restingPairs 107 = .ok (.ixor, 1) := by decide +kernel
theorem dX0_restingPairs_108 : decode cX0_restingPairs 108 = .ok (.istore 7, 2) := by decide +kernel
theorem dX0_restingPairs_110 : decode cX0_restingPairs 110 = .ok (.iload 6, 2) := by decide +kernel
theorem dX0_restingPairs_112 : decode cX0_restingPairs 112 = .ok (.iconst 1, 1) := by decide +kernel
theorem dX0_restingPairs_113 : decode cX0_restingPairs 113 = .ok (.ixor, 1) := by decide +kernel
theorem dX0_restingPairs_114 : decode cX0_restingPairs 114 = .ok (.istore 8, 2) := by decide +kernel
theorem dX0_restingPairs_116 : decode cX0_restingPairs 116 = .ok (.aload_n 0, 1) := by decide +kernel
theorem dX0_restingPairs_117 : decode cX0_restingPairs 117 = .ok (.getfield 29, 3) := by decide +kernel
theorem dX0_restingPairs_120 : decode cX0_restingPairs 120 = .ok (.iconst 2, 1) := by decide +kernel
theorem dX0_restingPairs_121 : decode cX0_restingPairs 121 = .ok (.iload 6, 2) := by decide +kernel
theorem dX0_restingPairs_123 : decode cX0_restingPairs 123 = .ok (.imul, 1) := by decide +kernel
theorem dX0_restingPairs_124 : decode cX0_restingPairs 124 = .ok (.iaload, 1) := by decide +kernel
theorem dX0_restingPairs_125 : decode cX0_restingPairs 125 = .ok (.aload_n 0, 1) := by decide +kernel
theorem dX0_restingPairs_126 : decode cX0_restingPairs 126 = .ok (.getfield 29, 3) := by decide +kernel
theorem dX0_restingPairs_129 : decode cX0_restingPairs 129 = .ok (.iconst 2, 1) := by decide +kernel
theorem dX0_restingPairs_130 : decode cX0_restingPairs 130 = .ok (.iload 7, 2) := by decide +kernel
theorem dX0_restingPairs_132 : decode cX0_restingPairs 132 = .ok (.imul, 1) := by decide +kernel
theorem dX0_restingPairs_133 : decode cX0_restingPairs 133 = .ok (.iaload, 1) := by decide +kernel
theorem dX0_restingPairs_134 : decode cX0_restingPairs 134 = .ok (.if_icmp .lt 37, 3) := by decide +kernel
theorem dX0_restingPairs_137 : decode cX0_restingPairs 137 = .ok (.aload_n 0, 1) := by decide +kernel
theorem dX0_restingPairs_138 : decode cX0_restingPairs 138 = .ok (.getfield 29, 3) := by decide +kernel
theorem dX0_restingPairs_141 : decode cX0_restingPairs 141 = .ok (.iconst 2, 1) := by decide +kernel
theorem dX0_restingPairs_142 : decode cX0_restingPairs 142 = .ok (.iload 6, 2) := by decide +kernel
theorem dX0_restingPairs_144 : decode cX0_restingPairs 144 = .ok (.imul, 1) := by decide +kernel
theorem dX0_restingPairs_145 : decode cX0_restingPairs 145 = .ok (.iconst 1, 1) := by decide +kernel
theorem dX0_restingPairs_146 : decode cX0_restingPairs 146 = .ok (.iadd, 1) := by decide +kernel
theorem dX0_restingPairs_147 : decode cX0_restingPairs 147 = .ok (.iaload, 1) := by decide +kernel
theorem dX0_restingPairs_148 : decode cX0_restingPairs 148 = .ok (.aload_n 0, 1) := by decide +kernel
theorem dX0_restingPairs_149 : decode cX0_restingPairs 149 = .ok (.getfield 29, 3) := by decide +kernel
theorem dX0_restingPairs_152 : decode cX0_restingPairs 152 = .ok (.iconst 2, 1) := by decide +kernel
theorem dX0_restingPairs_153 : decode cX0_restingPairs 153 = .ok (.iload 8, 2) := by decide +kernel
theorem dX0_restingPairs_155 : decode cX0_restingPairs 155 = .ok (.imul, 1) := by decide +kernel
theorem dX0_restingPairs_156 : decode cX0_restingPairs 156 = .ok (.iconst 1, 1) := by decide +kernel
theorem dX0_restingPairs_157 : decode cX0_restingPairs 157 = .ok (.iadd, 1) := by decide +kernel
theorem dX0_restingPairs_158 : decode cX0_restingPairs 158 = .ok (.iaload, 1) := by decide +kernel
theorem dX0_restingPairs_159 : decode cX0_restingPairs 159 = .ok (.if_icmp .lt 12, 3) := by decide +kernel
theorem dX0_restingPairs_162 : decode cX0_restingPairs 162 = .ok (.iload 5, 2) := by decide +kernel
theorem dX0_restingPairs_164 : decode cX0_restingPairs 164 = .ok (.iconst 1, 1) := by decide +kernel
theorem dX0_restingPairs_165 : decode cX0_restingPairs 165 = .ok (.iload 6, 2) := by decide +kernel
theorem dX0_restingPairs_167 : decode cX0_restingPairs 167 = .ok (.ishl, 1) := by decide +kernel
theorem dX0_restingPairs_168 : decode cX0_restingPairs 168 = .ok (.ior, 1) := by decide +kernel
theorem dX0_restingPairs_169 : decode cX0_restingPairs 169 = .ok (.istore 5, 2) := by decide +kernel
theorem dX0_restingPairs_171 : decode cX0_restingPairs 171 = .ok (.iinc 6 1, 3) := by decide +kernel
theorem dX0_restingPairs_174 : decode cX0_restingPairs 174 = .ok (.goto (-76), 3) := by decide +kernel
theorem dX0_restingPairs_177 : decode cX0_restingPairs 177 = .ok (.iload 5, 2) := by decide +kernel
theorem dX0_restingPairs_179 : decode cX0_restingPairs 179 = .ok (.ireturn, 1) := by decide +kernel
def gRs (x : Nat) (I : Nat → Int → Int) (r i o : Int) : Nat → Int → Int := upI (upI (upI (upI (upI (upI (upI (upI I x 0 2) x 1 o) x 2 r) x 3 i) x 4 0) x 5 1) x 6 (-1)) x 7 2
theorem gRs_at (x : Nat) (I : Nat → Int → Int) (r i o : Int) : gRs x I r i o x 0 = 2 ∧ gRs x I r i o x 1 = o ∧ gRs x I r i o x 2 = r ∧ gRs x I r i o x 3 = i ∧ gRs x I r i o x 4 = 0 ∧ gRs x I r i o x 5 = 1 ∧ gRs x I r i o x 6 = -1 ∧ gRs x I r i o x 7 = 2 := by
  unfold gRs upI
  refine ⟨?_, ?_, ?_, ?_, ?_, ?_, ?_, ?_⟩ <;> simp
theorem gRs_cases {w : Int → Int} {x : Nat} {I : Nat → Int → Int} {k : Nat} (hk : k < 4) : gRs x I (w 5 - sEnt w 19) (-sMany w 0) (sDebt w / 4) x (2 * (k : Int)) = sWr w ((k / 2 : Nat) : Int) ((k % 2 : Nat) : Int) ∧ gRs x I (w 5 - sEnt w 19) (-sMany w 0) (sDebt w / 4) x (2 * (k : Int) + 1) = sMr w ((k / 2 : Nat) : Int) ((k % 2 : Nat) : Int) := by
  obtain ⟨a0, a1, a2, a3, a4, a5, a6, a7⟩ := gRs_at x I (w 5 - sEnt w 19) (-sMany w 0) (sDebt w / 4)
  rcases (show k = 0 ∨ k = 1 ∨ k = 2 ∨ k = 3 by omega) with rfl | rfl | rfl | rfl
  · exact ⟨a0, a1⟩
  · exact ⟨a2, a3⟩
  · exact ⟨a4, a5⟩
  · exact ⟨a6, a7⟩
theorem xx4 {k : Nat} (hk : k < 4) : xxor (k : Int) 2 = ((if k < 2 then k + 2 else k - 2 : Nat) : Int) ∧ xxor (k : Int) 1 = ((if k % 2 = 0 then k + 1 else k - 1 : Nat) : Int) := by
  have h : ∀ k : Fin 4, xxor ((k.val : Nat) : Int) 2 = ((if k.val < 2 then k.val + 2 else k.val - 2 : Nat) : Int) ∧ xxor ((k.val : Nat) : Int) 1 = ((if k.val % 2 = 0 then k.val + 1 else k.val - 1 : Nat) : Int) := by decide +kernel
  exact h ⟨k, hk⟩
theorem k2_d {k : Nat} (hk : k < 4) : (((if k < 2 then k + 2 else k - 2 : Nat) / 2 : Nat) : Int) = 1 - ((k / 2 : Nat) : Int) ∧ (((if k < 2 then k + 2 else k - 2 : Nat) % 2 : Nat) : Int) = ((k % 2 : Nat) : Int) ∧ (((if k % 2 = 0 then k + 1 else k - 1 : Nat) / 2 : Nat) : Int) = ((k / 2 : Nat) : Int) ∧ (((if k % 2 = 0 then k + 1 else k - 1 : Nat) % 2 : Nat) : Int) = 1 - ((k % 2 : Nat) : Int) := by
  refine ⟨?_, ?_, ?_, ?_⟩ <;> split <;> omega
theorem nSet_no {p : Nat → Bool} {r : Nat} (h : p r = false) : ((nSet p r : Nat) : Int) = (nSet p (r + 1) : Nat) := by rw [nSet, h]; simp
theorem xx4a {k : Nat} (hk : k < 4) : ∃ b : Nat, xxor (k : Int) 2 = (b : Int) ∧ b < 4 ∧ ((b / 2 : Nat) : Int) = 1 - ((k / 2 : Nat) : Int) ∧ ((b % 2 : Nat) : Int) = ((k % 2 : Nat) : Int) := ⟨_, (xx4 hk).1, by split <;> omega, (k2_d hk).1, (k2_d hk).2.1⟩
theorem xx4b {k : Nat} (hk : k < 4) : ∃ b : Nat, xxor (k : Int) 1 = (b : Int) ∧ b < 4 ∧ ((b / 2 : Nat) : Int) = ((k / 2 : Nat) : Int) ∧ ((b % 2 : Nat) : Int) = 1 - ((k % 2 : Nat) : Int) := ⟨_, (xx4 hk).2, by split <;> omega, (k2_d hk).2.2.1, (k2_d hk).2.2.2⟩
theorem sRst_tk {w : Int → Int} {k : Nat} (h1 : sWr w (1 - ((k / 2 : Nat) : Int)) ((k % 2 : Nat) : Int) ≤ sWr w ((k / 2 : Nat) : Int) ((k % 2 : Nat) : Int)) (h2 : sMr w ((k / 2 : Nat) : Int) (1 - ((k % 2 : Nat) : Int)) ≤ sMr w ((k / 2 : Nat) : Int) ((k % 2 : Nat) : Int)) : sRst w k = true := @decide_eq_true _ (Classical.propDecidable _) ⟨h1, h2⟩
theorem sRst_fk {w : Int → Int} {k : Nat} (h : sWr w ((k / 2 : Nat) : Int) ((k % 2 : Nat) : Int) < sWr w (1 - ((k / 2 : Nat) : Int)) ((k % 2 : Nat) : Int) ∨ sMr w ((k / 2 : Nat) : Int) ((k % 2 : Nat) : Int) < sMr w ((k / 2 : Nat) : Int) (1 - ((k % 2 : Nat) : Int))) : sRst w k = false := @decide_eq_false _ (Classical.propDecidable _) (fun q => by omega)
set_option maxHeartbeats 4000000 in
set_option maxRecDepth 100000 in
theorem ct_X0_restingPairs {E : xE} {z : Nat} {T : Nat → Nat × Int} {F : Nat → Nat → Int} {I : Nat → Int → Int} {P : Nat → Nat → Option Nat} {Y : Nat → Int → Option Nat} {a c : Nat} {w : Int → Int} (hC : wCho T P Y c) (hS : SR T F I P Y a w) (hr : wRn w) : Ct E 1 mX0_restingPairs 0 0 [.ref c, .ref a] (z, T, F, I, P, Y) (xCh c (some (J (nSet (sRst w) 4 : Nat))) z T F I P Y) := by
  obtain ⟨k0, ⟨b1, ⟨b2, b3⟩, b4⟩, ⟨g1, ⟨g2, g3⟩, g4⟩, ⟨u1, u2, u3⟩, ⟨h1, ⟨h2, h3⟩, h4⟩, ⟨m1, m2, m3⟩, n1, n2, n3⟩ := id hC
  obtain ⟨⟨hO, hL, hTy⟩, hLw, ⟨π, hB⟩, hV, hLf⟩ := id hS
  obtain ⟨⟨⟨⟨s0, s1, s2, s3⟩, sR, ⟨s4, s5⟩, ⟨s6, sLv⟩, ⟨s7, s8⟩, ⟨s9, sJo⟩, s10, s11, s12⟩, p1, p2, p3, p4, p5⟩, ⟨⟨c1, c9, c10, c11, c12, c13, c14, c15⟩, hTl, j0, j1, j2⟩, hRn, hTb, hOt, hJo⟩ := id hB
  obtain ⟨hR, o0, o1, o2, o3, o4, o5, o6, oc, o13, o14, o16, o17, o18, ov⟩ := id hO
  have hN := wN_i o0.1
  have hde := sDebt_eq hr o0
  have hdb := sDebt_bd (w := w) o0.2
  have hmb := sMany_bd w 0
  have hsb := sEnt_bd w 19
  refine Ct.of [some (.ref c), some (.ref a), none, none, none, none, none, none, none] kt_X0_restingPairs rfl (Nat.le_of_ble_eq_true rfl) rfl (fun d hd => ?_)
  generalize hX : xN E _ _ _ = X
  refine xg_aloadn 1 dX0_restingPairs_0 rfl rfl rfl ?_
  refine xg_getI 4 kf_RX0_79 dX0_restingPairs_1 rfl (by assumption) ?_
  rw [c11]
  refine xg_aloadn 5 dX0_restingPairs_4 rfl rfl rfl ?_
  refine xg_getP 8 kf_RX0_82 dX0_restingPairs_5 rfl (by assumption) (by assumption) ?_
  refine xg_getI 11 kf_RX0_48 dX0_restingPairs_8 rfl (sR (π 12) (p4 12 (by omega))).1 ?_
  rw [hTb.n]
  refine xg_isub 12 dX0_restingPairs_11 rfl ?_
  refine xg_istoren 13 _ dX0_restingPairs_12 rfl rfl rfl (by decide) (Or.inr rfl) ?_
  refine xg_iconst 14 dX0_restingPairs_13 rfl ?_
  refine xg_aloadn 15 dX0_restingPairs_14 rfl rfl rfl ?_
  refine xg_getP 18 kf_RX0_86 dX0_restingPairs_15 rfl (by assumption) (by assumption) ?_
  refine xg_getP 21 kf_RX0_90 dX0_restingPairs_18 rfl sLv.1 sLv.2.1.2.1 ?_
  refine xg_iconst 22 dX0_restingPairs_21 rfl ?_
  refine xg_iald 23 dX0_restingPairs_22 rfl sLv.2.2.2.1.1 (by rw [sLv.2.2.2.1.2]; omega) ?_
  rw [show I (a + 45 + 2) 0 = sMany w 0 from (hV.1 0 (by omega)).2.1]
  refine xg_isub 24 dX0_restingPairs_23 rfl ?_
  rw [Int.zero_sub]
  refine xg_istoren 25 _ dX0_restingPairs_24 rfl rfl rfl (by decide) (Or.inr rfl) ?_
  refine xg_aloadn 26 dX0_restingPairs_25 rfl rfl rfl ?_
  refine xg_callV 29 8 [] _ kv_X8_debtNow ⟨_, _, rfl⟩ kl_RX0_95 dX0_restingPairs_26 rfl (by assumption) (by omega) rfl rfl (Nat.le_of_ble_eq_true rfl) (by omega) ⟨Nat.le_refl _, Nat.le_refl _⟩ (ct_X8_debtNow hS) rfl ?_
  rw [← hde]
  refine xg_iconst 30 dX0_restingPairs_29 rfl ?_
  refine xg_idiv 31 dX0_restingPairs_30 rfl (by omega) ?_
  refine xg_istore 33 _ dX0_restingPairs_31 rfl rfl (by decide) (Or.inr rfl) ?_
  refine xg_aloadn 34 dX0_restingPairs_33 rfl rfl rfl ?_
  refine xg_getP 37 kf_RX0_29 dX0_restingPairs_34 rfl (by assumption) (by assumption) ?_
  refine xg_iconst 38 dX0_restingPairs_37 rfl ?_
  refine xg_iconst 39 dX0_restingPairs_38 rfl ?_
  refine xg_iast 40 dX0_restingPairs_39 rfl (by assumption) (by omega) ?_
  refine xg_aloadn 41 dX0_restingPairs_40 rfl rfl rfl ?_
  refine xg_getP 44 kf_RX0_29 dX0_restingPairs_41 rfl (by assumption) (by assumption) ?_
  refine xg_iconst 45 dX0_restingPairs_44 rfl ?_
  refine xg_iload 47 dX0_restingPairs_45 rfl rfl ?_
  refine xg_iast 48 dX0_restingPairs_47 rfl (by assumption) (by omega) ?_
  refine xg_aloadn 49 dX0_restingPairs_48 rfl rfl rfl ?_
  refine xg_getP 52 kf_RX0_29 dX0_restingPairs_49 rfl (by assumption) (by assumption) ?_
  refine xg_iconst 53 dX0_restingPairs_52 rfl ?_
  refine xg_iloadn 54 dX0_restingPairs_53 rfl rfl rfl ?_
  refine xg_iast 55 dX0_restingPairs_54 rfl (by assumption) (by omega) ?_
  refine xg_aloadn 56 dX0_restingPairs_55 rfl rfl rfl ?_
  refine xg_getP 59 kf_RX0_29 dX0_restingPairs_56 rfl (by assumption) (by assumption) ?_
  refine xg_iconst 60 dX0_restingPairs_59 rfl ?_
  refine xg_iloadn 61 dX0_restingPairs_60 rfl rfl rfl ?_
  refine xg_iast 62 dX0_restingPairs_61 rfl (by assumption) (by omega) ?_
  refine xg_aloadn 63 dX0_restingPairs_62 rfl rfl rfl ?_
  refine xg_getP 66 kf_RX0_29 dX0_restingPairs_63 rfl (by assumption) (by assumption) ?_
  refine xg_iconst 67 dX0_restingPairs_66 rfl ?_
  refine xg_iconst 68 dX0_restingPairs_67 rfl ?_
  refine xg_iast 69 dX0_restingPairs_68 rfl (by assumption) (by omega) ?_
  refine xg_aloadn 70 dX0_restingPairs_69 rfl rfl rfl ?_
  refine xg_getP 73 kf_RX0_29 dX0_restingPairs_70 rfl (by assumption) (by assumption) ?_
  refine xg_iconst 74 dX0_restingPairs_73 rfl ?_
  refine xg_iconst 75 dX0_restingPairs_74 rfl ?_
  refine xg_iast 76 dX0_restingPairs_75 rfl (by assumption) (by omega) ?_
  refine xg_aloadn 77 dX0_restingPairs_76 rfl rfl rfl ?_
  refine xg_getP 80 kf_RX0_29 dX0_restingPairs_77 rfl (by assumption) (by assumption) ?_
  refine xg_bipush 82 dX0_restingPairs_80 rfl (by decide) ?_
  refine xg_iconst 83 dX0_restingPairs_82 rfl ?_
  refine xg_iast 84 dX0_restingPairs_83 rfl (by assumption) (by omega) ?_
  refine xg_aloadn 85 dX0_restingPairs_84 rfl rfl rfl ?_
  refine xg_getP 88 kf_RX0_29 dX0_restingPairs_85 rfl (by assumption) (by assumption) ?_
  refine xg_bipush 90 dX0_restingPairs_88 rfl (by decide) ?_
  refine xg_iconst 91 dX0_restingPairs_90 rfl ?_
  refine xg_iast 92 dX0_restingPairs_91 rfl (by assumption) (by omega) ?_
  refine xg_iconst 93 dX0_restingPairs_92 rfl ?_
  refine xg_istore 95 _ dX0_restingPairs_93 rfl rfl (by decide) (Or.inr rfl) ?_
  refine xg_iconst 96 dX0_restingPairs_95 rfl ?_
  refine xg_istore 98 _ dX0_restingPairs_96 rfl rfl (by decide) (Or.inr rfl) ?_
  have loop98 : ∀ (mm : Nat) (k : Nat), k ≤ 4 → 20 - (k : Int) < (mm : Int) → xG E mX0_restingPairs (xR d 0 0) X 98 [some (.ref c), some (.ref a), some (J (w 5 - sEnt w 19)), some (J (-sMany w 0)), some (J (sDebt w / 4)), some (J (nSet (sRst w) k : Nat)), some (J (k : Int)), none, none] [] (z, T, F, (gRs (c + 38) I (w 5 - sEnt w 19) (-sMany w 0) (sDebt w / 4)), P, Y) 0 0 := by
    intro mm
    induction mm with
    | zero => intro k hk4 hm; exfalso; omega
    | succ mm ih =>
      intro k hk4 hm
      refine xg_iload 100 dX0_restingPairs_98 rfl rfl ?_
      refine xg_iconst 101 dX0_restingPairs_100 rfl ?_
      refine xg_icge 177 104 dX0_restingPairs_101 rfl rfl (by omega) (fun hb101 => ?_) (fun hb101 => ?_)
      · skip
        refine xg_iload 179 dX0_restingPairs_177 rfl rfl ?_
        subst hX
        exact xg_ireturn dX0_restingPairs_179 rfl ⟨Nat.le_refl _, Nat.le_refl _⟩ ⟨by rw [show k = 4 by omega], _, rfl, fun b hb => by unfold gRs; rw [upI_na _ _ _ _ (by omega), upI_na _ _ _ _ (by omega), upI_na _ _ _ _ (by omega), upI_na _ _ _ _ (by omega), upI_na _ _ _ _ (by omega), upI_na _ _ _ _ (by omega), upI_na _ _ _ _ (by omega), upI_na _ _ _ _ (by omega)]⟩
      · skip
        have hk : k < 4 := by omega
        obtain ⟨kb, hb0, hb4, d1, d2⟩ := xx4a hk
        obtain ⟨km, hm0, hm4, d3, d4⟩ := xx4b hk
        obtain ⟨v1, v2⟩ := gRs_cases (w := w) (x := c + 38) (I := I) hk
        obtain ⟨v3, -⟩ := gRs_cases (w := w) (x := c + 38) (I := I) hb4
        obtain ⟨-, v6⟩ := gRs_cases (w := w) (x := c + 38) (I := I) hm4
        rw [d1, d2] at v3
        rw [d3, d4] at v6
        have e1 := sWr_bd hO ((k / 2 : Nat) : Int) ((k % 2 : Nat) : Int)
        have e2 := sWr_bd hO (1 - ((k / 2 : Nat) : Int)) ((k % 2 : Nat) : Int)
        have e3 := sMr_bd hO ((k / 2 : Nat) : Int) ((k % 2 : Nat) : Int)
        have e4 := sMr_bd hO ((k / 2 : Nat) : Int) (1 - ((k % 2 : Nat) : Int))
        clear d1 d2 d3 d4
        refine xg_iload 106 dX0_restingPairs_104 rfl rfl ?_
        refine xg_iconst 107 dX0_restingPairs_106 rfl ?_
        refine xg_ixor 108 dX0_restingPairs_107 rfl ?_
        rw [hb0]
        refine xg_istore 110 _ dX0_restingPairs_108 rfl rfl (by decide) (Or.inr rfl) ?_
        refine xg_iload 112 dX0_restingPairs_110 rfl rfl ?_
        refine xg_iconst 113 dX0_restingPairs_112 rfl ?_
        refine xg_ixor 114 dX0_restingPairs_113 rfl ?_
        rw [hm0]
        refine xg_istore 116 _ dX0_restingPairs_114 rfl rfl (by decide) (Or.inr rfl) ?_
        refine xg_aloadn 117 dX0_restingPairs_116 rfl rfl rfl ?_
        refine xg_getP 120 kf_RX0_29 dX0_restingPairs_117 rfl (by assumption) (by assumption) ?_
        refine xg_iconst 121 dX0_restingPairs_120 rfl ?_
        refine xg_iload 123 dX0_restingPairs_121 rfl rfl ?_
        refine xg_imul 124 dX0_restingPairs_123 rfl ?_
        refine xg_iald 125 dX0_restingPairs_124 rfl (by assumption) (by omega) ?_
        rw [v1]
        refine xg_aloadn 126 dX0_restingPairs_125 rfl rfl rfl ?_
        refine xg_getP 129 kf_RX0_29 dX0_restingPairs_126 rfl (by assumption) (by assumption) ?_
        refine xg_iconst 130 dX0_restingPairs_129 rfl ?_
        refine xg_iload 132 dX0_restingPairs_130 rfl rfl ?_
        refine xg_imul 133 dX0_restingPairs_132 rfl ?_
        refine xg_iald 134 dX0_restingPairs_133 rfl (by assumption) (by omega) ?_
        rw [v3]
        refine xg_iclt 171 137 dX0_restingPairs_134 rfl rfl (by omega) (fun hb134 => ?_) (fun hb134 => ?_)
        · skip
          refine xg_iinc 174 _ dX0_restingPairs_171 rfl rfl rfl rfl (by decide) (Or.inr rfl) ?_
          refine xg_goto 98 dX0_restingPairs_174 rfl ?_
          exact xg_weak _ (xle_s rfl (xle_s rfl (xle_s rfl (xle_s rfl (xle_s rfl (xle_s (congrArg (fun v => some (J v)) (nSet_no (sRst_fk (Or.inl (by omega))))) (xle_s rfl (xle_n (xle_n xle_0))))))))) (ih (k + 1) (by omega) (by omega))
        · skip
          refine xg_aloadn 138 dX0_restingPairs_137 rfl rfl rfl ?_
          refine xg_getP 141 kf_RX0_29 dX0_restingPairs_138 rfl (by assumption) (by assumption) ?_
          refine xg_iconst 142 dX0_restingPairs_141 rfl ?_
          refine xg_iload 144 dX0_restingPairs_142 rfl rfl ?_
          refine xg_imul 145 dX0_restingPairs_144 rfl ?_
          refine xg_iconst 146 dX0_restingPairs_145 rfl ?_
          refine xg_iadd 147 dX0_restingPairs_146 rfl ?_
          refine xg_iald 148 dX0_restingPairs_147 rfl (by assumption) (by omega) ?_
          rw [v2]
          refine xg_aloadn 149 dX0_restingPairs_148 rfl rfl rfl ?_
          refine xg_getP 152 kf_RX0_29 dX0_restingPairs_149 rfl (by assumption) (by assumption) ?_
          refine xg_iconst 153 dX0_restingPairs_152 rfl ?_
          refine xg_iload 155 dX0_restingPairs_153 rfl rfl ?_
          refine xg_imul 156 dX0_restingPairs_155 rfl ?_
          refine xg_iconst 157 dX0_restingPairs_156 rfl ?_
          refine xg_iadd 158 dX0_restingPairs_157 rfl ?_
          refine xg_iald 159 dX0_restingPairs_158 rfl (by assumption) (by omega) ?_
          rw [v6]
          refine xg_iclt 171 162 dX0_restingPairs_159 rfl rfl (by omega) (fun hb159 => ?_) (fun hb159 => ?_)
          · skip
            refine xg_iinc 174 _ dX0_restingPairs_171 rfl rfl rfl rfl (by decide) (Or.inr rfl) ?_
            refine xg_goto 98 dX0_restingPairs_174 rfl ?_
            exact xg_weak _ (xle_s rfl (xle_s rfl (xle_s rfl (xle_s rfl (xle_s rfl (xle_s (congrArg (fun v => some (J v)) (nSet_no (sRst_fk (Or.inr (by omega))))) (xle_s rfl (xle_n (xle_n xle_0))))))))) (ih (k + 1) (by omega) (by omega))
          · skip
            refine xg_iload 164 dX0_restingPairs_162 rfl rfl ?_
            refine xg_iconst 165 dX0_restingPairs_164 rfl ?_
            refine xg_iload 167 dX0_restingPairs_165 rfl rfl ?_
            refine xg_ishl 168 dX0_restingPairs_167 rfl ?_
            refine xg_ior 169 dX0_restingPairs_168 rfl ?_
            refine xg_istore 171 _ dX0_restingPairs_169 rfl rfl (by decide) (Or.inr rfl) ?_
            refine xg_iinc 174 _ dX0_restingPairs_171 rfl rfl rfl rfl (by decide) (Or.inr rfl) ?_
            refine xg_goto 98 dX0_restingPairs_174 rfl ?_
            exact xg_weak _ (xle_s rfl (xle_s rfl (xle_s rfl (xle_s rfl (xle_s rfl (xle_s (congrArg (fun v => some (J v)) (nSet_t (sRst_tk (by omega) (by omega)) (by omega))) (xle_s rfl (xle_n (xle_n xle_0))))))))) (ih (k + 1) (by omega) (by omega))
  exact xg_weak _ (xle_s rfl (xle_s rfl (xle_s rfl (xle_s rfl (xle_s rfl (xle_s rfl (xle_s rfl (xle_n (xle_n xle_0))))))))) (loop98 30 0 (by omega) (by omega))

