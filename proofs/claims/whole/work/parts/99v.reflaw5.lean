theorem fUse_R (F : Nat → Nat → Int) (m : Nat) : upF (fUse F m) m 16 0 = fR (fUse F m) m 0 (F m 12) (F m 13) 0 := by
  funext a j; unfold fUse fR upF
  by_cases h : a = m
  · subst h
    by_cases h16 : j = 16
    · subst h16; simp
    by_cases h10 : j = 10
    · subst h10; simp
    by_cases h12 : j = 12
    · subst h12; simp
    by_cases h13 : j = 13
    · subst h13; simp
    simp [h16, h10, h12, h13]
  · simp [h]
theorem fUse_n (F : Nat → Nat → Int) (m : Nat) : fUse F m m 11 = F m 9 ∧ fUse F m m 9 = 0 ∧ fUse F m m 0 = 0 := by
  unfold fUse upF; simp
theorem fUse_o (F : Nat → Nat → Int) (m : Nat) {a j : Nat} (h : a ≠ m ∨ (j ≠ 0 ∧ j ≠ 9 ∧ j ≠ 10 ∧ j ≠ 11)) : fUse F m a j = F a j := by
  unfold fUse upF
  rw [if_neg (by omega), if_neg (by omega), if_neg (by omega), if_neg (by omega)]
theorem gLawL_1 {t : Int → Int} {e q f : Int} {k : Nat} {cs : List (Int × Int)} {ls : List gLn} (h : gLine t e q = .inl f) : gLawL t e (k + 1) q cs ls = .inl f := by rw [gLawL, h]
theorem gLawL_2 {t : Int → Int} {e q q' : Int} {k : Nat} {ka : Int × Int} {cs c : List (Int × Int)} {ls : List gLn} (h : gLine t e q = .inr (ka, c, q')) (h2 : zK t e q' = 52) : gLawL t e (k + 1) q cs ls = .inr (ls ++ [(ka.1, ka.2, (cs.length : Int), ((cs ++ c).length : Int))], cs ++ c) := by rw [gLawL, h]; exact if_pos h2
theorem gLawL_3 {t : Int → Int} {e q q' : Int} {k : Nat} {ka : Int × Int} {cs c : List (Int × Int)} {ls : List gLn} (h : gLine t e q = .inr (ka, c, q')) (h2 : zK t e q' ≠ 52) (h3 : zK t e q' = 159) : gLawL t e (k + 1) q cs ls = gLawL t e k (zX t e q') (cs ++ c) (ls ++ [(ka.1, ka.2, (cs.length : Int), ((cs ++ c).length : Int))]) := by
  rw [gLawL, h]; show (if zK t e q' = 52 then _ else if zK t e q' = 159 then _ else _) = _; rw [if_neg h2, if_pos h3]
theorem gLawL_4 {t : Int → Int} {e q q' : Int} {k : Nat} {ka : Int × Int} {cs c : List (Int × Int)} {ls : List gLn} (h : gLine t e q = .inr (ka, c, q')) (h2 : zK t e q' ≠ 52) (h3 : zK t e q' ≠ 159) : gLawL t e (k + 1) q cs ls = .inl q' := by
  rw [gLawL, h]; show (if zK t e q' = 52 then _ else if zK t e q' = 159 then _ else _) = _; rw [if_neg h2, if_neg h3]
theorem cr_isAt {E : xE} {z : Nat} {T : Nat → Nat × Int} {F : Nat → Nat → Int} {I : Nat → Int → Int} {P : Nat → Nat → Option Nat} {Y : Nat → Int → Option Nat} {m : Nat} {w : Int → Int} (hw : wM T P m) (hT : ∀ j : Int, -128 ≤ I (m + 6) j ∧ I (m + 6) j ≤ 127) {t : Int → Int} {e : Int} (ht : rTp t (I (m + 6)) e) (he : 0 ≤ e ∧ e ≤ 400) (h11 : F m 11 = e) {dp c q : Int} (hq : 0 ≤ q ∧ q ≤ e) {ch : Int} (hc : zCs ch = 100 ∧ 0 ≤ ch ∧ ch < 128) : Ct E 0 mX12_isAt 0 0 [.ref m, J ch, J ch] (z, T, fR F m (q) (q) (dp) (c), upA I (m + 1) (w), P, Y) (xd (some (J (bI (decide (zK t e q = 100 + ch))))) (z, T, fR F m (q) (q) (dp) (c), upA I (m + 1) (w), P, Y)) := by
  have hk := zK_s (t := t) (e := e) (q := q) (c := ch) (fun j a b => (ht j a b).1) hq.1 hc
  have h := ct_X12_isAt (E := E) (z := z) (F := fR F m q q dp c) (Y := Y) (w := w) (lo := ch) (hi := ch) hw hT (by rw [fR_10, fR_o (by omega)]; omega) (by omega)
  rw [fR_10, fR_o (by omega), h11, show sAt (I (m + 6)) q e ch ch = decide (zK t e q = 100 + ch) from by
    unfold sAt
    by_cases x : q < e ∧ t q = ch
    · have := (ht.at ⟨by omega, x.1⟩ hc.2).mpr x.2
      rw [decide_eq_true (hk.mpr x), decide_eq_true ⟨x.1, by omega, by omega⟩]
    · rw [decide_eq_false (fun y => x (hk.mp y)), decide_eq_false (fun y => x ⟨y.1, (ht.at ⟨by omega, y.1⟩ hc.2).mp (by omega)⟩)]] at h
  exact h
set_option maxHeartbeats 4000000 in
set_option maxRecDepth 100000 in
theorem ct_X12_readAll_law {E : xE} {z : Nat} {T : Nat → Nat × Int} {F : Nat → Nat → Int} {I : Nat → Int → Int} {P : Nat → Nat → Option Nat} {Y : Nat → Int → Option Nat} {m : Nat} {w : Int → Int} (hw : wM T P m) (hT : ∀ j : Int, -128 ≤ I (m + 6) j ∧ I (m + 6) j ≤ 127) {t : Int → Int} {e : Int} (ht : rTp t (I (m + 6)) e) (he : 0 ≤ e ∧ e ≤ 400) (h9 : F m 9 = e) {ad adv : Nat → Nat} {sio : Option Nat} (hW : ∀ u : State, E.2.2.2.2 u → oWs E.2.2.2.1 ad adv sio u) (hR : w32 w) : Ct E 49 mX12_readAll 0 0 [.ref m, J 0] (z, T, F, upA I (m + 1) w, P, Y) (rLaws m z T (fUse F m) I P Y w (gLaw t e)) := by
  obtain ⟨⟨q0, q1, q2, q3⟩, -⟩ := id hw
  have h11 : fUse F m m 11 = e := (fUse_n F m).1.trans h9
  have htb : ∀ j : Int, 0 ≤ j → j < e → 0 ≤ t j ∧ t j ≤ 255 := fun j a b => (ht j a b).1
  have hq0 := zSk_b (t := t) he.1
  have hqq0 := zSk_sk (t := t) he.1 ⟨Int.le_refl 0, he.2⟩
  refine Ct.of [some (.ref m), some (J 0), none] kt_X12_readAll rfl (Nat.le_of_ble_eq_true rfl) rfl (fun d hd => ?_)
  generalize hX : xN E _ _ _ = X
  refine xg_aloadn 1 dX12_readAll_0 rfl rfl rfl ?_
  refine xg_callV 4 12 [] _ kv_X12_uses ⟨_, _, rfl⟩ kl_RX12_240 dX12_readAll_1 rfl (by assumption) (by omega) rfl rfl (Nat.le_of_ble_eq_true rfl) (by omega) ⟨Nat.le_refl _, Nat.le_refl _⟩ (ct_X12_uses hw) rfl ?_
  refine xg_aloadn 5 dX12_readAll_4 rfl rfl rfl ?_
  refine xg_iconst 6 dX12_readAll_5 rfl ?_
  refine xg_putI 9 kf_RX12_175 dX12_readAll_6 rfl (by assumption) ?_
  rw [fUse_R]
  refine xg_aloadn 10 dX12_readAll_9 rfl rfl rfl ?_
  refine xg_callV 13 12 [] _ kv_X12_blanks ⟨_, _, rfl⟩ kl_RX12_96 dX12_readAll_10 rfl (by assumption) (by omega) rfl rfl (Nat.le_of_ble_eq_true rfl) (by omega) ⟨Nat.le_refl _, Nat.le_refl _⟩ (cr_blanks hw hT ht he h11 (p := 0) (q := (zSk t e 0)) (by omega) rfl) rfl ?_
  have hk0 := zK_52 (t := t) (e := e) (q := (zSk t e 0)) htb (by omega) (by omega)
  refine xg_aloadn 14 dX12_readAll_13 rfl rfl rfl ?_
  refine xg_getI 17 kf_RX12_83 dX12_readAll_14 rfl (by assumption) ?_
  rw [fR_10]
  refine xg_aloadn 18 dX12_readAll_17 rfl rfl rfl ?_
  refine xg_getI 21 kf_RX12_86 dX12_readAll_18 rfl (by assumption) ?_
  rw [fR_o (by omega), h11]
  refine xg_icne 26 24 dX12_readAll_21 rfl rfl (by omega) (fun hb21 => ?_) (fun hb21 => ?_)
  · skip
    refine xg_iconst 27 dX12_readAll_26 rfl ?_
    refine xg_istoren 28 _ dX12_readAll_27 rfl rfl rfl (by decide) (Or.inr rfl) ?_
    have loop28 : ∀ (mm : Nat) (n : Nat) (q p b dd c1 : Int) (cs : List (Int × Int)) (ls : List gLn) (w1 : Int → Int), n ≤ 12 → (0 ≤ p ∧ p ≤ e) → zSk t e p = q → (c1 = (cs.length : Int) ∧ c1 + 1 ≤ q + 1 ∧ 0 ≤ q ∧ q ≤ e ∧ ls.length = n) → pDr w w1 ls cs → w32 w1 → gLaw t e = gLawL t e (12 - n) q cs ls → 20 - (n : Int) < (mm : Int) → xG E mX12_readAll (xR d 0 0) X 28 [some (.ref m), some (J 0), some (J (n : Int))] [] (z, T, fR (fUse F m) m (p) (b) (dd) (c1), upA I (m + 1) (w1), P, Y) 0 0 := by
      intro mm
      induction mm with
      | zero => intro n q p b dd c1 cs ls w1 hn hp hq hc hD1 hR1 hg hm; exfalso; omega
      | succ mm ih =>
        intro n q p b dd c1 cs ls w1 hn hp hq hc hD1 hR1 hg hm
        have hqq := zSk_at hp he.2 hq
        refine xg_aloadn 29 dX12_readAll_28 rfl rfl rfl ?_
        refine xg_iloadn 30 dX12_readAll_29 rfl rfl rfl ?_
        refine xg_iloadn 31 dX12_readAll_30 rfl rfl rfl ?_
        rcases (show n = 12 ∨ n < 12 by omega) with hn12 | hn12
        rotate_left
        rcases hs3 : gLine t e q with f3 | ⟨ka3, cs3, q3⟩
        rotate_left 2
        rotate_left
        · skip
          refine xg_callVe 34 12 [_, _] _ kv_X12_readLine ⟨_, _, rfl⟩ kl_RX12_243 dX12_readAll_31 rfl (by assumption) (by omega) rfl rfl (Nat.le_of_ble_eq_true rfl) (by omega) ⟨Nat.le_refl _, Nat.le_refl _⟩ ((rLine.cg hs3 (ct_X12_readLine_law (c := c1) hw hT ht he h11 hp hq hW hR1 (by omega) (n := (n : Int)) (by omega)))) rfl (fun v9 h9 e9 => ?_)
          obtain ⟨rfl, p3, d3, c3, w3, hw3, hR3, rfl⟩ := e9
          refine xg_ifne 39 37 dX12_readAll_34 rfl rfl (by omega) (fun hb34 => ?_) (fun hb34 => ?_)
          · exfalso; omega
          · skip
            refine xg_iconst 38 dX12_readAll_37 rfl ?_
            subst hX
            refine xg_ireturn dX12_readAll_38 rfl ⟨Nat.le_refl _, Nat.le_refl _⟩ ?_
            rw [hg, show 12 - n = 12 - (n + 1) + 1 by omega, gLawL_1 hs3]
            exact ⟨rfl, _, _, _, _, fun j hj => (hw3 j hj).trans (hD1.1 j hj), hR3, rfl⟩
        · have hlo := gLine_ok hs3
          refine xg_callVe 34 12 [_, _] _ kv_X12_readLine ⟨_, _, rfl⟩ kl_RX12_243 dX12_readAll_31 rfl (by assumption) (by omega) rfl rfl (Nat.le_of_ble_eq_true rfl) (by omega) ⟨Nat.le_refl _, Nat.le_refl _⟩ ((rLine.cg hs3 (ct_X12_readLine_law (c := c1) hw hT ht he h11 hp hq hW hR1 (by omega) (n := (n : Int)) (by omega)))) rfl (fun v9 h9 e9 => ?_)
          obtain ⟨rfl, p3, b3, d3, c3, w3, hz3, hp3, hc3, hW3, hR3, rfl⟩ := e9
          refine xg_ifne 39 37 dX12_readAll_34 rfl rfl (by omega) (fun hb34 => ?_) (fun hb34 => ?_)
          · skip
            refine xg_aloadn 40 dX12_readAll_39 rfl rfl rfl ?_
            refine xg_callV 43 12 [] _ kv_X12_blanks ⟨_, _, rfl⟩ kl_RX12_96 dX12_readAll_40 rfl (by assumption) (by omega) rfl rfl (Nat.le_of_ble_eq_true rfl) (by omega) ⟨Nat.le_refl _, Nat.le_refl _⟩ (cr_blanks hw hT ht he h11 (p := p3) (q := q3) hp3 hz3) rfl ?_
            have hk3 := zK_52 (t := t) (e := e) (q := q3) htb (by omega) (by omega)
            have hD3 := hD1.S (c := cs3) (k := ka3.1) (a := ka3.2) (by rw [← hc.1, hc.2.2.2.2]; exact hW3) (by omega)
            refine xg_aloadn 44 dX12_readAll_43 rfl rfl rfl ?_
            refine xg_getI 47 kf_RX12_83 dX12_readAll_44 rfl (by assumption) ?_
            rw [fR_10]
            refine xg_aloadn 48 dX12_readAll_47 rfl rfl rfl ?_
            refine xg_getI 51 kf_RX12_86 dX12_readAll_48 rfl (by assumption) ?_
            rw [fR_o (by omega), h11]
            refine xg_icne 58 54 dX12_readAll_51 rfl rfl (by omega) (fun hb51 => ?_) (fun hb51 => ?_)
            · skip
              refine xg_aloadn 59 dX12_readAll_58 rfl rfl rfl ?_
              refine xg_bipush 61 dX12_readAll_59 rfl (by decide) ?_
              refine xg_bipush 63 dX12_readAll_61 rfl (by decide) ?_
              refine xg_callV 66 12 [_, _] _ kv_X12_isAt ⟨_, _, rfl⟩ kl_RX12_89 dX12_readAll_63 rfl (by assumption) (by omega) rfl rfl (Nat.le_of_ble_eq_true rfl) (by omega) ⟨Nat.le_refl _, Nat.le_refl _⟩ (cr_isAt hw hT ht he h11 (q := q3) (by omega) (ch := 59) (by decide)) rfl ?_
              refine xg_dne 71 69 dX12_readAll_66 rfl rfl (fun hb66 => ?_) (fun hb66 => ?_)
              · have hs9 := zX_s htb (by omega) (c := 59) (by decide) hb66
                have hx9 := zX_b (t := t) hs9.1
                refine xg_aloadn 72 dX12_readAll_71 rfl rfl rfl ?_
                refine xg_dup 73 dX12_readAll_72 rfl rfl ?_
                refine xg_getI 76 kf_RX12_83 dX12_readAll_73 rfl (by assumption) ?_
                rw [fR_10]
                refine xg_iconst 77 dX12_readAll_76 rfl ?_
                refine xg_iadd 78 dX12_readAll_77 rfl ?_
                refine xg_putI 81 kf_RX12_83 dX12_readAll_78 rfl (by assumption) ?_
                rw [fR_s10]
                refine xg_iinc 84 _ dX12_readAll_81 rfl rfl rfl rfl (by decide) (Or.inr rfl) ?_
                refine xg_goto 28 dX12_readAll_84 rfl ?_
                exact xg_weak _ (xle_s rfl (xle_s rfl (xle_s (by rw [show ((n + 1 : Nat) : Int) = (n : Int) + 1 by omega]) xle_0))) (ih (n + 1) (zX t e q3) (q3 + 1) _ _ _ (cs ++ cs3) (ls ++ [(ka3.1, ka3.2, (cs.length : Int), ((cs ++ cs3).length : Int))]) w3 (by omega) (by omega) hs9.2 ⟨by rw [List.length_append]; omega, by omega, by omega, by omega, by rw [List.length_append]; show ls.length + 1 = n + 1; omega⟩ hD3 hR3 (by rw [hg, show 12 - n = 12 - (n + 1) + 1 by omega, gLawL_3 hs3 (by omega) (by omega)]) (by omega))
              · skip
                refine xg_iconst 70 dX12_readAll_69 rfl ?_
                subst hX
                refine xg_ireturn dX12_readAll_70 rfl ⟨Nat.le_refl _, Nat.le_refl _⟩ ?_
                rw [hg, show 12 - n = 12 - (n + 1) + 1 by omega, gLawL_4 hs3 (by omega) (by omega)]
                exact ⟨rfl, _, _, _, _, hD3.1, hR3, rfl⟩
            · skip
              refine xg_iloadn 55 dX12_readAll_54 rfl rfl rfl ?_
              refine xg_iconst 56 dX12_readAll_55 rfl ?_
              refine xg_iadd 57 dX12_readAll_56 rfl ?_
              subst hX
              refine xg_ireturn dX12_readAll_57 rfl ⟨Nat.le_refl _, Nat.le_refl _⟩ ?_
              rw [hg, show 12 - n = 12 - (n + 1) + 1 by omega, gLawL_2 hs3 (by omega)]
              exact ⟨congrArg (fun v => some (J v)) (by rw [List.length_append]; show (n : Int) + 1 = ((ls.length + 1 : Nat) : Int); omega), _, _, _, _, _, hD3, hR3, rfl⟩
          · exfalso; omega
        · subst hn12
          refine xg_callVe 34 12 [_, _] _ kv_X12_readLine ⟨_, _, rfl⟩ kl_RX12_243 dX12_readAll_31 rfl (by assumption) (by omega) rfl rfl (Nat.le_of_ble_eq_true rfl) (by omega) ⟨Nat.le_refl _, Nat.le_refl _⟩ (ct_X12_readLine_far hw hT ht he h11 hp hq hR1 (b0 := false) (n := ((12 : Nat) : Int)) (by decide)) rfl (fun v9 h9 e9 => ?_)
          obtain ⟨rfl, rfl⟩ := e9
          refine xg_ifne 39 37 dX12_readAll_34 rfl rfl (by omega) (fun hb34 => ?_) (fun hb34 => ?_)
          · exfalso; omega
          · skip
            refine xg_iconst 38 dX12_readAll_37 rfl ?_
            subst hX
            refine xg_ireturn dX12_readAll_38 rfl ⟨Nat.le_refl _, Nat.le_refl _⟩ ?_
            rw [hg]
            exact ⟨rfl, _, _, _, _, hD1.1, hR1, rfl⟩
    exact xg_weak _ (xle_s rfl (xle_s rfl (xle_s rfl xle_0))) (loop28 50 0 (zSk t e 0) (zSk t e 0) _ _ 0 [] [] w (by omega) (by omega) hqq0 ⟨rfl, by omega, by omega, by omega, rfl⟩ pDr.nil hR (by unfold gLaw; rw [if_neg (by omega)]) (by omega))
  · skip
    refine xg_iconst 25 dX12_readAll_24 rfl ?_
    subst hX
    refine xg_ireturn dX12_readAll_25 rfl ⟨Nat.le_refl _, Nat.le_refl _⟩ ?_
    rw [show gLaw t e = .inr ([], []) by unfold gLaw; rw [if_pos (by omega)]]
    exact ⟨rfl, _, _, _, _, _, pDr.nil, hR, rfl⟩

