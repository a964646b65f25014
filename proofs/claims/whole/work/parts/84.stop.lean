/-! a writer does not wait for ever -/
def mS (w : Int → Int) : Int := pSum (fun r => 4 - w (199 + 122 * r)) (wN w)
def jS (w : Int → Int) : Int := pSum (fun r => if w (200 + 122 * r) = 1 then 4 - w (199 + 122 * r) else 0) (wN w)
def wJb (w : Int → Int) : Prop := w 16 = 1 → 5 - w 17 ≤ jS w
theorem eqR_mS {w w' : Int → Int} (h : eqR w w') (hN : 0 ≤ w 0 ∧ w 0 ≤ 12) : mS w' = mS w ∧ jS w' = jS w := by
  have hw := wN_i hN.1
  unfold mS jS
  rw [h.n]
  exact ⟨pSum_congr (fun r hr => by rw [h.2 _ (by omega) (by omega)]), pSum_congr (fun r hr => by rw [h.2 (200 + 122 * (r : Int)) (by omega) (by omega), h.2 (199 + 122 * (r : Int)) (by omega) (by omega)])⟩
theorem mS_bd {w : Int → Int} (h : wRn w) (hN : 0 ≤ w 0 ∧ w 0 ≤ 12) : 0 ≤ mS w ∧ mS w ≤ 48 := by
  have hw := wN_i hN.1
  have := pSum_bd (f := fun r => 4 - w (199 + 122 * r)) (b := 4) (k := wN w) (fun j hj => by have := (h.1 j (by omega)).1; omega)
  unfold mS; omega
theorem pSum_ck {w : Int → Int} {o n0 : Int} {g h : Int → Int} : ∀ {N : Nat}, (∀ s : Nat, s < N → kK w o n0 s = true → g ((cK w o n0 s : Nat) : Int) = h s) → pSum g (cK w o n0 N) = pSum (fun s => if kK w o n0 s.toNat = true then h s else 0) N
  | 0, _ => rfl
  | N + 1, hh => by
    have ih := pSum_ck (N := N) (fun s hs hk => hh s (by omega) hk)
    rw [pSum_s, ← ih, cK, Int.toNat_natCast]
    by_cases hk : kK w o n0 N = true
    · rw [if_pos hk, if_pos hk, pSum_s, hh N (by omega) hk]
    · rw [if_neg hk, if_neg hk, Nat.add_zero, Int.add_zero]
theorem mS_ends {w : Int → Int} (hO : wOk w) (hr : wRn w) (hj : wJb w) (hb : w 16 = 1) : mS (sEnds w) ≤ mS w - 1 := by
  have hN := hO.2.1
  have hw := wN_i hN.1
  have h17 := hO.2.2.2.2.2.2.2.2.2.2.2.2.1
  have hj1 := hj hb
  have e0 : wN (sEnds w) = cK w (oL w) (sEnt w 79) (wN w) := by rw [show wN (sEnds w) = (sEnds w 0).toNat from rfl, sEnds_0 hO, Int.toNat_natCast]
  have e1 : mS (sEnds w) = pSum (fun s => if kK w (oL w) (sEnt w 79) s.toNat = true then 4 - eL w (oL w) (sEnt w 79) s.toNat else 0) (wN w) := by
    unfold mS
    rw [e0]
    exact pSum_ck (g := fun r => 4 - sEnds w (199 + 122 * r)) (h := fun s => 4 - eL w (oL w) (sEnt w 79) s.toNat) (fun s hs hk => by
      show 4 - sEnds w (199 + 122 * ((cK w (oL w) (sEnt w 79) s : Nat) : Int)) = 4 - eL w (oL w) (sEnt w 79) ((s : Int).toNat)
      rw [(sEnds_row hO hs hk).1, Int.toNat_natCast])
  have key : ∀ n : Nat, n ≤ wN w → pSum (fun s => if kK w (oL w) (sEnt w 79) s.toNat = true then 4 - eL w (oL w) (sEnt w 79) s.toNat else 0) n ≤ pSum (fun r => 4 - w (199 + 122 * r)) n - pSum (fun r => if w (200 + 122 * r) = 1 then 4 - w (199 + 122 * r) else 0) n + (if oL w < (n : Int) then 4 - w 17 else 0) := by
    intro n
    induction n with
    | zero => intro _; simp only [pSum]; split <;> omega
    | succ n ih =>
      intro hn
      have h1 := ih (by omega)
      have hl := (hr.1 n (by omega)).1
      have h01 := (hr.1 n (by omega)).2.1
      rw [pSum_s, pSum_s, pSum_s, Int.toNat_natCast]
      by_cases q : (n : Int) = oL w ∧ 0 < sEnt w 79
      · have hk : kK w (oL w) (sEnt w 79) n = true := by unfold kK; rw [decide_eq_true q]; exact Bool.or_true _
        have hi : w (200 + 122 * (n : Int)) = 1 := by
          obtain ⟨s, s1, s2, s3⟩ := sOld_inp (w := w) (r := wN w) (by unfold oL at q; omega)
          have : s = n := by unfold oL at q; omega
          subst this; exact of_decide_eq_true s3
        rw [if_pos hk, if_pos hi, show eL w (oL w) (sEnt w 79) n = w 17 from if_pos q]
        rw [if_neg (by omega)] at h1
        rw [if_pos (by omega)]; omega
      · have hm : (if oL w < (n : Int) then 4 - w 17 else 0) ≤ (if oL w < ((n + 1 : Nat) : Int) then 4 - w 17 else 0) := by
          by_cases c1 : oL w < (n : Int)
          · rw [if_pos c1, if_pos (by omega)]; omega
          · rw [if_neg c1]; split <;> omega
        have hkn : kK w (oL w) (sEnt w 79) n = !(wInp w n) := by unfold kK; rw [decide_eq_false q, Bool.or_false]
        rw [hkn, show eL w (oL w) (sEnt w 79) n = w (199 + 122 * (n : Int)) from if_neg q]
        rcases h01 with h01 | h01
        · rw [show wInp w n = false from decide_eq_false (by omega), if_pos (show (!false) = true from rfl), if_neg (show ¬ w (200 + 122 * (n : Int)) = 1 by omega)]; omega
        · rw [show wInp w n = true from decide_eq_true h01, if_neg (show ¬ (!true) = true by decide), if_pos h01]; omega
  have hk := key (wN w) (Nat.le_refl _)
  have hoN := sOld_bd (w := w) (wN w)
  rw [if_pos (by unfold oL; omega)] at hk
  rw [e1]
  unfold jS at hj1
  unfold mS
  omega
theorem wJb_beg {w : Int → Int} (hO : wOk w) (hr : wRn w) (hj : wJb w) : wJb (sBeg w) := by
  have hb := sDM_bd w 4
  have hN := hO.2.1
  have hw := wN_i hN.1
  unfold sBeg
  split
  · exact hj
  split
  · exact hj
  rename_i h1 h2
  intro _
  obtain ⟨l, hl⟩ : ∃ l : Nat, (l : Int) = sDM w 4 := ⟨(sDM w 4).toNat, by omega⟩
  rw [← hl]
  have hd := sDM_due 4 h2
  rw [← hl] at hd
  have e0 : sBeg1 w (l : Int) 0 = w 0 := sBeg1_c (by omega) (by omega) (by omega) (fun _ _ => by omega)
  have en : wN (sBeg1 w (l : Int)) = wN w := by unfold wN; rw [e0]
  have e17 : sBeg1 w (l : Int) 17 = min 3 ((l : Int) + 1) := by
    unfold sBeg1
    rw [sTold_lo _ _ _ _ (by omega) (by omega)]
    unfold sBegW
    rw [wS_ne _ _ _ (by omega), wS_at]
  have ej : jS (sBeg1 w (l : Int)) = pSum (fun r => if (sBegS w (l : Int)).testBit r.toNat = true then 4 - w (199 + 122 * r) else 0) (wN w) := by
    unfold jS
    rw [en]
    refine pSum_congr (fun r hr2 => ?_)
    rw [sBeg1_i (by omega) hN.2, sBeg1_c (j := 199 + 122 * (r : Int)) (by omega) (by omega) (by omega) (fun _ _ => by omega), Int.toNat_natCast]
    cases (sBegS w (l : Int)).testBit r <;> simp [bI]
  rw [e17, ej]
  have hnn : ∀ j : Nat, j < wN w → 0 ≤ (if (sBegS w (l : Int)).testBit ((j : Int).toNat) = true then 4 - w (199 + 122 * (j : Int)) else 0) := fun j hj2 => by
    have := (hr.1 j (by omega)).1
    split <;> omega
  by_cases h3 : l = 3
  · subst h3
    have hm := (sDueB_k (w := w) (k := 3) (by omega)).mp hd
    have hm2 : 2 ≤ sMany w ((3 : Nat) : Int) := by omega
    have hle : ∀ n : Nat, n ≤ wN w → pSum (fun r => if w (199 + 122 * r) = ((3 : Nat) : Int) then 1 else 0) n ≤ pSum (fun r => if (sBegS w ((3 : Nat) : Int)).testBit r.toNat = true then 4 - w (199 + 122 * r) else 0) n := by
      intro n
      induction n with
      | zero => intro _; exact Int.le_refl _
      | succ n ih =>
        intro hn
        have h4 := ih (by omega)
        have h5 := hnn n (by omega)
        rw [pSum_s, pSum_s]
        by_cases q : w (199 + 122 * (n : Int)) = ((3 : Nat) : Int)
        · have hbit : (sBegS w ((3 : Nat) : Int)).testBit n = true := by rw [sBegS_bit hN.2 (by omega)]; exact decide_eq_true (Or.inl q)
          rw [if_pos q, Int.toNat_natCast, if_pos hbit]; omega
        · rw [if_neg q]; omega
    have h6 := hle (wN w) (Nat.le_refl _)
    unfold sMany at hm2
    omega
  · obtain ⟨r, r1, r2⟩ := sDueB_run (by omega) hO hd
    have h4 := pSum_ge (f := fun r => if (sBegS w (l : Int)).testBit r.toNat = true then 4 - w (199 + 122 * r) else 0) (k := r) (n := wN w) hnn r1
    rw [if_pos (by rw [Int.toNat_natCast, sBegS_bit hN.2 r1]; exact decide_eq_true (Or.inl r2))] at h4
    omega
theorem eqR_17 {w : Int → Int} {key : Int} (hk : 0 ≤ key ∧ key < 60) : sTakes w key 17 = w 17 ∧ sTakes w key 16 = w 16 := ⟨sTakes_c (by omega) hk, sTakes_c (by omega) hk⟩
theorem sWk_lft : ∀ (f : Nat) {W : Int → Int} {d n : Int}, wOk W → wRn W → W 16 = 1 → sLeft (sWk f W d n).1 ≤ sLeft W ∧ mS (sWk f W d n).1 = mS W ∧ (wJb W → wJb (sWk f W d n).1)
  | 0, W, d, n, h1, h2, h3 => ⟨Int.le_refl _, rfl, id⟩
  | f + 1, W, d, n, h1, h2, h3 => by
    rw [sWk]
    by_cases q : d < n ∧ sNext W < 60
    · rw [if_pos q]
      have o18 := h1.2.2.2.2.2.2.2.2.2.2.2.2.2.1
      have hk : 0 ≤ (sNext W : Int) ∧ (sNext W : Int) < 60 := by omega
      have e := eqR_takes (w := W) hk
      obtain ⟨e17, e16⟩ := eqR_17 (w := W) hk
      obtain ⟨m1, m2⟩ := eqR_mS e h1.2.1
      have hl := sLeft_takes h1 q.2
      have hs := sSeen_bd W (sNext W : Int) (wN W)
      obtain ⟨g1, g2, g3⟩ := sWk_lft f (d := d + 1) (n := n) (wOk_takes h1 hk (sNext_hit o18 q.2)) (wRn_takes h2 h1 h3 hk) (e16.trans h3)
      exact ⟨by omega, g2.trans m1, fun hj => g3 (fun _ => by rw [e17, m2]; exact hj h3)⟩
    · rw [if_neg q]; exact ⟨Int.le_refl _, rfl, id⟩
def pPot (w : Int → Int) : Int := if w 16 = 1 then 1000 * (mS w - 1) + sLeft w else 1000 * mS w
theorem sSeen_pos {w : Int → Int} (hO : wOk w) (hlt : sNext w < 60) : 1 ≤ sSeen w (sNext w : Int) (wN w) := by
  have o18 := hO.2.2.2.2.2.2.2.2.2.2.2.2.2.1
  have hm := sNext_hit o18 hlt
  obtain ⟨h1, -⟩ := sNewI_p hm
  have hi : w (200 + 122 * ((sNewI w (sNext w : Int) : Nat) : Int)) = 1 := by
    cases q : wInp w (sNewI w (sNext w : Int))
    · rw [q] at h1; cases h1
    · exact of_decide_eq_true q
  have hv : w (201 + 122 * ((sNewI w (sNext w : Int) : Nat) : Int) + (sNext w : Int)) ≠ -1 := by
    cases q : wHas w (sNext w : Int) (sNewI w (sNext w : Int))
    · rw [q, Bool.and_false] at h1; cases h1
    · exact of_decide_eq_true q
  have := pSum_ge (f := fun r => if w (200 + 122 * r) = 1 ∧ w (201 + 122 * r + (sNext w : Int)) ≠ -1 then 1 else 0) (k := sNewI w (sNext w : Int)) (n := wN w) (fun j _ => by split <;> omega) hm
  rw [if_pos ⟨hi, hv⟩] at this
  exact this
theorem pPot_paid {w : Int → Int} (hI : wInv w) (hj : wJb w) (hb : w 16 = 1) : pPot (sPaid w 1) ≤ pPot w - 1 ∧ wJb (sPaid w 1) := by
  have hO := hI.1.1
  have hN := hO.2.1
  have hOu := wOk_paidW hO hI.1.2.1
  have e := (eqR_S w 12 (min 99999 (w 12 + sCost w)) (by omega))
  have hru : wRn (sPaidW w) := hI.2.1.S hN (by omega)
  have hbu : sPaidW w 16 = 1 := (wS_ne _ _ _ (by omega)).trans hb
  have e17 : sPaidW w 17 = w 17 := wS_ne _ _ _ (by omega)
  obtain ⟨m1, m2⟩ := eqR_mS e hN
  have hlu : sLeft (sPaidW w) = sLeft w := e.left hN (wS_ne _ _ _ (by omega))
  have hju : wJb (sPaidW w) := fun _ => by rw [e17, show jS (sPaidW w) = jS w from m2]; exact hj hb
  have hl0 := hI.2.2.1 hb
  have hn : 1 ≤ sPaidN w 1 := by unfold sPaidN; omega
  have hlt : sNext (sPaidW w) < 60 := by
    have h1 := sNext_le (sPaidW w) hOu.2.2.2.2.2.2.2.2.2.2.2.2.2.1
    have h2 := sNext_60 hOu
    refine Classical.byContradiction (fun q => ?_)
    have := h2.mp (by omega)
    omega
  have o18 := hOu.2.2.2.2.2.2.2.2.2.2.2.2.2.1
  have hk : 0 ≤ (sNext (sPaidW w) : Int) ∧ (sNext (sPaidW w) : Int) < 60 := by omega
  have et := eqR_takes (w := sPaidW w) hk
  obtain ⟨t17, t16⟩ := eqR_17 (w := sPaidW w) hk
  obtain ⟨m3, m4⟩ := eqR_mS et hOu.2.1
  have hOt := wOk_takes hOu hk (sNext_hit o18 hlt)
  have hrt := wRn_takes hru hOu hbu hk
  have hsl := sLeft_takes hOu hlt
  have hsp := sSeen_pos hOu hlt
  obtain ⟨g1, g2, g3⟩ := sWk_lft 60 (d := 0 + 1) (n := sPaidN w 1) hOt hrt (t16.trans hbu)
  have es : sWk 61 (sPaidW w) 0 (sPaidN w 1) = sWk 60 (sTakes (sPaidW w) (sNext (sPaidW w) : Int)) (0 + 1) (sPaidN w 1) := by rw [sWk, if_pos ⟨by omega, hlt⟩]
  have hjt : wJb (sTakes (sPaidW w) (sNext (sPaidW w) : Int)) := fun _ => by rw [t17, m4]; exact hju hbu
  have hj3 := g3 hjt
  obtain ⟨k1, k2, k3⟩ := sWk_rn 60 (d := 0 + 1) (n := sPaidN w 1) hOt hrt (t16.trans hbu)
  have m1' : mS (sPaidW w) = mS w := m1
  unfold sPaid sWorks
  rw [es]
  generalize (sWk 60 (sTakes (sPaidW w) (sNext (sPaidW w) : Int)) (0 + 1) (sPaidN w 1)).1 = V at g1 g2 hj3 k1 k2 k3
  by_cases q : sNext V = 60
  · rw [if_pos q]
    have h5 := mS_ends k1 k2 hj3 k3
    unfold pPot
    rw [sEnds_16, if_neg (by omega), if_pos hb]
    exact ⟨by omega, fun x => by rw [sEnds_16] at x; omega⟩
  · rw [if_neg q]
    unfold pPot
    rw [if_pos k3, if_pos hb]
    exact ⟨by omega, hj3⟩
theorem pPot_beg {w : Int → Int} (hI : wInv w) : pPot (sBeg w) ≤ pPot w := by
  have hO := hI.1.1
  have hN := hO.2.1
  have hb := sDM_bd w 4
  have hw := wN_i hN.1
  by_cases h16 : w 16 = 1
  · have e : sBeg w = w := by unfold sBeg; rw [if_pos h16]
    rw [e]; exact Int.le_refl _
  · by_cases h2 : sDM w 4 = -1
    · have e : sBeg w = w := by unfold sBeg; rw [if_neg h16, if_pos h2]
      rw [e]; exact Int.le_refl _
    · have e : sBeg w = sBeg1 w (sDM w 4) := by unfold sBeg; rw [if_neg h16, if_neg h2]
      have hO2 := wOk_beg hO
      rw [e] at hO2 ⊢
      have e0 : sBeg1 w (sDM w 4) 0 = w 0 := sBeg1_c (by omega) (by omega) (by omega) (fun _ _ => by omega)
      have em : mS (sBeg1 w (sDM w 4)) = mS w := by
        unfold mS
        rw [show wN (sBeg1 w (sDM w 4)) = wN w by unfold wN; rw [e0]]
        exact pSum_congr (fun r hr => by rw [sBeg1_c (by omega) (by omega) (by omega) (fun _ _ => by omega)])
      have hl := sLeft_bd (w := sBeg1 w (sDM w 4)) hO2.2.1.2
      unfold pPot
      rw [sBeg1_16, if_pos rfl, if_neg h16, em]
      omega
theorem pPot_stp {w : Int → Int} (hI : wInv w) (hj : wJb w) (hb : sCanB w = true) {s : Int} : pPot (sStp w s) ≤ pPot w - 1 ∧ wJb (sStp w s) := by
  obtain ⟨b1, b2, b3⟩ := sCanB_16 hb
  have hIb := wInv_beg hI
  have hjb := wJb_beg hI.1.1 hI.2.1 hj
  have h1 := pPot_beg hI
  rw [b2] at b1
  obtain ⟨h2, h3⟩ := pPot_paid hIb hjb b1
  have hIp := wInv_paid hIb b1 1
  have e : ∀ v x : Int, eqR (sPaid (sBeg w) 1) (wS (wS (sPaid (sBeg w) 1) 10 v) 11 x) := fun v x => (eqR_S _ _ _ (by omega)).tr (eqR_S _ _ _ (by omega))
  have e2 : ∀ v x j : Int, j ≠ 10 → j ≠ 11 → wS (wS (sPaid (sBeg w) 1) 10 v) 11 x j = sPaid (sBeg w) 1 j := fun v x j j1 j2 => by rw [wS_ne _ _ _ j2, wS_ne _ _ _ j1]
  unfold sStp
  rw [b2]
  generalize min 9999 (sPaid (sBeg w) 1 10 + 1) = v
  generalize min 9999 (max (wS (sPaid (sBeg w) 1) 10 v 11) (s + 1)) = x
  obtain ⟨m1, m2⟩ := eqR_mS (e v x) hIp.1.1.2.1
  have hl := (e v x).left hIp.1.1.2.1 (e2 v x 18 (by omega) (by omega))
  refine ⟨?_, fun q => ?_⟩
  · have ep : pPot (wS (wS (sPaid (sBeg w) 1) 10 v) 11 x) = pPot (sPaid (sBeg w) 1) := by unfold pPot; rw [m1, hl, e2 v x 16 (by omega) (by omega)]
    rw [ep]; omega
  · rw [e2 v x 16 (by omega) (by omega)] at q
    rw [e2 v x 17 (by omega) (by omega), m2]; exact h3 q
theorem pPot_bd {w : Int → Int} (hI : wInv w) (hj : wJb w) : 0 ≤ pPot w ∧ pPot w ≤ 49000 := by
  have hN := hI.1.1.2.1
  have hm := mS_bd hI.2.1 hN
  have hl := sLeft_bd (w := w) hN.2
  have hw := wN_i hN.1
  unfold pPot
  by_cases q : w 16 = 1
  · rw [if_pos q]
    have h17 := hI.1.1.2.2.2.2.2.2.2.2.2.2.2.2.1
    have hjj := hj q
    have hle : jS w ≤ mS w := by
      have : ∀ n : Nat, n ≤ wN w → pSum (fun r => if w (200 + 122 * r) = 1 then 4 - w (199 + 122 * r) else 0) n ≤ pSum (fun r => 4 - w (199 + 122 * r)) n := by
        intro n
        induction n with
        | zero => intro _; exact Int.le_refl _
        | succ n ih =>
          intro hn
          have h1 := ih (by omega)
          have h2 := (hI.2.1.1 n (by omega)).1
          rw [pSum_s, pSum_s]
          split <;> omega
      exact this _ (Nat.le_refl _)
    omega
  · rw [if_neg q]; omega
theorem sStop_pot : ∀ (f : Nat) {w : Int → Int} {s : Int}, wInv w → wJb w → 0 ≤ s → pPot w < f → sStop f w s
  | 0, w, s, hI, hj, _, h => by have := pPot_bd hI hj; omega
  | f + 1, w, s, hI, hj, hs, h => fun hb => by
    obtain ⟨h1, h2⟩ := pPot_stp (s := s) hI hj hb
    exact sStop_pot f (wInv_stp hI hb hs).1 h2 (by omega) (by omega)
theorem sStop_all {w : Int → Int} (hI : wInv w) (hj : wJb w) : sStop sFu w 0 := by
  have h1 := pPot_bd hI hj
  have h2 := sFu_eq
  exact sStop_pot sFu hI hj (Int.le_refl 0) (by omega)

