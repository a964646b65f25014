/-! cell 10 (stalls) is 9999 at most -/
section C10W
variable {w : Int → Int}
theorem wk10 : ∀ (f : Nat) (w : Int → Int) (d n : Int), (sWk f w d n).1 10 = w 10
  | 0, w, d, n => rfl
  | f + 1, w, d, n => by
    rw [sWk]
    split
    · rename_i c
      rw [wk10 f, sTakes_c (by omega) (by omega)]
    · rfl
theorem paid10 (h : wOk w) (hL : wLw w) (l : Int) : sPaid w l 10 = w 10 := by
  have h1 := wk10 61 (sPaidW w) 0 (sPaidN w l)
  have h2 : sPaidW w 10 = w 10 := wS_ne _ _ _ (by omega)
  unfold sPaid sWorks
  split
  · rw [sEnds_lo (sWk_ok 61 (wOk_paidW h hL)) (by omega), sEnW_c (by omega) (by omega), h1, h2]
  · rw [h1, h2]
theorem beg10 : sBeg w 10 = w 10 := by
  unfold sBeg
  split
  · rfl
  · split
    · rfl
    · unfold sBeg1
      rw [sTold_lo _ _ _ _ (by omega) (by omega)]
      unfold sBegW
      rw [wS_ne _ _ _ (by omega), wS_ne _ _ _ (by omega), wS_ne _ _ _ (by omega)]
      unfold wE wInS
      rw [if_neg (by omega), if_neg (by omega)]
theorem can10 : sCan w 10 = w 10 := by
  unfold sCan
  split
  · exact beg10
  · rfl
theorem stl10 : ∀ (f : Nat) {w : Int → Int} {s : Int}, wI2 w → 0 ≤ s → w 10 ≤ 9999 → (sStl f w s).1 10 ≤ 9999
  | 0, w, s, _, _, h9 => h9
  | f + 1, w, s, h, hs, h9 => by
    rw [sStl]
    by_cases hb : sCanB w = true
    · rw [if_pos hb]
      refine stl10 f ⟨(wInv_stp h.1 hb hs).1, (pPot_stp (s := s) h.1 h.2 hb).2⟩ (by omega) ?_
      unfold sStp
      rw [wS_ne _ _ _ (show (10 : Int) ≠ 11 by omega), wS_at]
      omega
    · rw [if_neg hb]; show sCan w 10 ≤ 9999; rw [can10]; exact h9
theorem rm10 (h : wI2 w) (h9 : w 10 ≤ 9999) : (sRoom w).1 10 ≤ 9999 := by
  have h1 := stl10 sFu h (Int.le_refl 0) h9
  obtain ⟨k1, k2, k3, k4⟩ := sStl_inv sFu h.1 (Int.le_refl 0)
  unfold sRoom
  split
  · show (if sCrowd (sStl sFu w 0).1 = true then (sStl sFu w 0).1 else sFlush (sStl sFu w 0).1) 10 ≤ 9999
    split
    · exact h1
    · rename_i hc
      rw [sFl_lo ⟨k1.1.1.2.1.1, (sCrowd_f (Bool.eq_false_iff.mpr hc) k1.1.1.2.1.2).1⟩ (by omega)]; exact h1
  · exact h9
theorem write10 (h : wI2 w) {key v : Int} (hk : 0 ≤ key ∧ key < 60) (hv : 0 ≤ v ∧ v ≤ 100) (h9 : w 10 ≤ 9999) : sWrite w key v 10 ≤ 9999 := by
  have h1 := wI2_W1 h hk hv
  have h5 : sW1 w key v 10 = w 10 := by unfold sW1; rw [wS_ne _ _ _ (by omega), wS_ne _ _ _ (by omega)]
  have h2 := rm10 h1 (by rw [h5]; exact h9)
  have h3 := wI2_room h1 h1.1.1.1.2.2.2.2.2.2.1.1
  have h4 := wI2_beg h3
  unfold sWrite sTail
  split
  · rw [paid10 h4.1.1.1 h4.1.1.2.1, beg10]; exact h2
  · rw [beg10]; exact h2
theorem tick10 (h : wI2 w) (h9 : w 10 ≤ 9999) : sTick w 10 ≤ 9999 := by
  have hv : 0 ≤ sTkV w ∧ sTkV w ≤ 100 := by
    unfold sTkV
    have := sDraw_bd (sSeed (sSeed w)) (x := 100) (by omega)
    split <;> omega
  have e0 : ∀ u : Int → Int, sSeed u 10 = u 10 := fun u => wS_ne _ _ _ (by omega)
  have e : sTkW w 10 = w 10 := by unfold sTkW; split <;> simp only [e0]
  have h1 := write10 (wI2_tkW h) (sDraw_bd w (x := 60) (by omega)) hv (by rw [e]; exact h9)
  unfold sTick
  rw [wS_ne _ _ _ (by omega)]; exact h1
theorem go10 (h : wI2 w) (h9 : w 10 ≤ 9999) : ∀ k : Nat, (sGo k w).1 10 ≤ 9999
  | 0 => h9
  | k + 1 => by rw [sGo]; exact tick10 (wI2_go h k) (go10 h h9 k)
theorem wrs10 : ∀ (ps : List (Int × Int)) {w : Int → Int}, wI2 w → psOk ps → w 10 ≤ 9999 → sWrs w ps 10 ≤ 9999
  | [], w, h, _, h9 => h9
  | p :: ps, w, h, hp, h9 => by
    have h1 := hp p (List.mem_cons_self ..)
    exact wrs10 ps (wI2_write h h1.1 h1.2) (fun x hx => hp x (List.mem_cons_of_mem _ hx)) (write10 h h1.1 h1.2 h9)
theorem halt10 (h : wOk w) : sHalt w 10 = w 10 := sHalt_lo h (by omega)
theorem beg16 (h : w 16 = 1 ∨ sDM w 4 ≠ -1) : sBeg w 16 = 1 := by
  unfold sBeg
  by_cases c : w 16 = 1
  · rw [if_pos c]; exact c
  · rw [if_neg c, if_neg (by omega)]; exact sBeg1_16
def gS10 : gSz → Prop
  | .inl _ => True
  | .inr (w', _) => w' 10 ≤ 9999
theorem gNo10 {t : Int → Int} {e q lo hi : Int} {f : Int → Int → Int} (h : ∀ n : Int, f n 10 ≤ 9999) : gS10 (gNo t e q lo hi f) := by
  unfold gNo
  split
  · exact h _
  · trivial
theorem gSLn10 {t : Int → Int} {e q : Int} (h : wI2 w) (h9 : w 10 ≤ 9999) : gS10 (gSLn t e q w) := by
  have hh : sHalt w 10 ≤ 9999 := by rw [halt10 h.1.1.1]; exact h9
  have hl := sOld0_b h
  have h00 := h.1.1.1.2.1
  unfold gSLn
  split
  · unfold gRun
    split
    · trivial
    · split
      · split
        · rename_i h3
          split
          · cases hs : gPr t e true 20 (zX t e (zX t e (zX t e (zX t e q)))) 0 [] with
            | inl f => trivial
            | inr y =>
              obtain ⟨ps, q'⟩ := y
              obtain ⟨c1, c2, c3, c4, c5⟩ := gPr_ok 20 hs (Int.le_refl 0) psOk.nil
              show sAdd w _ (kOf ps) (vOf ps) ps.length 10 ≤ 9999
              rw [(wInv_add h.1 (by have := h.1.1.1.2.1; omega) (by omega) (fun i => (psOk.at c3 i).1) (fun i => (psOk.at c3 i).2) c4).2.2 10 (by omega) (by omega)]
              exact hh
          · trivial
        · trivial
      · trivial
  split
  · unfold gTab
    cases hs : gPr t e false 12 (zX t e q) 0 [] with
    | inl f => trivial
    | inr y =>
      obtain ⟨ps, q'⟩ := y
      obtain ⟨c1, c2, c3, c4, c5⟩ := gPr_ok 12 hs (Int.le_refl 0) psOk.nil
      exact wrs10 ps h c3 h9
  split
  · exact gNo10 (fun n => by rw [wS_ne _ _ _ (by omega)]; exact hh)
  split
  · exact gNo10 (fun n => by rw [wS_ne _ _ _ (by omega)]; exact hh)
  split
  · exact gNo10 (fun n => by rw [wS_ne _ _ _ (by omega)]; exact h9)
  split
  · show wS (sHalt w) 3 0 10 ≤ 9999
    rw [wS_ne _ _ _ (by omega)]; exact hh
  split
  · show wS (sHalt w) 3 1 10 ≤ 9999
    rw [wS_ne _ _ _ (by omega)]; exact hh
  split
  · exact gNo10 (fun n => by rw [wS_ne _ _ _ (by omega)]; exact h9)
  · trivial
theorem gStL10 {t : Int → Int} {e : Int} : ∀ (k : Nat) {q : Int} {w w' : Int → Int}, gStL t e k q w = .inr w' → wI2 w → w 10 ≤ 9999 → w' 10 ≤ 9999
  | 0, q, w, w', h, _, _ => by rw [gStL] at h; cases h
  | k + 1, q, w, w', h, hI, h9 => by
    have h1 := gSLn_ok (t := t) (e := e) (q := q) hI
    have h2 := gSLn10 (t := t) (e := e) (q := q) hI h9
    cases hs : gSLn t e q w with
    | inl f => rw [gStL_1 hs] at h; cases h
    | inr y =>
      obtain ⟨w1, q1⟩ := y
      rw [hs] at h1 h2
      by_cases c1 : zK t e q1 = 52
      · rw [gStL_2 hs c1] at h; cases h; exact h2
      · by_cases c2 : zK t e q1 = 159
        · rw [gStL_3 hs c1 c2] at h
          exact gStL10 k h h1.1 h2
        · rw [gStL_4 hs c1 c2] at h; cases h
theorem gSto10 {t : Int → Int} {e : Int} {w w' : Int → Int} (h : gSto t e w = .inr w') (hI : wI2 w) (h9 : w 10 ≤ 9999) : w' 10 ≤ 9999 := by
  unfold gSto at h
  split at h
  · cases h; exact h9
  · exact gStL10 14 h hI h9
end C10W

