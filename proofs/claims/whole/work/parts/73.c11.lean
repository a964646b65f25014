/-! the cell 11 (how long one writer waited) stands apart -/
section C11
variable {w w' : Int → Int} {x : Int}
theorem wS_com (u : Int → Int) {i j : Int} (h : i ≠ j) (v y : Int) : wS (wS u i v) j y = wS (wS u j y) i v := by
  funext k; unfold wS
  by_cases h1 : k = j
  · subst h1; rw [if_pos rfl, if_neg (fun q => h q.symm), if_pos rfl]
  · rw [if_neg h1]
    by_cases h2 : k = i
    · rw [if_pos h2, if_pos h2]
    · rw [if_neg h2, if_neg h2, if_neg h1]
theorem c11_E (u : Int → Int) {a n : Int} (h : 11 < a) : wE (wS u 11 x) a n = wS (wE u a n) 11 x := by
  funext j; unfold wE wS; dsimp only
  by_cases h1 : a ≤ j ∧ j < a + n
  · rw [if_pos h1, if_neg (by omega), if_pos h1]
  · rw [if_neg h1, if_neg h1]
theorem c11_C (u : Int → Int) {a b n : Int} (ha : 11 < a) (hb : 11 < b) : wC (wS u 11 x) a b n = wS (wC u a b n) 11 x := by
  funext j; unfold wC wS; dsimp only
  by_cases h1 : b ≤ j ∧ j < b + n
  · rw [if_pos h1, if_neg (by omega), if_neg (by omega), if_pos h1]
  · rw [if_neg h1, if_neg h1]
theorem c11_I0 (u : Int → Int) (k : Int) : wI0 (wS u 11 x) k = wS (wI0 u k) 11 x := by
  funext j; unfold wI0 wS; dsimp only
  by_cases h1 : 200 ≤ j ∧ j < 200 + 122 * k ∧ (j - 200) % 122 = 0
  · rw [if_pos h1, if_neg (by omega), if_pos h1]
  · rw [if_neg h1, if_neg h1]
theorem c11_InS (u : Int → Int) (s : Nat) (k : Int) : wInS (wS u 11 x) s k = wS (wInS u s k) 11 x := by
  funext j; unfold wInS wS; dsimp only
  by_cases h1 : 200 ≤ j ∧ j < 200 + 122 * k ∧ (j - 200) % 122 = 0
  · rw [if_pos h1, if_neg (by omega), if_pos h1]
  · rw [if_neg h1, if_neg h1]
theorem c11_Lk (u : Int → Int) : wLk (wS u 11 x) 3 = wS (wLk u 3) 11 x := by
  funext j; unfold wLk wS; dsimp only
  by_cases h1 : 1663 + 3 < j ∧ j < 1903
  · rw [if_pos h1, if_neg (by omega), if_neg (by omega), if_pos h1]
  · rw [if_neg h1, if_neg h1]
theorem c11_told (u : Int → Int) (p q r : Int) : sTold (wS u 11 x) p q r = wS (sTold u p q r) 11 x := by
  have h14 : ∀ f : Int → Int, wS (wS (wS (wS (wS f 11 x) 1663 (wLk u 3 13)) 1664 p) 1665 q) 1666 r = wS (wS (wS (wS (wS f 1663 (wLk u 3 13)) 1664 p) 1665 q) 1666 r) 11 x := fun f => by
    rw [wS_com f (i := 11) (j := 1663) (by omega), wS_com _ (i := 11) (j := 1664) (by omega), wS_com _ (i := 11) (j := 1665) (by omega), wS_com _ (i := 11) (j := 1666) (by omega)]
  unfold sTold
  rw [c11_Lk, show wS (wLk u 3) 11 x 13 = wLk u 3 13 from wS_ne _ _ _ (by omega), h14, wS_ne _ _ _ (show (14 : Int) ≠ 11 by omega), wS_com _ (i := 11) (j := 14) (by omega)]
theorem c11_N : wN (wS w 11 x) = wN w := by unfold wN; rw [wS_ne _ _ _ (by omega)]
theorem c11_r (r : Nat) : wS w 11 x (200 + 122 * (r : Int)) = w (200 + 122 * (r : Int)) := wS_ne _ _ _ (by omega)
theorem c11_inp (r : Nat) : wInp (wS w 11 x) r = wInp w r := by unfold wInp; rw [c11_r]
theorem c11_has {key : Int} (hk : 0 ≤ key) (r : Nat) : wHas (wS w 11 x) key r = wHas w key r := by unfold wHas; rw [wS_ne _ _ _ (by omega)]
theorem c11_newI {key : Int} (hk : 0 ≤ key) : sNewI (wS w 11 x) key = sNewI w key := by
  unfold sNewI; rw [c11_N]
  congr 1
  funext r; rw [c11_inp, c11_has hk]
theorem c11_newW {key : Int} (hk : 0 ≤ key) : sNewW (wS w 11 x) key = sNewW w key := by unfold sNewW; rw [c11_newI hk, c11_N]
theorem c11_next : sNext (wS w 11 x) = sNext w := by
  unfold sNext
  rw [wS_ne _ _ _ (show (18 : Int) ≠ 11 by omega)]
  congr 1
  funext k; rw [c11_newW (by omega)]
theorem c11_rd {key : Int} (hk : 0 ≤ key) (lo : Nat) : ∀ k : Nat, sRd (wS w 11 x) key lo k = sRd w key lo k
  | 0 => wS_ne _ _ _ (by omega)
  | k + 1 => by rw [sRd, sRd, c11_rd hk lo k, c11_inp, c11_has hk]
theorem c11_low {key : Int} (hk : 0 ≤ key) : ∀ r : Nat, sLow (wS w 11 x) key r = sLow w key r
  | 0 => rfl
  | r + 1 => by
    rw [sLow, sLow, c11_low hk r, c11_inp, c11_has hk, c11_N]
    rw [show (fun e => !wInp (wS w 11 x) e) = (fun e => !wInp w e) from funext fun e => by rw [c11_inp]]
theorem c11_takes {key : Int} (hk : 0 ≤ key) : sTakes (wS w 11 x) key = wS (sTakes w key) 11 x := by
  have e1 : sTk1 (wS w 11 x) key = wS (sTk1 w key) 11 x := by unfold sTk1; rw [c11_newI hk, c11_N, c11_rd hk, wS_com _ (by omega)]
  unfold sTakes
  rw [c11_newI hk, c11_N, c11_low hk, show wS w 11 x (201 + 122 * (sNewI w key : Int) + key) = w (201 + 122 * (sNewI w key : Int) + key) from wS_ne _ _ _ (by omega)]
  by_cases q : w (201 + 122 * (sNewI w key : Int) + key) ≠ 100 ∨ sLow w key (wN w) = true
  · rw [if_pos q, if_pos q]
    unfold sTk2
    rw [c11_newI hk, e1, show wS w 11 x (201 + 122 * (sNewI w key : Int) + key) = w (201 + 122 * (sNewI w key : Int) + key) from wS_ne _ _ _ (by omega), show wS w 11 x (261 + 122 * (sNewI w key : Int) + key) = w (261 + 122 * (sNewI w key : Int) + key) from wS_ne _ _ _ (by omega), show wS w 11 x 8 = w 8 from wS_ne _ _ _ (by omega)]
    rw [wS_com _ (i := 11) (j := 79 + key) (by omega), wS_com _ (i := 11) (j := 139 + key) (by omega), wS_com _ (i := 11) (j := 8) (by omega), wS_com _ (i := 11) (j := 18) (by omega)]
  · rw [if_neg q, if_neg q, e1, wS_com _ (i := 11) (j := 18) (by omega)]
theorem c11_wk : ∀ (f : Nat) (u : Int → Int) (d n : Int), sWk f (wS u 11 x) d n = (wS (sWk f u d n).1 11 x, (sWk f u d n).2)
  | 0, _, _, _ => rfl
  | f + 1, u, d, n => by
    rw [sWk, sWk, c11_next]
    by_cases q : d < n ∧ sNext u < 60
    · rw [if_pos q, if_pos q, c11_takes (by omega), c11_wk f]
    · rw [if_neg q, if_neg q]
theorem c11_es (o n0 : Int) (r : Nat) (p : (Int → Int) × Nat) : sEs o n0 r (wS p.1 11 x, p.2) = (wS (sEs o n0 r p).1 11 x, (sEs o n0 r p).2) := by
  unfold sEs
  have e17 : ∀ u : Int → Int, wS u 11 x 17 = u 17 := fun u => wS_ne _ _ _ (by omega)
  have hi : wInp (wS p.1 11 x) r = wInp p.1 r := c11_inp r
  simp only [hi]
  by_cases q : (r : Int) = o ∧ 0 < n0
  · rw [if_pos q, if_pos q]
    by_cases i : wInp p.1 r = true
    · rw [if_pos i, if_pos i, e17, wS_com _ (i := 11) (j := 199 + 122 * (p.2 : Int)) (by omega), c11_C _ (by omega) (by omega)]
    · rw [if_neg i, if_neg i, c11_C _ (by omega) (by omega), e17, wS_com _ (i := 11) (j := 199 + 122 * (p.2 : Int)) (by omega), c11_C _ (by omega) (by omega)]
  · rw [if_neg q, if_neg q]
    by_cases i : wInp p.1 r = true
    · rw [if_pos i, if_pos i]
    · rw [if_neg i, if_neg i, c11_C _ (by omega) (by omega)]
theorem c11_en (o n0 : Int) (u : Int → Int) : ∀ r : Nat, sEn o n0 (wS u 11 x) r = (wS (sEn o n0 u r).1 11 x, (sEn o n0 u r).2)
  | 0 => rfl
  | r + 1 => by rw [sEn, sEn, c11_en o n0 u r, c11_es]
theorem c11_nomore (u : Int → Int) : sNoMore (wS u 11 x) = wS (sNoMore u) 11 x := by
  unfold sNoMore
  rw [show wS u 11 x 0 = u 0 from wS_ne _ _ _ (by omega), c11_I0, c11_E _ (by omega), wS_com _ (i := 11) (j := 16) (by omega)]
theorem c11_old : ∀ (u : Int → Int) (r : Nat), sOld (wS u 11 x) r = sOld u r
  | _, 0 => rfl
  | u, r + 1 => by rw [sOld, sOld, c11_old u r, c11_inp]
theorem c11_ends : sEnds (wS w 11 x) = wS (sEnds w) 11 x := by
  have e79 : sEnt (wS w 11 x) 79 = sEnt w 79 := pCnt_congr (fun k _ _ => wS_ne _ _ _ (by omega))
  have eW : sEnW (wS w 11 x) = wS (sEnW w) 11 x := by unfold sEnW; rw [e79, show wS w 11 x 17 = w 17 from wS_ne _ _ _ (by omega), c11_told]
  have eP : sEnP (wS w 11 x) = (wS (sEnP w).1 11 x, (sEnP w).2) := by unfold sEnP; rw [eW, e79, c11_N, c11_old, c11_en]
  unfold sEnds
  rw [eP, wS_com _ (i := 11) (j := 0) (by omega), c11_nomore]
theorem c11_works (n : Int) : sWorks (wS w 11 x) n = wS (sWorks w n) 11 x := by
  unfold sWorks
  rw [c11_wk]
  show (if sNext (wS (sWk 61 w 0 n).1 11 x) = 60 then sEnds (wS (sWk 61 w 0 n).1 11 x) else wS (sWk 61 w 0 n).1 11 x) = _
  rw [c11_next, c11_ends]
  by_cases q : sNext (sWk 61 w 0 n).1 = 60
  · rw [if_pos q, if_pos q]
  · rw [if_neg q, if_neg q]
theorem c11_eqW : eqW w (wS w 11 x) := eqW_S (by omega)
theorem c11_paid (hN : 0 ≤ w 0 ∧ w 0 ≤ 12) (hL : wLw w) (l : Int) : sPaid (wS w 11 x) l = wS (sPaid w l) 11 x := by
  have h := c11_eqW (w := w) (x := x)
  have e1 : sPaidN (wS w 11 x) l = sPaidN w l := by unfold sPaidN; rw [h.slice hN hL]
  have e2 : sPaidW (wS w 11 x) = wS (sPaidW w) 11 x := by
    unfold sPaidW sCost
    rw [h.sum hN hL, h.goal, show wS w 11 x 12 = w 12 from wS_ne _ _ _ (by omega), wS_com _ (i := 11) (j := 12) (by omega)]
  unfold sPaid
  rw [e1, e2, c11_works]
theorem eqW.dm (h : eqW w w') (hN : 0 ≤ w 0 ∧ w 0 ≤ 12) (hL : wLw w) : ∀ l : Nat, sDM w' l = sDM w l
  | 0 => rfl
  | l + 1 => by
    rw [sDM, sDM, eqW.dm h hN hL l, h.1.due hN (h.2.2 3 (by omega) (by omega) (by omega) (by omega) (by omega)) (h.2.2 4 (by omega) (by omega) (by omega) (by omega) (by omega)) (h.2.2 5 (by omega) (by omega) (by omega) (by omega) (by omega))]
    unfold sWorth
    rw [h.sum hN hL, h.sum hN hL]
theorem c11_beg (hN : 0 ≤ w 0 ∧ w 0 ≤ 12) (hL : wLw w) : sBeg (wS w 11 x) = wS (sBeg w) 11 x := by
  have h := c11_eqW (w := w) (x := x)
  unfold sBeg
  rw [h.dm hN hL, show wS w 11 x 16 = w 16 from wS_ne _ _ _ (by omega)]
  by_cases q : w 16 = 1
  · rw [if_pos q, if_pos q]
  rw [if_neg q, if_neg q]
  by_cases q2 : sDM w 4 = -1
  · rw [if_pos q2, if_pos q2]
  rw [if_neg q2, if_neg q2]
  have eS : sBegS (wS w 11 x) (sDM w 4) = sBegS w (sDM w 4) := by unfold sBegS; rw [h.1.runs hN, h.1.runs hN, show wS w 11 x 3 = w 3 from wS_ne _ _ _ (by omega)]
  have eW : sBegW (wS w 11 x) (sDM w 4) = wS (sBegW w (sDM w 4)) 11 x := by
    unfold sBegW
    rw [eS, show wS w 11 x 0 = w 0 from wS_ne _ _ _ (by omega), c11_InS, c11_E _ (by omega), wS_com _ (i := 11) (j := 16) (by omega), wS_com _ (i := 11) (j := 17) (by omega), wS_com _ (i := 11) (j := 18) (by omega)]
  have e0 : sBegW w (sDM w 4) 0 = w 0 := by
    unfold sBegW
    rw [wS_ne _ _ _ (by omega), wS_ne _ _ _ (by omega), wS_ne _ _ _ (by omega)]
    exact (if_neg (by omega)).trans (wInS_ne (fun _ _ => by omega))
  unfold sBeg1
  rw [eS, eW, show wS (sBegW w (sDM w 4)) 11 x 17 = sBegW w (sDM w 4) 17 from wS_ne _ _ _ (by omega), (c11_eqW (w := sBegW w (sDM w 4)) (x := x)).1.entIn (by rw [e0]; exact hN), c11_told]
theorem c11_crowd (hN : 0 ≤ w 0 ∧ w 0 ≤ 12) : sCrowd (wS w 11 x) = sCrowd w := by
  unfold sCrowd
  rw [(c11_eqW (w := w) (x := x)).1.many hN, show wS w 11 x 4 = w 4 from wS_ne _ _ _ (by omega), show wS w 11 x 0 = w 0 from wS_ne _ _ _ (by omega)]
theorem sPaid_11 (hN : 0 ≤ w 0 ∧ w 0 ≤ 12) (hL : wLw w) (l : Int) : sPaid w l 11 = w 11 := by
  have h := c11_paid (x := w 11) hN hL l
  rw [wS_id] at h
  rw [h]; exact wS_at _ _ _
theorem sBeg_11 (hN : 0 ≤ w 0 ∧ w 0 ≤ 12) (hL : wLw w) : sBeg w 11 = w 11 := by
  have h := c11_beg (x := w 11) hN hL
  rw [wS_id] at h
  rw [h]; exact wS_at _ _ _
/-! the table stays -/
def tabS (w w' : Int → Int) : Prop := ∀ j : Int, 19 ≤ j → j < 79 → w' j = w j
theorem tabS.tr {u v : Int → Int} (h1 : tabS w u) (h2 : tabS u v) : tabS w v := fun j a b => (h2 j a b).trans (h1 j a b)
theorem tabS_S {i v : Int} (h : i < 19 ∨ 79 ≤ i) : tabS w (wS w i v) := fun j _ _ => wS_ne _ _ _ (by omega)
theorem tabS.ent (h : tabS w w') : sEnt w' 19 = sEnt w 19 := pCnt_congr (fun k _ _ => h _ (by omega) (by omega))
theorem tabS_beg : tabS w (sBeg w) := by
  unfold sBeg
  split
  · exact fun _ _ _ => rfl
  split
  · exact fun _ _ _ => rfl
  exact fun j h1 h2 => sBeg1_c (by omega) (by omega) (by omega) (fun _ _ => by omega)
theorem tabS_wk : ∀ (f : Nat) (u : Int → Int) (d n : Int), tabS u (sWk f u d n).1
  | 0, _, _, _ => fun _ _ _ => rfl
  | f + 1, u, d, n => by
    rw [sWk]
    by_cases q : d < n ∧ sNext u < 60
    · rw [if_pos q]
      exact (show tabS u (sTakes u (sNext u : Int)) from fun j h1 h2 => sTakes_c (by omega) (by omega)).tr (tabS_wk f _ _ _)
    · rw [if_neg q]; exact fun _ _ _ => rfl
theorem tabS_paid (hO : wOk w) (hL : wLw w) (l : Int) : tabS w (sPaid w l) := by
  have h1 : tabS w (sPaidW w) := tabS_S (by omega)
  refine h1.tr ?_
  unfold sPaid sWorks
  have h2 := tabS_wk 61 (sPaidW w) 0 (sPaidN w l)
  by_cases q : sNext (sWk 61 (sPaidW w) 0 (sPaidN w l)).1 = 60
  · rw [if_pos q]
    have hO2 := sWk_ok 61 (done := 0) (n := sPaidN w l) (wOk_paidW hO hL)
    exact h2.tr (fun j a b => (sEnds_lo hO2 ⟨by omega, by omega, by omega⟩).trans (sEnW_c (by omega) (by omega)))
  · rw [if_neg q]; exact h2
end C11

