/-! texts of a store -/
def kOf (ps : List (Int × Int)) : Int → Int := fun j => (ps.getD j.toNat (0, 0)).1
def vOf (ps : List (Int × Int)) : Int → Int := fun j => (ps.getD j.toNat (0, 0)).2
def psOk (ps : List (Int × Int)) : Prop := ∀ p ∈ ps, (0 ≤ p.1 ∧ p.1 < 60) ∧ 0 ≤ p.2 ∧ p.2 ≤ 100
theorem psOk.nil : psOk [] := fun p hp => absurd hp List.not_mem_nil
theorem psOk.app {a : List (Int × Int)} {k v : Int} (h : psOk a) (hk : 0 ≤ k ∧ k < 60) (hv : 0 ≤ v ∧ v ≤ 100) : psOk (a ++ [(k, v)]) := by
  intro p hp
  rcases List.mem_append.mp hp with h1 | h1
  · exact h p h1
  · rw [List.mem_singleton.mp h1]; exact ⟨hk, hv⟩
theorem psOk.at {ps : List (Int × Int)} (h : psOk ps) (i : Nat) : (0 ≤ kOf ps (i : Int) ∧ kOf ps (i : Int) < 60) ∧ 0 ≤ vOf ps (i : Int) ∧ vOf ps (i : Int) ≤ 100 := by
  unfold kOf vOf
  rw [show ((i : Int)).toNat = i by omega]
  by_cases e : i < ps.length
  · have : ps.getD i (0, 0) ∈ ps := by rw [List.getD_eq_getElem?_getD, List.getElem?_eq_getElem e]; exact List.getElem_mem e
    exact h _ this
  · rw [List.getD_eq_getElem?_getD, List.getElem?_eq_none (by omega)]; decide
theorem kOf_app {a : List (Int × Int)} {x : Int × Int} (i : Nat) : kOf (a ++ [x]) (i : Int) = (if i < a.length then kOf a (i : Int) else if i = a.length then x.1 else 0) := by
  unfold kOf
  rw [show ((i : Int)).toNat = i by omega, getD_app]
  by_cases e : i < a.length
  · rw [if_pos e, if_pos e]
  · rw [if_neg e, if_neg e]
    by_cases e2 : i = a.length
    · subst e2; rw [if_pos rfl, Nat.sub_self]; rfl
    · rw [if_neg e2, List.getD_eq_getElem?_getD, List.getElem?_eq_none (by show 1 ≤ _; omega)]; rfl
theorem vOf_app {a : List (Int × Int)} {x : Int × Int} (i : Nat) : vOf (a ++ [x]) (i : Int) = (if i < a.length then vOf a (i : Int) else if i = a.length then x.2 else 0) := by
  unfold vOf
  rw [show ((i : Int)).toNat = i by omega, getD_app]
  by_cases e : i < a.length
  · rw [if_pos e, if_pos e]
  · rw [if_neg e, if_neg e]
    by_cases e2 : i = a.length
    · subst e2; rw [if_pos rfl, Nat.sub_self]; rfl
    · rw [if_neg e2, List.getD_eq_getElem?_getD, List.getElem?_eq_none (by show 1 ≤ _; omega)]; rfl
theorem sPut_cg {k1 v1 k2 v2 : Int → Int} {w : Int → Int} {r : Int} : ∀ n : Nat, (∀ i : Nat, i < n → k1 (i : Int) = k2 (i : Int) ∧ v1 (i : Int) = v2 (i : Int)) → sPut k1 v1 w r n = sPut k2 v2 w r n
  | 0, _ => rfl
  | n + 1, h => by rw [sPut, sPut, sPut_cg n (fun i hi => h i (by omega)), (h n (by omega)).1, (h n (by omega)).2]
theorem sPut_app {a : List (Int × Int)} {k v : Int} {w : Int → Int} {r : Int} : sPut (kOf (a ++ [(k, v)])) (vOf (a ++ [(k, v)])) w r (a.length + 1) = wS (wS (sPut (kOf a) (vOf a) w r a.length) (201 + 122 * r + k) v) (261 + 122 * r + k) 0 := by
  rw [sPut, show kOf (a ++ [(k, v)]) (a.length : Int) = k from by rw [kOf_app, if_neg (Nat.lt_irrefl _), if_pos rfl], show vOf (a ++ [(k, v)]) (a.length : Int) = v from by rw [vOf_app, if_neg (Nat.lt_irrefl _), if_pos rfl], sPut_cg (k2 := kOf a) (v2 := vOf a) a.length (fun i hi => by rw [kOf_app, vOf_app, if_pos hi, if_pos hi]; exact ⟨rfl, rfl⟩)]
abbrev gPz : Type := Int ⊕ (List (Int × Int) × Int)
/-- the next key is this at the least -/
def gLo (rising : Bool) (k : Int) : Int := if rising = true then k + 1 else 0
/-- keys and values, to the last that stands there -/
def gPr (t : Int → Int) (e : Int) (rising : Bool) : Nat → Int → Int → List (Int × Int) → gPz
  | 0, q, _, _ => .inl q
  | k + 1, q, lo, acc => if zK t e q = 51 ∧ lo ≤ zNm t e q ∧ zNm t e q ≤ 59 then
      (if zK t e (zX t e q) = 51 ∧ 0 ≤ zNm t e (zX t e q) ∧ zNm t e (zX t e q) ≤ 100 then
        (if zK t e (zX t e (zX t e q)) = 51 then gPr t e rising k (zX t e (zX t e q)) (gLo rising (zNm t e q)) (acc ++ [(zNm t e q, zNm t e (zX t e q))])
        else .inr (acc ++ [(zNm t e q, zNm t e (zX t e q))], zX t e (zX t e q)))
      else .inl (zX t e q))
    else .inl q
section GPR
variable {t : Int → Int} {e q lo : Int} {ri : Bool} {k : Nat} {acc : List (Int × Int)}
theorem gPr_1 (h : ¬ (zK t e q = 51 ∧ lo ≤ zNm t e q ∧ zNm t e q ≤ 59)) : gPr t e ri (k + 1) q lo acc = .inl q := by rw [gPr, if_neg h]
theorem gPr_2 (h : zK t e q = 51 ∧ lo ≤ zNm t e q ∧ zNm t e q ≤ 59) (h2 : ¬ (zK t e (zX t e q) = 51 ∧ 0 ≤ zNm t e (zX t e q) ∧ zNm t e (zX t e q) ≤ 100)) : gPr t e ri (k + 1) q lo acc = .inl (zX t e q) := by rw [gPr, if_pos h, if_neg h2]
theorem gPr_3 (h : zK t e q = 51 ∧ lo ≤ zNm t e q ∧ zNm t e q ≤ 59) (h2 : zK t e (zX t e q) = 51 ∧ 0 ≤ zNm t e (zX t e q) ∧ zNm t e (zX t e q) ≤ 100) (h3 : zK t e (zX t e (zX t e q)) = 51) : gPr t e ri (k + 1) q lo acc = gPr t e ri k (zX t e (zX t e q)) (gLo ri (zNm t e q)) (acc ++ [(zNm t e q, zNm t e (zX t e q))]) := by rw [gPr, if_pos h, if_pos h2, if_pos h3]
theorem gPr_4 (h : zK t e q = 51 ∧ lo ≤ zNm t e q ∧ zNm t e q ≤ 59) (h2 : zK t e (zX t e q) = 51 ∧ 0 ≤ zNm t e (zX t e q) ∧ zNm t e (zX t e q) ≤ 100) (h3 : zK t e (zX t e (zX t e q)) ≠ 51) : gPr t e ri (k + 1) q lo acc = .inr (acc ++ [(zNm t e q, zNm t e (zX t e q))], zX t e (zX t e q)) := by rw [gPr, if_pos h, if_pos h2, if_neg h3]
end GPR
theorem gLo_b {ri : Bool} {k : Int} (h : 0 ≤ k ∧ k ≤ 59) : 0 ≤ gLo ri k ∧ gLo ri k ≤ 60 := by unfold gLo; split <;> omega
theorem gPr_ok {t : Int → Int} {e : Int} {ri : Bool} : ∀ (k : Nat) {q lo : Int} {acc : List (Int × Int)} {x : List (Int × Int) × Int}, gPr t e ri k q lo acc = .inr x → 0 ≤ lo → psOk acc → q < x.2 ∧ x.2 ≤ e ∧ psOk x.1 ∧ acc.length < x.1.length ∧ x.1.length ≤ acc.length + k
  | 0, q, lo, acc, x, h, _, _ => by rw [gPr] at h; cases h
  | k + 1, q, lo, acc, x, h, hl, ha => by
    rw [gPr] at h
    split at h
    · rename_i h1
      have b1 := zX_b (t := t) (zK_lt (t := t) (e := e) (q := q) (by omega))
      split at h
      · rename_i h2
        have b2 := zX_b (t := t) (zK_lt (t := t) (e := e) (q := zX t e q) (by omega))
        have h5 := ha.app (k := zNm t e q) (v := zNm t e (zX t e q)) (by omega) (by omega)
        have h6 : (acc ++ [(zNm t e q, zNm t e (zX t e q))]).length = acc.length + 1 := by rw [List.length_append]; rfl
        split at h
        · obtain ⟨c1, c2, c3, c4, c5⟩ := gPr_ok k h (gLo_b (by omega)).1 h5
          exact ⟨by omega, c2, c3, by omega, by omega⟩
        · cases h
          exact ⟨by show q < zX t e (zX t e q); omega, b2.2, h5, by show acc.length < (acc ++ _).length; omega, by show (acc ++ _).length ≤ _; omega⟩
      · cases h
    · cases h
abbrev gSz : Type := Int ⊕ ((Int → Int) × Int)
/-- a number that a word asks for -/
def gNo (t : Int → Int) (e q lo hi : Int) (f : Int → Int → Int) : gSz := if zK t e q = 51 ∧ lo ≤ zNm t e q ∧ zNm t e q ≤ hi then .inr (f (zNm t e q), zX t e q) else .inl q
def sOld0 (w : Int → Int) : Int := if w 0 = 0 then 0 else w (199 + 122 * (w 0 - 1))
def gRun (t : Int → Int) (e q : Int) (w : Int → Int) : gSz :=
  if w 0 = 12 then .inl q
  else if zK t e (zX t e q) = 0 then
    (if zK t e (zX t e (zX t e q)) = 51 ∧ sOld0 w ≤ zNm t e (zX t e (zX t e q)) ∧ zNm t e (zX t e (zX t e q)) ≤ 3 then
      (if zK t e (zX t e (zX t e (zX t e q))) = 14 then
        (match gPr t e true 20 (zX t e (zX t e (zX t e (zX t e q)))) 0 [] with
          | .inl f => .inl f
          | .inr (ps, q') => .inr (sAdd w (zNm t e (zX t e (zX t e q))) (kOf ps) (vOf ps) ps.length, q'))
      else .inl (zX t e (zX t e (zX t e q))))
    else .inl (zX t e (zX t e q)))
  else .inl (zX t e q)
noncomputable def sWrs (w : Int → Int) (ps : List (Int × Int)) : Int → Int := ps.foldl (fun u p => sWrite u p.1 p.2) w
theorem sWrs_app {w : Int → Int} {a : List (Int × Int)} {k v : Int} : sWrs w (a ++ [(k, v)]) = sWrite (sWrs w a) k v := by unfold sWrs; rw [List.foldl_append]; rfl
noncomputable def gTab (t : Int → Int) (e q : Int) (w : Int → Int) : gSz := match gPr t e false 12 q 0 [] with
  | .inl f => .inl f
  | .inr (ps, q') => .inr (sWrs w ps, q')
noncomputable def gSLn (t : Int → Int) (e q : Int) (w : Int → Int) : gSz :=
  if zK t e q = 13 then gRun t e q w
  else if zK t e q = 4 then gTab t e (zX t e q) w
  else if zK t e q = 15 then gNo t e (zX t e q) 2 6 (fun n => wS (sHalt w) 5 n)
  else if zK t e q = 5 then gNo t e (zX t e q) 2 4 (fun n => wS (sHalt w) 4 n)
  else if zK t e q = 10 then gNo t e (zX t e q) 0 9 (fun n => wS w 6 n)
  else if zK t e q = 8 then .inr (wS (sHalt w) 3 0, zX t e q)
  else if zK t e q = 16 then .inr (wS (sHalt w) 3 1, zX t e q)
  else if zK t e q = 6 then gNo t e (zX t e q) 0 999 (fun n => wS w 13 n)
  else .inl q
noncomputable def gStL (t : Int → Int) (e : Int) : Nat → Int → (Int → Int) → Int ⊕ (Int → Int)
  | 0, q, _ => .inl q
  | k + 1, q, w => match gSLn t e q w with
    | .inl f => .inl f
    | .inr (w', q') => if zK t e q' = 52 then .inr w' else if zK t e q' = 159 then gStL t e k (zX t e q') w' else .inl q'
/-- the world that a text of the store makes, or where it is wrong -/
noncomputable def gSto (t : Int → Int) (e : Int) (w : Int → Int) : Int ⊕ (Int → Int) := if zK t e (zSk t e 0) = 52 then .inr w else gStL t e 14 (zSk t e 0) w
/-! cell 1 (texts) stays -/
section C1W
variable {w : Int → Int}
theorem wk1 : ∀ (f : Nat) (w : Int → Int) (d n : Int), (sWk f w d n).1 1 = w 1
  | 0, w, d, n => rfl
  | f + 1, w, d, n => by
    rw [sWk]
    split
    · rename_i c
      rw [wk1 f, sTakes_c (by omega) (by omega)]
    · rfl
theorem paid1 (h : wOk w) (hL : wLw w) (l : Int) : sPaid w l 1 = w 1 := by
  have h1 := wk1 61 (sPaidW w) 0 (sPaidN w l)
  have h2 : sPaidW w 1 = w 1 := wS_ne _ _ _ (by omega)
  unfold sPaid sWorks
  split
  · rw [sEnds_lo (sWk_ok 61 (wOk_paidW h hL)) (by omega), sEnW_c (by omega) (by omega), h1, h2]
  · rw [h1, h2]
theorem beg1 : sBeg w 1 = w 1 := by
  unfold sBeg
  split
  · rfl
  · split
    · rfl
    · unfold sBeg1
      rw [sTold_lo _ _ _ _ (by omega) (by omega)]
      unfold sBegW
      rw [wS_ne _ _ _ (by omega), wS_ne _ _ _ (by omega), wS_ne _ _ _ (by omega)]
      unfold wE wInS
      rw [if_neg (by omega), if_neg (by omega)]
theorem can1 : sCan w 1 = w 1 := by
  unfold sCan
  split
  · exact beg1
  · rfl
theorem stl1 : ∀ (f : Nat) {w : Int → Int} {s : Int}, wI2 w → 0 ≤ s → (sStl f w s).1 1 = w 1
  | 0, w, s, _, _ => rfl
  | f + 1, w, s, h, hs => by
    rw [sStl]
    by_cases hb : sCanB w = true
    · rw [if_pos hb]
      have h1 := wInv_can h.1
      rw [stl1 f ⟨(wInv_stp h.1 hb hs).1, (pPot_stp (s := s) h.1 h.2 hb).2⟩ (by omega)]
      unfold sStp
      rw [wS_ne _ _ _ (by omega), wS_ne _ _ _ (by omega), paid1 h1.1.1 h1.1.2.1, can1]
    · rw [if_neg hb]; exact can1
theorem rm1w (h : wI2 w) : (sRoom w).1 1 = w 1 := by
  have h1 := stl1 sFu h (Int.le_refl 0)
  obtain ⟨k1, k2, k3, k4⟩ := sStl_inv sFu h.1 (Int.le_refl 0)
  unfold sRoom
  split
  · show (if sCrowd (sStl sFu w 0).1 = true then (sStl sFu w 0).1 else sFlush (sStl sFu w 0).1) 1 = w 1
    split
    · exact h1
    · rename_i hc
      rw [sFl_lo ⟨k1.1.1.2.1.1, (sCrowd_f (Bool.eq_false_iff.mpr hc) k1.1.1.2.1.2).1⟩ (by omega), h1]
  · rfl
theorem write1 (h : wI2 w) {key v : Int} (hk : 0 ≤ key ∧ key < 60) (hv : 0 ≤ v ∧ v ≤ 100) : sWrite w key v 1 = w 1 := by
  have h1 := wI2_W1 h hk hv
  have h2 := rm1w h1
  have h3 := wI2_room h1 h1.1.1.1.2.2.2.2.2.2.1.1
  have h4 := wI2_beg h3
  have h5 : sW1 w key v 1 = w 1 := by unfold sW1; rw [wS_ne _ _ _ (by omega), wS_ne _ _ _ (by omega)]
  unfold sWrite sTail
  split
  · rw [paid1 h4.1.1.1 h4.1.1.2.1, beg1, h2, h5]
  · rw [beg1, h2, h5]
/-- the size and the fan stand apart from what a halt tells -/
theorem hS_Lk {k v : Int} (hk : k = 4 ∨ k = 5) : wLk (wS w k v) 3 = wS (wLk w 3) k v := by
  funext j; unfold wLk wS; dsimp only
  by_cases h1 : 1663 + 3 < j ∧ j < 1903
  · rw [if_pos h1, if_neg (by omega), if_neg (by omega), if_pos h1]
  · rw [if_neg h1, if_neg h1]
theorem hS_told {k v : Int} (hk : k = 4 ∨ k = 5) (p q r : Int) : sTold (wS w k v) p q r = wS (sTold w p q r) k v := by
  rw [sTold_14, sTold_14, hS_Lk hk, wS_ne w k v (show (13 : Int) ≠ k by omega), wS_ne w k v (show (14 : Int) ≠ k by omega)]
  rw [wS_com _ (i := k) (j := 1663) (by omega), wS_com _ (i := k) (j := 1664) (by omega), wS_com _ (i := k) (j := 1665) (by omega), wS_com _ (i := k) (j := 1666) (by omega), wS_com _ (i := k) (j := 14) (by omega)]
theorem hS_nomore {k v : Int} (hk : k = 4 ∨ k = 5) : sNoMore (wS w k v) = wS (sNoMore w) k v := by
  have e1 : ∀ n : Int, wI0 (wS w k v) n = wS (wI0 w n) k v := fun n => by
    funext j; unfold wI0 wS; dsimp only
    by_cases h1 : 200 ≤ j ∧ j < 200 + 122 * n ∧ (j - 200) % 122 = 0
    · rw [if_pos h1, if_neg (by omega), if_pos h1]
    · rw [if_neg h1, if_neg h1]
  have e2 : ∀ u : Int → Int, wE (wS u k v) 79 60 = wS (wE u 79 60) k v := fun u => by
    funext j; unfold wE wS; dsimp only
    by_cases h1 : 79 ≤ j ∧ j < 79 + 60
    · rw [if_pos h1, if_neg (by omega), if_pos h1]
    · rw [if_neg h1, if_neg h1]
  unfold sNoMore
  rw [wS_ne w k v (show (0 : Int) ≠ k by omega), e1, e2, wS_com _ (i := k) (j := 16) (by omega)]
theorem hS_halt {k v : Int} (hk : k = 4 ∨ k = 5) : sHalt (wS w k v) = wS (sHalt w) k v := by
  have e : sEnt (wS w k v) 79 = sEnt w 79 := by
    rw [sEnt_p, sEnt_p]; exact pCnt_congr (fun j _ _ => wS_ne _ _ _ (by omega))
  unfold sHalt
  rw [wS_ne w k v (show (16 : Int) ≠ k by omega), wS_ne w k v (show (17 : Int) ≠ k by omega), e, hS_told hk, hS_nomore hk]
  split <;> rfl
theorem halt1 (h : wOk w) : sHalt w 1 = w 1 := sHalt_lo h (by omega)
theorem wI2_no {w : Int → Int} (h : wI2 w) {i v : Int} (hi : i = 1 ∨ i = 3 ∨ i = 4 ∨ i = 5 ∨ i = 6 ∨ i = 13) (hc : wCell i v) : wI2 (wS w i v) := h.S (by omega) hc (fun q => by omega)
theorem wI2_wrs : ∀ (ps : List (Int × Int)) {w : Int → Int}, wI2 w → psOk ps → wI2 (sWrs w ps) ∧ sWrs w ps 1 = w 1
  | [], w, h, _ => ⟨h, rfl⟩
  | p :: ps, w, h, hp => by
    have h1 := hp p (List.mem_cons_self ..)
    obtain ⟨h2, h3⟩ := wI2_wrs ps (wI2_write h h1.1 h1.2) (fun x hx => hp x (List.mem_cons_of_mem _ hx))
    exact ⟨h2, h3.trans (write1 h h1.1 h1.2)⟩
/-- a line that is right keeps the worlds good -/
def gSOk (e q : Int) (w : Int → Int) : gSz → Prop
  | .inl _ => True
  | .inr (w', q') => wI2 w' ∧ w' 1 = w 1 ∧ q < q' ∧ q' ≤ e
theorem sOld0_b (h : wI2 w) : 0 ≤ sOld0 w ∧ sOld0 w ≤ 3 := by
  have h0 := h.1.1.1.2.1
  unfold sOld0
  split
  · omega
  · have h1 := h.1.2.1.1 (w 0 - 1).toNat (by omega)
    rw [show (((w 0 - 1).toNat : Nat) : Int) = w 0 - 1 by omega] at h1
    exact h1.1
theorem gNo_ok {t : Int → Int} {e q lo hi : Int} {f : Int → Int → Int} (hl : 0 ≤ lo) (h : ∀ n : Int, lo ≤ n → n ≤ hi → wI2 (f n) ∧ f n 1 = w 1) : gSOk e q w (gNo t e q lo hi f) := by
  unfold gNo
  split
  · rename_i c
    have b1 := zX_b (t := t) (zK_lt (t := t) (e := e) (q := q) (by omega))
    exact ⟨(h _ c.2.1 c.2.2).1, (h _ c.2.1 c.2.2).2, b1.1, b1.2⟩
  · trivial
theorem gSOk.mv {e q q0 : Int} {x : gSz} (h : gSOk e q w x) (hq : q0 ≤ q) : gSOk e q0 w x := by
  cases x with
  | inl f => trivial
  | inr y => obtain ⟨y1, y2⟩ := y; exact ⟨h.1, h.2.1, by have h3 : q < y2 := h.2.2.1; omega, h.2.2.2⟩
theorem gRun_ok {t : Int → Int} {e q : Int} (h : wI2 w) (hq : zK t e q = 13) : gSOk e q w (gRun t e q w) := by
  have h0 := h.1.1.1.2.1
  have hl := sOld0_b h
  have b1 := zX_b (t := t) (zK_lt (t := t) (e := e) (q := q) (by omega))
  unfold gRun
  split
  · trivial
  · split
    · have b2 := zX_b (t := t) (zK_lt (t := t) (e := e) (q := zX t e q) (by omega))
      split
      · rename_i h3
        have b3 := zX_b (t := t) (zK_lt (t := t) (e := e) (q := zX t e (zX t e q)) (by omega))
        split
        · have b4 := zX_b (t := t) (zK_lt (t := t) (e := e) (q := zX t e (zX t e (zX t e q))) (by omega))
          cases hs : gPr t e true 20 (zX t e (zX t e (zX t e (zX t e q)))) 0 [] with
          | inl f => trivial
          | inr y =>
            obtain ⟨ps, q'⟩ := y
            obtain ⟨c1, c2, c3, c4, c5⟩ := gPr_ok 20 hs (Int.le_refl 0) psOk.nil
            have c6 : q < q' := by show q < (ps, q').2; omega
            have c7 : 0 < ps.length := c4
            refine ⟨wI2_add h (by omega) (by omega) (fun i => (psOk.at c3 i).1) (fun i => (psOk.at c3 i).2) c7, ?_, c6, c2⟩
            rw [(wInv_add h.1 (by omega) (by omega) (fun i => (psOk.at c3 i).1) (fun i => (psOk.at c3 i).2) c7).2.2 1 (by omega) (by omega), halt1 h.1.1.1]
        · trivial
      · trivial
    · trivial
theorem gTab_ok {t : Int → Int} {e q : Int} (h : wI2 w) : gSOk e q w (gTab t e q w) := by
  unfold gTab
  cases hs : gPr t e false 12 q 0 [] with
  | inl f => trivial
  | inr y =>
    obtain ⟨ps, q'⟩ := y
    obtain ⟨c1, c2, c3, c4, c5⟩ := gPr_ok 12 hs (Int.le_refl 0) psOk.nil
    obtain ⟨c6, c7⟩ := wI2_wrs ps h c3
    exact ⟨c6, c7, c1, c2⟩
theorem gSLn_ok {t : Int → Int} {e q : Int} (h : wI2 w) : gSOk e q w (gSLn t e q w) := by
  have b1 : zK t e q < 52 → 0 ≤ zK t e q → q < zX t e q ∧ zX t e q ≤ e := fun a b => zX_b (t := t) (zK_lt (t := t) (e := e) (q := q) (by omega))
  unfold gSLn
  split
  · rename_i c; exact gRun_ok h c
  split
  · exact (gTab_ok h).mv (by omega)
  split
  · exact (gNo_ok (by omega) (fun n a b => ⟨wI2_no (wI2_halt h) (by omega) (by unfold wCell; omega), by rw [wS_ne _ _ _ (by omega)]; exact halt1 h.1.1.1⟩)).mv (by omega)
  split
  · exact (gNo_ok (by omega) (fun n a b => ⟨wI2_no (wI2_halt h) (by omega) (by unfold wCell; omega), by rw [wS_ne _ _ _ (by omega)]; exact halt1 h.1.1.1⟩)).mv (by omega)
  split
  · exact (gNo_ok (by omega) (fun n a b => ⟨wI2_no h (by omega) (by unfold wCell; omega), wS_ne _ _ _ (by omega)⟩)).mv (by omega)
  split
  · exact ⟨wI2_no (wI2_halt h) (by omega) (by unfold wCell; omega), by rw [wS_ne _ _ _ (by omega)]; exact halt1 h.1.1.1, b1 (by omega) (by omega)⟩
  split
  · exact ⟨wI2_no (wI2_halt h) (by omega) (by unfold wCell; omega), by rw [wS_ne _ _ _ (by omega)]; exact halt1 h.1.1.1, b1 (by omega) (by omega)⟩
  split
  · exact (gNo_ok (by omega) (fun n a b => ⟨wI2_no h (by omega) (by unfold wCell; omega), wS_ne _ _ _ (by omega)⟩)).mv (by omega)
  · trivial
end C1W

