section RBP
variable {T : Nat → Nat × Int} {F F' : Nat → Nat → Int} {I I' : Nat → Int → Int} {P P' : Nat → Nat → Option Nat} {Y Y' : Nat → Int → Option Nat} {a : Nat} {π : Nat → Nat} {w w' : Int → Int}
/-- worlds alike for the law -/
def eqW (w w' : Int → Int) : Prop := eqR w w' ∧ wHi w w' ∧ ∀ j : Int, 3 ≤ j → j < 79 → (j < 7 ∨ 12 < j) → j ≠ 14 → j ≠ 15 → w' j = w j
theorem eqW_S {i v : Int} (h : (7 ≤ i ∧ i ≤ 12) ∨ i = 14 ∨ i = 15 ∨ (79 ≤ i ∧ i < 199)) : eqW w (wS w i v) := ⟨eqR_S _ _ _ (by omega), wHi_S _ _ _ (by omega), fun j _ _ _ _ _ => wS_ne _ _ _ (by omega)⟩
theorem eqW.debtS (h : eqW w w') (hN : 0 ≤ w 0 ∧ w 0 ≤ 12) : ∀ l : Nat, sDebtS w' l = sDebtS w l
  | 0 => rfl
  | l + 1 => by rw [sDebtS, sDebtS, eqW.debtS h hN l, h.1.due hN (h.2.2 3 (by omega) (by omega) (by omega) (by omega) (by omega)) (h.2.2 4 (by omega) (by omega) (by omega) (by omega) (by omega)) (h.2.2 5 (by omega) (by omega) (by omega) (by omega) (by omega)), h.1.runs hN]
theorem eqW.debt (h : eqW w w') (hN : 0 ≤ w 0 ∧ w 0 ≤ 12) : sDebt w' = sDebt w := by
  unfold sDebt
  rw [h.1.left hN (h.2.2 18 (by omega) (by omega) (by omega) (by omega) (by omega)), h.debtS hN, h.1.inp hN, h.1.entIn hN]
theorem eqW.tab (h : eqW w w') : sEnt w' 19 = sEnt w 19 := pCnt_congr (fun k _ _ => h.2.2 _ (by omega) (by omega) (by omega) (by omega) (by omega))
theorem eqW.fact (h : eqW w w') (hN : 0 ≤ w 0 ∧ w 0 ≤ 12) (level : Int) : sFact w' level = sFact w level := by
  funext c x
  unfold sFact
  rw [h.1.many hN, h.1.runs hN, h.1.entIn hN, h.debt hN, h.tab, h.2.2 4 (by omega) (by omega) (by omega) (by omega) (by omega), h.2.2 13 (by omega) (by omega) (by omega) (by omega) (by omega), h.2.2 16 (by omega) (by omega) (by omega) (by omega) (by omega), h.2.2 3 (by omega) (by omega) (by omega) (by omega) (by omega), h.2.2 5 (by omega) (by omega) (by omega) (by omega) (by omega)]
theorem wCode_hi2 (h : wHi w w') : ∀ (k : Nat) (i : Int), 0 ≤ i → wCode w' i k = wCode w i k
  | 0, _, _ => rfl
  | k + 1, i, hi => by rw [wCode, wCode, wCode_hi2 h k (i + 1) (by omega), h.2 _ (by omega), h.2 _ (by omega)]
theorem eqW.sum (h : eqW w w') (hN : 0 ≤ w 0 ∧ w 0 ≤ 12) (hL : wLw w) (x level : Int) : sSumOf w' x level = sSumOf w x level := by
  unfold sSumOf
  rw [h.2.1.1, h.2.1.2 1903 (by omega)]
  by_cases h2 : w 2 = 1
  · rw [if_pos h2, if_pos h2]
    refine pSum_congr (fun n hn => ?_)
    have hb := ((hL h2).2 n (by omega)).2.2.1
    have e : sHolds w' (n : Int) level = sHolds w (n : Int) level := by
      unfold sHolds
      rw [h.fact hN]
      have e1 : wFrom w' (n : Int) = wFrom w (n : Int) := h.2.1.2 _ (by omega)
      have e2 : wTo w' (n : Int) = wTo w (n : Int) := h.2.1.2 _ (by omega)
      unfold wLcode
      rw [e1, e2, wCode_hi2 h.2.1 _ _ hb.1]
    unfold fSum
    rw [e, h.2.1.2 _ (by omega), h.2.1.2 _ (by omega)]
  · rw [if_neg h2, if_neg h2]
theorem eqW.goal (h : eqW w w') : sGoal w' = sGoal w := by unfold sGoal; rw [h.2.2 16 (by omega) (by omega) (by omega) (by omega) (by omega), h.2.2 17 (by omega) (by omega) (by omega) (by omega) (by omega)]
theorem eqW.slice (h : eqW w w') (hN : 0 ≤ w 0 ∧ w 0 ≤ 12) (hL : wLw w) : sSlice w' = sSlice w := by
  unfold sSlice
  rw [h.debt hN, h.sum hN hL, h.goal, h.2.2 6 (by omega) (by omega) (by omega) (by omega) (by omega)]
theorem wRn.congr (h : wRn w) (he : eqR w w') (hN : 0 ≤ w 0 ∧ w 0 ≤ 12) (h16 : w' 16 = w 16) (ho : w 16 = 0 → ∀ k : Int, 0 ≤ k → k < 60 → w' (79 + k) = w (79 + k)) : wRn w' := by
  refine ⟨fun r hr => ?_, fun q => ⟨fun r hr => ?_, fun k k0 k1 => ?_⟩⟩
  · rw [he.1] at hr
    rw [he.2 _ (by omega) (by omega), he.2 _ (by omega) (by omega), he.ent ⟨by omega, by omega⟩]
    exact h.1 r hr
  · rw [he.1] at hr; rw [h16] at q
    rw [he.2 _ (by omega) (by omega)]; exact (h.2 q).1 r hr
  · rw [h16] at q
    rw [ho q k k0 k1]; exact (h.2 q).2 k k0 k1
theorem wRn.S (h : wRn w) (hN : 0 ≤ w 0 ∧ w 0 ≤ 12) {i v : Int} (hi : i ≠ 0 ∧ i ≠ 16 ∧ (i < 79 ∨ 1663 ≤ i)) : wRn (wS w i v) := h.congr (eqR_S _ _ _ (by omega)) hN (wS_ne _ _ _ (by omega)) (fun _ k _ _ => wS_ne _ _ _ (by omega))
theorem wBz.S (h : wBz w) (hN : 0 ≤ w 0 ∧ w 0 ≤ 12) {i v : Int} (hi : i ≠ 0 ∧ i ≠ 16 ∧ i ≠ 18 ∧ (i < 199 ∨ 1663 ≤ i)) : wBz (wS w i v) := fun q => by
  rw [wS_ne _ _ _ (by omega)] at q
  rw [(eqR_S w i v (by omega)).left hN (wS_ne _ _ _ (by omega))]; exact h q
def pAl (w : Int → Int) (n : Int) (i : Nat) (W : Int → Int) : Prop := sWk (61 - i) W (i : Int) n = sWk 61 w 0 n ∧ (i : Int) ≤ W 18 ∧ W 16 = 1 ∧ 0 < sLeft W ∧ wRn W
def pEd (w : Int → Int) (n : Int) (i : Nat) (W : Int → Int) : Prop := W = sWorks w n ∧ (i : Int) = sWorksN w n ∧ W 16 = 0
theorem pAl.next {n : Int} {i : Nat} {W : Int → Int} (h : pAl w n i W) (hO : wOk W) : sNext W < 60 := by
  have h1 := sNext_le W hO.2.2.2.2.2.2.2.2.2.2.2.2.2.1
  have h2 := sNext_60 hO
  have := h.2.2.2.1
  refine Classical.byContradiction (fun q => ?_)
  have := h2.mp (by omega)
  omega
theorem pAl.exit {n : Int} {i : Nat} {W : Int → Int} (h : pAl w n i W) (hO : wOk W) (hn : n ≤ (i : Int)) : W = sWorks w n ∧ (i : Int) = sWorksN w n := by
  have hx := h.next hO
  have e : sWk 61 w 0 n = (W, (i : Int)) := by rw [← h.1]; exact sWk_end (fun q => by omega)
  unfold sWorks sWorksN
  rw [e]
  refine ⟨?_, rfl⟩
  show W = if sNext W = 60 then sEnds W else W
  rw [if_neg (by omega)]
theorem pAl.step {n : Int} {i : Nat} {W : Int → Int} (h : pAl w n i W) (hO : wOk W) (hn : (i : Int) < n) : pAl w n (i + 1) (sMerged W) ∨ pEd w n (i + 1) (sMerged W) := by
  have hx := h.next hO
  obtain ⟨h1, h2, h3, h4, h5⟩ := h
  have o18 := hO.2.2.2.2.2.2.2.2.2.2.2.2.2.1
  have hn2 := sNext_le W o18
  have hk : 0 ≤ (sNext W : Int) ∧ (sNext W : Int) < 60 := by omega
  have e : sWk (61 - i) W (i : Int) n = sWk (61 - (i + 1)) (sTakes W (sNext W : Int)) ((i + 1 : Nat) : Int) n := by
    rw [show 61 - i = (61 - (i + 1)) + 1 by omega, sWk, if_pos ⟨hn, hx⟩]; rfl
  rw [e] at h1
  have hOt : wOk (sTakes W (sNext W : Int)) := wOk_takes hO hk (sNext_hit o18 hx)
  have h16 : sTakes W (sNext W : Int) 16 = 1 := (sTakes_c (by omega) hk).trans h3
  unfold sMerged
  by_cases hl : 0 < sLeft (sTakes W (sNext W : Int))
  · rw [if_pos hl]
    exact Or.inl ⟨h1, by rw [sTakes_18b]; omega, h16, hl, wRn_takes h5 hO h3 hk⟩
  · rw [if_neg hl]
    have h60 : sNext (sTakes W (sNext W : Int)) = 60 := (sNext_60 hOt).mpr (by have := sLeft_bd (w := sTakes W (sNext W : Int)) hOt.2.1.2; omega)
    have e2 : sWk 61 w 0 n = (sTakes W (sNext W : Int), ((i + 1 : Nat) : Int)) := by rw [← h1]; exact sWk_end (fun q => by omega)
    refine Or.inr ⟨?_, ?_, sEnds_16⟩
    · unfold sWorks; rw [e2]; exact (if_pos h60).symm
    · unfold sWorksN; rw [e2]
theorem sWk_rn : ∀ (f : Nat) {W : Int → Int} {d n : Int}, wOk W → wRn W → W 16 = 1 → wOk (sWk f W d n).1 ∧ wRn (sWk f W d n).1 ∧ (sWk f W d n).1 16 = 1
  | 0, W, d, n, h1, h2, h3 => ⟨h1, h2, h3⟩
  | f + 1, W, d, n, h1, h2, h3 => by
    rw [sWk]
    by_cases q : d < n ∧ sNext W < 60
    · rw [if_pos q]
      have o18 := h1.2.2.2.2.2.2.2.2.2.2.2.2.2.1
      have hk : 0 ≤ (sNext W : Int) ∧ (sNext W : Int) < 60 := by omega
      exact sWk_rn f (wOk_takes h1 hk (sNext_hit o18 q.2)) (wRn_takes h2 h1 h3 hk) ((sTakes_c (by omega) hk).trans h3)
    · rw [if_neg q]; exact ⟨h1, h2, h3⟩
theorem wRn_works (hO : wOk w) (hr : wRn w) (hb : w 16 = 1) (n : Int) : wRn (sWorks w n) ∧ wBz (sWorks w n) := by
  obtain ⟨h1, h2, h3⟩ := sWk_rn 61 (d := 0) (n := n) hO hr hb
  unfold sWorks
  by_cases q : sNext (sWk 61 w 0 n).1 = 60
  · rw [if_pos q]; exact ⟨wRn_ends h2 h1, fun x => by rw [sEnds_16] at x; omega⟩
  · rw [if_neg q]
    refine ⟨h2, fun _ => ?_⟩
    have := sLeft_bd (w := (sWk 61 w 0 n).1) h1.2.1.2
    have h60 := sNext_60 h1
    refine Classical.byContradiction (fun x => q (h60.mpr (by omega)))
theorem wRn_paid (hO : wOk w) (hL : wLw w) (hr : wRn w) (hb : w 16 = 1) (l : Int) : wRn (sPaid w l) ∧ wBz (sPaid w l) :=
  wRn_works (wOk_paidW hO hL) (hr.S hO.2.1 (by omega)) ((wS_ne _ _ _ (by omega)).trans hb) _
end RBP

