/-! worlds that runs of calls come to -/
section INV
variable {w w' : Int → Int}
def wInv (w : Int → Int) : Prop := wGd w ∧ wRn w ∧ wBz w ∧ 0 ≤ w 11 ∧ w 11 ≤ 9999
theorem wInv.S (h : wInv w) {i v : Int} (hi : i ≠ 0 ∧ i ≠ 2 ∧ i ≠ 16 ∧ i ≠ 18 ∧ 0 ≤ i ∧ (i < 79 ∨ (1663 ≤ i ∧ i < 1903))) (hc : wCell i v) (h11 : i = 11 → 0 ≤ v ∧ v ≤ 9999) : wInv (wS w i v) := by
  obtain ⟨g1, g2, g3, g4⟩ := h
  refine ⟨g1.mv (wOk_S g1.1 _ _ hc) (wHi_S _ _ _ (by omega)), g2.S g1.1.2.1 (by omega), g3.S g1.1.2.1 (by omega), ?_⟩
  by_cases e : i = 11
  · subst e; rw [wS_at]; exact h11 rfl
  · rw [wS_ne _ _ _ (fun q => e q.symm)]; exact g4
theorem wInv_beg (h : wInv w) : wInv (sBeg w) :=
  ⟨h.1.mv (wOk_beg h.1.1) (wHi_beg h.1.1), wRn_beg h.2.1 h.1.1, wBz_beg h.2.1 h.1.1 h.2.2.1, by rw [sBeg_11 h.1.1.2.1 h.1.2.1]; exact h.2.2.2⟩
theorem wInv_paid (h : wInv w) (hb : w 16 = 1) (l : Int) : wInv (sPaid w l) :=
  ⟨h.1.mv (wOk_paid h.1.1 h.1.2.1 l) (wHi_paid h.1.1 h.1.2.1 l), (wRn_paid h.1.1 h.1.2.1 h.2.1 hb l).1, (wRn_paid h.1.1 h.1.2.1 h.2.1 hb l).2, by rw [sPaid_11 h.1.1.2.1 h.1.2.1]; exact h.2.2.2⟩
theorem wInv_can (h : wInv w) : wInv (sCan w) := by
  unfold sCan; split
  · exact wInv_beg h
  · exact h
theorem sCan_11 (h : wInv w) : sCan w 11 = w 11 := by
  unfold sCan; split
  · exact sBeg_11 h.1.1.2.1 h.1.2.1
  · rfl
theorem sCanB_16 (h : sCanB w = true) : sCan w 16 = 1 ∧ sCan w = sBeg w ∧ sCrowd w = true := by
  unfold sCanB at h
  rw [Bool.and_eq_true] at h
  have e : sCan w = sBeg w := by unfold sCan; rw [if_pos h.1]
  rw [e]
  exact ⟨of_decide_eq_true h.2, rfl, h.1⟩
theorem wInv_stp (h : wInv w) (hb : sCanB w = true) {s : Int} (hs : 0 ≤ s) : wInv (sStp w s) ∧ tabS w (sStp w s) ∧ sStp w s 11 = min 9999 (max (w 11) (s + 1)) := by
  obtain ⟨b1, b2, b3⟩ := sCanB_16 hb
  have h1 := wInv_can h
  have h2 := wInv_paid h1 b1 1
  have e11 : sPaid (sCan w) 1 11 = w 11 := (sPaid_11 h1.1.1.2.1 h1.1.2.1 1).trans (sCan_11 h)
  have h10 := h2.1.1.2.2.2.2.2.2.2.2.1 10 (by omega) (by omega)
  have hw11 := h.2.2.2
  unfold sStp
  rw [show wS (sPaid (sCan w) 1) 10 (min 9999 (sPaid (sCan w) 1 10 + 1)) 11 = w 11 from (wS_ne _ _ _ (by omega)).trans e11]
  refine ⟨(h2.S (by omega) (by unfold wCell; omega) (fun q => by omega)).S (by omega) (by unfold wCell; omega) (fun _ => by omega), ?_, wS_at _ _ _⟩
  have t1 : tabS w (sCan w) := by rw [b2]; exact tabS_beg
  exact ((t1.tr (tabS_paid h1.1.1 h1.1.2.1 1)).tr (tabS_S (by omega))).tr (tabS_S (by omega))
theorem sStl_inv : ∀ (f : Nat) {w : Int → Int} {s : Int}, wInv w → 0 ≤ s → wInv (sStl f w s).1 ∧ tabS w (sStl f w s).1 ∧ s ≤ (sStl f w s).2 ∧ ∀ x0 : Int, 0 ≤ x0 → x0 ≤ 9999 → w 11 = max x0 (min 9999 s) → (sStl f w s).1 11 = max x0 (min 9999 (sStl f w s).2)
  | 0, w, s, h, hs => ⟨h, fun _ _ _ => rfl, Int.le_refl _, fun x0 _ _ e => e⟩
  | f + 1, w, s, h, hs => by
    rw [sStl]
    by_cases hb : sCanB w = true
    · rw [if_pos hb]
      obtain ⟨g1, g2, g3⟩ := wInv_stp h hb hs
      obtain ⟨k1, k2, k3, k4⟩ := sStl_inv f g1 (show 0 ≤ s + 1 by omega)
      exact ⟨k1, g2.tr k2, by omega, fun x0 x1 x2 e => k4 x0 x1 x2 (by rw [g3, e]; omega)⟩
    · rw [if_neg hb]
      refine ⟨wInv_can h, ?_, Int.le_refl _, fun x0 _ _ e => (sCan_11 h).trans e⟩
      unfold sCan; split
      · exact tabS_beg
      · exact fun _ _ _ => rfl
theorem wBz_flush (h : wBz w) (hN : 0 ≤ w 0 ∧ w 0 < 12) : wBz (sFlush w) := fun q => by
  rw [sFl_lo hN (by omega)] at q
  rw [sFl_left hN]; exact h q
theorem wInv_flush (h : wInv w) (hN : w 0 < 12) (ht : 0 < sEnt w 19) : wInv (sFlush w) := by
  have hNn : 0 ≤ w 0 ∧ w 0 < 12 := ⟨h.1.1.2.1.1, hN⟩
  exact ⟨h.1.mv (wOk_flush h.1.1 hN) (wHi_flush h.1.1 hN), wRn_flush h.2.1 hNn ht, wBz_flush h.2.2.1 hNn, by rw [sFl_lo hNn (by omega)]; exact h.2.2.2⟩
theorem sCrowd_f (h : sCrowd w = false) (hN : w 0 ≤ 12) : w 0 < 12 ∧ sMany w 0 < w 4 + 2 := by
  have := of_decide_eq_false h
  omega
theorem wInv_room (h : wInv w) (h4 : 2 ≤ w 5) : wInv (sRoom w).1 := by
  unfold sRoom
  split
  · rename_i hs
    obtain ⟨k1, k2, k3, k4⟩ := sStl_inv sFu h (Int.le_refl 0)
    show wInv (if sCrowd (sStl sFu w 0).1 = true then (sStl sFu w 0).1 else sFlush (sStl sFu w 0).1)
    split
    · exact k1
    · rename_i hc
      exact wInv_flush k1 (sCrowd_f (Bool.eq_false_iff.mpr hc) k1.1.1.2.1.2).1 (by rw [k2.ent]; omega)
  · exact h
theorem wInv_tail (h : wInv w) : wInv (sTail w) := by
  unfold sTail
  have h1 := wInv_beg h
  split
  · rename_i hb; exact wInv_paid h1 hb 0
  · exact h1
theorem wInv_W1 (h : wInv w) {key v : Int} (hk : 0 ≤ key ∧ key < 60) (hv : 0 ≤ v ∧ v ≤ 100) : wInv (sW1 w key v) := by
  have h9 := h.1.1.2.2.2.2.2.2.2.2.1 9 (by omega) (by omega)
  exact (h.S (i := 9) (by omega) (by unfold wCell; omega) (fun q => by omega)).S (by omega) (by unfold wCell; omega) (fun q => by omega)
theorem wInv_write (h : wInv w) {key v : Int} (hk : 0 ≤ key ∧ key < 60) (hv : 0 ≤ v ∧ v ≤ 100) : wInv (sWrite w key v) := by
  have h1 := wInv_W1 h hk hv
  exact wInv_tail (wInv_room h1 h1.1.1.2.2.2.2.2.2.1.1)
theorem wInv_seed (h : wInv w) : wInv (sSeed w) := h.S (by omega) (by have := xw_r (1103515245 * w 15 + 12345); unfold wCell; omega) (fun q => by omega)
theorem wInv_tkW (h : wInv w) : wInv (sTkW w) := by
  unfold sTkW
  split
  · exact wInv_seed (wInv_seed h)
  · exact wInv_seed (wInv_seed (wInv_seed h))
theorem wInv_tick (h : wInv w) : wInv (sTick w) := by
  have hv : 0 ≤ sTkV w ∧ sTkV w ≤ 100 := by
    unfold sTkV
    have := sDraw_bd (sSeed (sSeed w)) (x := 100) (by omega)
    split <;> omega
  have h1 := wInv_write (wInv_tkW h) (sDraw_bd w (x := 60) (by omega)) hv
  have h13 := h1.1.1.2.2.2.2.2.2.2.2.2.1
  unfold sTick
  exact h1.S (by omega) (by unfold wCell; omega) (fun q => by omega)
theorem wInv_go (h : wInv w) : ∀ k : Nat, wInv (sGo k w).1
  | 0 => h
  | k + 1 => by rw [sGo]; exact wInv_tick (wInv_go h k)
end INV

