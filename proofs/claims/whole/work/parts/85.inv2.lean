def wI2 (w : Int → Int) : Prop := wInv w ∧ wJb w
section I2
variable {w w' : Int → Int}
theorem wJb.S (h : wJb w) (hN : 0 ≤ w 0 ∧ w 0 ≤ 12) {i v : Int} (hi : i ≠ 0 ∧ i ≠ 16 ∧ i ≠ 17 ∧ (i < 199 ∨ 1663 ≤ i)) : wJb (wS w i v) := fun q => by
  rw [wS_ne _ _ _ (by omega)] at q
  rw [wS_ne _ _ _ (by omega), (eqR_mS (eqR_S w i v (by omega)) hN).2]; exact h q
theorem wI2.S (h : wI2 w) {i v : Int} (hi : i ≠ 0 ∧ i ≠ 2 ∧ i ≠ 16 ∧ i ≠ 17 ∧ i ≠ 18 ∧ 0 ≤ i ∧ (i < 79 ∨ (1663 ≤ i ∧ i < 1903))) (hc : wCell i v) (h11 : i = 11 → 0 ≤ v ∧ v ≤ 9999) : wI2 (wS w i v) := ⟨h.1.S (by omega) hc h11, h.2.S h.1.1.1.2.1 (by omega)⟩
theorem wI2_beg (h : wI2 w) : wI2 (sBeg w) := ⟨wInv_beg h.1, wJb_beg h.1.1.1 h.1.2.1 h.2⟩
theorem wI2_paid (h : wI2 w) (hb : w 16 = 1) (l : Int) : wI2 (sPaid w l) := by
  refine ⟨wInv_paid h.1 hb l, ?_⟩
  have hO := h.1.1.1
  have hOu := wOk_paidW hO h.1.1.2.1
  have hru : wRn (sPaidW w) := h.1.2.1.S hO.2.1 (by omega)
  have hbu : sPaidW w 16 = 1 := (wS_ne _ _ _ (by omega)).trans hb
  have hju : wJb (sPaidW w) := h.2.S hO.2.1 (by omega)
  obtain ⟨g1, g2, g3⟩ := sWk_lft 61 (d := 0) (n := sPaidN w l) hOu hru hbu
  unfold sPaid sWorks
  by_cases q : sNext (sWk 61 (sPaidW w) 0 (sPaidN w l)).1 = 60
  · rw [if_pos q]; exact fun x => by rw [sEnds_16] at x; omega
  · rw [if_neg q]; exact g3 hju
theorem sStl_i2 : ∀ (f : Nat) {w : Int → Int} {s : Int}, wI2 w → 0 ≤ s → wI2 (sStl f w s).1
  | 0, w, s, h, hs => h
  | f + 1, w, s, h, hs => by
    rw [sStl]
    by_cases hb : sCanB w = true
    · rw [if_pos hb]
      exact sStl_i2 f ⟨(wInv_stp h.1 hb hs).1, (pPot_stp (s := s) h.1 h.2 hb).2⟩ (by omega)
    · rw [if_neg hb]
      show wI2 (sCan w)
      unfold sCan; split
      · exact wI2_beg h
      · exact h
theorem jS_flush (hN : 0 ≤ w 0 ∧ w 0 < 12) : jS (sFlush w) = jS w := by
  have hw := wN_i hN.1
  have e : wN (sFlush w) = wN w + 1 := by rw [show wN (sFlush w) = (sFlush w 0).toNat from rfl, sFl_0 hN]; omega
  unfold jS
  rw [e, pSum_front, if_neg (by rw [sFl_c hN ⟨by omega, by omega, by omega⟩, if_neg (by omega), if_pos (by omega)]; omega), Int.zero_add]
  refine pSum_congr (fun r hr => ?_)
  have e1 : sFlush w (200 + 122 * ((r : Int) + 1)) = w (200 + 122 * (r : Int)) := by rw [sFl_row hN (show (r : Int) < w 0 by omega) (by omega)]; exact congrArg w (by omega)
  have e2 : sFlush w (199 + 122 * ((r : Int) + 1)) = w (199 + 122 * (r : Int)) := by rw [sFl_row hN (show (r : Int) < w 0 by omega) (by omega)]; exact congrArg w (by omega)
  rw [e1, e2]
theorem wI2_flush (h : wI2 w) (hN : w 0 < 12) (ht : 0 < sEnt w 19) : wI2 (sFlush w) := by
  have hNn : 0 ≤ w 0 ∧ w 0 < 12 := ⟨h.1.1.1.2.1.1, hN⟩
  refine ⟨wInv_flush h.1 hN ht, fun q => ?_⟩
  rw [sFl_lo hNn (by omega)] at q
  rw [sFl_lo hNn (by omega), jS_flush hNn]; exact h.2 q
theorem wI2_room (h : wI2 w) (h4 : 2 ≤ w 5) : wI2 (sRoom w).1 := by
  unfold sRoom
  split
  · rename_i hs
    obtain ⟨k1, k2, k3, k4⟩ := sStl_inv sFu h.1 (Int.le_refl 0)
    have k5 := sStl_i2 sFu h (Int.le_refl 0)
    show wI2 (if sCrowd (sStl sFu w 0).1 = true then (sStl sFu w 0).1 else sFlush (sStl sFu w 0).1)
    split
    · exact k5
    · rename_i hc
      exact wI2_flush k5 (sCrowd_f (Bool.eq_false_iff.mpr hc) k1.1.1.2.1.2).1 (by rw [k2.ent]; omega)
  · exact h
theorem wI2_tail (h : wI2 w) : wI2 (sTail w) := by
  unfold sTail
  have h1 := wI2_beg h
  split
  · rename_i hb; exact wI2_paid h1 hb 0
  · exact h1
theorem wI2_W1 (h : wI2 w) {key v : Int} (hk : 0 ≤ key ∧ key < 60) (hv : 0 ≤ v ∧ v ≤ 100) : wI2 (sW1 w key v) := by
  have h9 := h.1.1.1.2.2.2.2.2.2.2.2.1 9 (by omega) (by omega)
  exact (h.S (i := 9) (by omega) (by unfold wCell; omega) (fun q => by omega)).S (by omega) (by unfold wCell; omega) (fun q => by omega)
theorem wI2_write (h : wI2 w) {key v : Int} (hk : 0 ≤ key ∧ key < 60) (hv : 0 ≤ v ∧ v ≤ 100) : wI2 (sWrite w key v) := by
  have h1 := wI2_W1 h hk hv
  exact wI2_tail (wI2_room h1 h1.1.1.1.2.2.2.2.2.2.1.1)
theorem wI2_seed (h : wI2 w) : wI2 (sSeed w) := h.S (by omega) (by have := xw_r (1103515245 * w 15 + 12345); unfold wCell; omega) (fun q => by omega)
theorem wI2_tkW (h : wI2 w) : wI2 (sTkW w) := by
  unfold sTkW
  split
  · exact wI2_seed (wI2_seed h)
  · exact wI2_seed (wI2_seed (wI2_seed h))
theorem wI2_tick (h : wI2 w) : wI2 (sTick w) := by
  have h1 := wI2_write (wI2_tkW h) (sDraw_bd w (x := 60) (by omega)) (sTkV_bd w)
  have h13 := h1.1.1.1.2.2.2.2.2.2.2.2.2.1
  unfold sTick
  exact h1.S (by omega) (by unfold wCell; omega) (fun q => by omega)
theorem wI2_go (h : wI2 w) : ∀ k : Nat, wI2 (sGo k w).1
  | 0 => h
  | k + 1 => by rw [sGo]; exact wI2_tick (wI2_go h k)
theorem wI2_halt (h : wI2 w) : wI2 (sHalt w) := ⟨wInv_halt h.1, fun q => by rw [sHalt_16 h.1.1.1.2.2.2.2.2.2.2.2.2.2.2.1] at q; omega⟩
theorem sStop_write (h : wI2 w) {key v : Int} (hk : 0 ≤ key ∧ key < 60) (hv : 0 ≤ v ∧ v ≤ 100) : sStop sFu (sW1 w key v) 0 := by
  have h1 := wI2_W1 h hk hv
  exact sStop_all h1.1 h1.2
theorem sTickS_all (h : wI2 w) : sTickS w := sStop_write (wI2_tkW h) (sDraw_bd w (x := 60) (by omega)) (sTkV_bd w)
theorem sGoS_all (h : wI2 w) (n : Nat) : sGoS w n := fun k _ => sTickS_all (wI2_go h k)
theorem wI2_add {ks vs : Int → Int} {n : Nat} {lv : Int} (h : wI2 w) (hN : w 0 < 12) (hl : 0 ≤ lv ∧ lv ≤ 3) (hk : ∀ i : Nat, 0 ≤ ks (i : Int) ∧ ks (i : Int) < 60) (hv : ∀ i : Nat, 0 ≤ vs (i : Int) ∧ vs (i : Int) ≤ 100) (hn : 0 < n) : wI2 (sAdd w lv ks vs n) := by
  obtain ⟨h1, h2, h3⟩ := wInv_add h.1 hN hl hk hv hn
  have h0 := h.1.1.1.2.1.1
  refine ⟨h1, fun q => ?_⟩
  rw [h3 16 (by omega) (by omega), sHalt_16 h.1.1.1.2.2.2.2.2.2.2.2.2.2.2.1] at q; omega
end I2

