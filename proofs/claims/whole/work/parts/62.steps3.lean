section RBU
variable {T : Nat → Nat × Int} {F F' : Nat → Nat → Int} {I I' : Nat → Int → Int} {P P' : Nat → Nat → Option Nat} {Y Y' : Nat → Int → Option Nat} {a : Nat} {π : Nat → Nat} {w w' : Int → Int}
theorem wE_id (h : ∀ k : Int, 0 ≤ k → k < 60 → w (79 + k) = -1) : wE w 79 60 = w := by
  funext j
  unfold wE
  by_cases hj : 79 ≤ j ∧ j < 79 + 60
  · rw [if_pos hj]
    have := h (j - 79) (by omega) (by omega)
    rw [show 79 + (j - 79) = j by omega] at this
    exact this.symm
  · rw [if_neg hj]
def fJob (F : Nat → Nat → Int) (j : Nat) (x y v m : Int) : Nat → Nat → Int := upF (upF (upF (upF F j 0 x) j 1 y) j 2 v) j 3 m
theorem fJob_na {j b : Nat} {x y v m : Int} (h : b ≠ j) : fJob F j x y v m b = F b := by unfold fJob; rw [upF_na _ _ _ _ h, upF_na _ _ _ _ h, upF_na _ _ _ _ h, upF_na _ _ _ _ h]
theorem fJob_at {j : Nat} {x y v m : Int} : fJob F j x y v m j 0 = x ∧ fJob F j x y v m j 1 = y ∧ fJob F j x y v m j 2 = v ∧ fJob F j x y v m j 3 = m := by
  unfold fJob
  refine ⟨?_, ?_, ?_, ?_⟩ <;> simp [upF]
theorem RB.jset {g m : Int} (h : RB T F I P Y a π w) (hN : w 0 ≤ 12) (h14 : w 14 ≤ 60) : RB T (fJob F (a + 44) 1 g 0 m) I P Y a π (wS (wS (wS w 16 1) 17 g) 18 0) := by
  have h2 := h.2.1
  have hw : ∀ j : Int, j ≠ 16 → j ≠ 17 → j ≠ 18 → wS (wS (wS w 16 1) 17 g) 18 0 j = w j := fun j h1 h2 h3 => by rw [wS_ne _ _ _ h3, wS_ne _ _ _ h2, wS_ne _ _ _ h1]
  have e16 : wS (wS (wS w 16 1) 17 g) 18 0 16 = 1 := by rw [wS_ne _ _ _ (by omega), wS_ne _ _ _ (by omega), wS_at]
  have e17 : wS (wS (wS w 16 1) 17 g) 18 0 17 = g := by rw [wS_ne _ _ _ (by omega), wS_at]
  exact h.mv (fun b _ _ => fJob_na (by omega)) (fun _ _ _ => rfl) (hw _ (by omega) (by omega) (by omega)) (fun j _ _ => hw _ (by omega) (by omega) (by omega)) hN
    ⟨h2.1.mv (fJob_na (by omega)) (fun j _ _ _ => hw _ (by omega) (by omega) (by omega)), h2.2.1.mv (fJob_na (by omega)) (fun j _ _ => hw _ (by omega) (by omega) (by omega)), by rw [fJob_at.1, e16], by rw [fJob_at.2.1]; unfold sGoal; rw [e16, if_pos rfl, e17], by rw [fJob_at.2.2.1, e16, if_pos rfl, wS_at]⟩
    ((h.2.2.2.2.2.heap (fJob_na (by omega)) (fun _ _ => rfl)).congr (hw _ (by omega) (by omega) (by omega)) (fun j _ _ => hw _ (by omega) (by omega) (by omega)) h14)
theorem pSum_ge {f : Int → Int} {k : Nat} : ∀ {n : Nat}, (∀ j : Nat, j < n → 0 ≤ f j) → k < n → f k ≤ pSum f n
  | 0, _, hk => absurd hk (Nat.not_lt_zero _)
  | n + 1, h, hk => by
    rw [pSum_s]
    have h0 : 0 ≤ pSum f n := by
      have := pSum_le (f := f) (k := 0) (m := n) (Nat.zero_le _) (fun j hj => h j (by omega))
      exact this
    by_cases q : k = n
    · subst q; omega
    · have h1 := pSum_ge (k := k) (n := n) (fun j hj => h j (by omega)) (by omega)
      have h2 := h n (by omega)
      omega
theorem sBegS_bit (hN : w 0 ≤ 12) {l r : Nat} (hr : r < wN w) : (sBegS w (l : Int)).testBit r = decide (w (199 + 122 * (r : Int)) = (l : Int) ∨ ((w 3 = 1 ∧ (l : Int) < 3) ∧ w (199 + 122 * (r : Int)) = (l : Int) + 1)) := by
  unfold sBegS
  rw [Nat.testBit_or]
  have h1 : ∀ x : Int, (sRuns w x).testBit r = decide (w (199 + 122 * (r : Int)) = x) := fun x => by unfold sRuns; rw [nSet_bit]; simp [hr]
  rw [h1]
  by_cases hc : w 3 = 1 ∧ (l : Int) < 3
  · rw [if_pos hc, h1]
    simp [hc]
  · rw [if_neg hc, Nat.zero_testBit]
    simp [hc]
theorem wInS_in {s : Nat} {n : Int} {r : Nat} (h : (r : Int) < n) : wInS w s n (200 + 122 * (r : Int)) = bI (s.testBit r) := by
  unfold wInS
  rw [if_pos (by omega), show ((200 + 122 * (r : Int) - 200) / 122).toNat = r by omega]
theorem wInS_ne {s : Nat} {n j : Int} (h : ∀ r : Nat, (r : Int) < n → j ≠ 200 + 122 * (r : Int)) : wInS w s n j = w j := by
  refine if_neg (fun q => ?_)
  exact h ((j - 200) / 122).toNat (by omega) (by omega)
def wBz (w : Int → Int) : Prop := w 16 = 1 → 0 < sLeft w
theorem sBeg1_c {l : Int} {j : Int} (hj : j < 1663) (h : j < 16 ∨ (18 < j ∧ j < 79) ∨ 139 ≤ j) (h14 : j ≠ 14) (hi : ∀ r : Nat, (r : Int) < w 0 → j ≠ 200 + 122 * (r : Int)) : sBeg1 w l j = w j := by
  unfold sBeg1
  rw [sTold_lo _ _ _ _ hj h14]
  unfold sBegW
  rw [wS_ne _ _ _ (by omega), wS_ne _ _ _ (by omega), wS_ne _ _ _ (by omega)]
  exact (if_neg (by omega)).trans (wInS_ne hi)
theorem sBeg1_16 {l : Int} : sBeg1 w l 16 = 1 := by
  unfold sBeg1
  rw [sTold_lo _ _ _ _ (by omega) (by omega)]
  unfold sBegW
  rw [wS_ne _ _ _ (by omega), wS_ne _ _ _ (by omega), wS_at]
theorem sBeg1_18 {l : Int} : sBeg1 w l 18 = 0 := by
  unfold sBeg1
  rw [sTold_lo _ _ _ _ (by omega) (by omega)]
  unfold sBegW
  rw [wS_at]
theorem sBeg1_i {l : Int} {r : Nat} (hr : (r : Int) < w 0) (hN : w 0 ≤ 12) : sBeg1 w l (200 + 122 * (r : Int)) = bI ((sBegS w l).testBit r) := by
  unfold sBeg1
  rw [sTold_lo _ _ _ _ (by omega) (by omega)]
  unfold sBegW
  rw [wS_ne _ _ _ (by omega), wS_ne _ _ _ (by omega), wS_ne _ _ _ (by omega)]
  exact (if_neg (by omega)).trans (wInS_in hr)
theorem sBeg1_ent {l : Int} {r : Nat} (hr : (r : Int) < w 0) (hN : w 0 ≤ 12) : sEnt (sBeg1 w l) (201 + 122 * (r : Int)) = sEnt w (201 + 122 * (r : Int)) := by
  rw [sEnt_p, sEnt_p]
  exact pCnt_congr (fun k _ _ => sBeg1_c (by omega) (by omega) (by omega) (fun r2 _ => by omega))
theorem wRn_beg (h : wRn w) (hO : wOk w) : wRn (sBeg w) := by
  have hN := hO.2.1.2
  unfold sBeg
  split
  · exact h
  split
  · exact h
  have e0 : sBeg1 w (sDM w 4) 0 = w 0 := sBeg1_c (by omega) (by omega) (by omega) (fun _ _ => by omega)
  refine ⟨fun r hr => ?_, fun q => by rw [sBeg1_16] at q; omega⟩
  rw [e0] at hr
  have e1 : sBeg1 w (sDM w 4) (199 + 122 * (r : Int)) = w (199 + 122 * (r : Int)) := sBeg1_c (by omega) (by omega) (by omega) (fun _ _ => by omega)
  refine ⟨by rw [e1]; exact (h.1 r hr).1, by rw [sBeg1_i hr hN]; exact bI_01 _, by rw [sBeg1_ent hr hN]; exact (h.1 r hr).2.2⟩
theorem sLeftR_at0 (h18 : w 18 = 0) (r : Int) : sLeftR w r 60 = sEnt w (201 + 122 * r) := by
  unfold sLeftR sEnt
  exact pSum_congr (fun k _ => if_neg (by omega))
theorem sBeg_left {l : Nat} (hO : wOk w) : sLeft (sBeg1 w (l : Int)) = pSum (fun r => if (sBegS w (l : Int)).testBit r.toNat = true then sEnt w (201 + 122 * r) else 0) (wN w) := by
  have hN := hO.2.1
  have e0 : sBeg1 w (l : Int) 0 = w 0 := sBeg1_c (by omega) (by omega) (by omega) (fun _ _ => by omega)
  have en : wN (sBeg1 w (l : Int)) = wN w := by unfold wN; rw [e0]
  have hw := wN_i hN.1
  unfold sLeft
  rw [en]
  refine pSum_congr (fun r hr => ?_)
  rw [sBeg1_i (by omega) hN.2, sLeftR_at0 sBeg1_18, sBeg1_ent (by omega) hN.2, Int.toNat_natCast]
  cases (sBegS w (l : Int)).testBit r <;> simp [bI]
theorem sDueB_run {l : Nat} (hl : l < 4) (hO : wOk w) (h : sDueB w (l : Int) = true) : ∃ r : Nat, r < wN w ∧ w (199 + 122 * (r : Int)) = (l : Int) := by
  refine Classical.byContradiction (fun hc => ?_)
  have hno : ∀ r : Nat, r < wN w → w (199 + 122 * (r : Int)) ≠ (l : Int) := fun r h1 h2 => hc ⟨r, h1, h2⟩
  have h0 : ∀ (f : Int → Int) (n : Nat), n ≤ wN w → pSum (fun r => if w (199 + 122 * r) = (l : Int) then f r else 0) n = 0 := by
    intro f n
    induction n with
    | zero => intro _; rfl
    | succ n ih => intro hn; rw [pSum_s, ih (by omega), if_neg (hno n (by omega))]; rfl
  have h1 : sMany w (l : Int) = 0 := h0 (fun _ => 1) _ (Nat.le_refl _)
  have h2 : sEntIn w (sRuns w (l : Int)) = 0 := by rw [sEntIn_en]; exact h0 _ _ (Nat.le_refl _)
  have h3 := (sDueB_k hl).mp h
  obtain ⟨-, o0, o1, o2, o3, o4, o5, -⟩ := hO
  have h4 := sRk_bd o4 o5 (k := l) (by omega)
  omega
theorem sDM_due : ∀ k : Nat, sDM w k ≠ -1 → sDueB w (sDM w k) = true
  | 0, h => absurd rfl h
  | k + 1, h => by
    rw [sDM] at h ⊢
    by_cases q : sDueB w (k : Int) = true ∧ (sDM w k = -1 ∨ sWorth w (sDM w k) < sWorth w (k : Int))
    · rw [if_pos q]; exact q.1
    · rw [if_neg q] at h ⊢; exact sDM_due k h
theorem wBz_beg (hr : wRn w) (hO : wOk w) (hz : wBz w) : wBz (sBeg w) := by
  have hb := sDM_bd w 4
  have hN := hO.2.1
  have hw := wN_i hN.1
  unfold sBeg
  split
  · exact hz
  split
  · exact hz
  rename_i h1 h2
  intro _
  obtain ⟨l, hl⟩ : ∃ l : Nat, (l : Int) = sDM w 4 := ⟨(sDM w 4).toNat, by omega⟩
  rw [← hl, sBeg_left hO]
  have hd := sDM_due 4 h2
  rw [← hl] at hd
  obtain ⟨r, r1, r2⟩ := sDueB_run (by omega) hO hd
  have hp := (hr.1 r (by omega)).2.2
  have := pSum_ge (f := fun r => if (sBegS w (l : Int)).testBit r.toNat = true then sEnt w (201 + 122 * r) else 0) (k := r) (n := wN w) (fun j _ => by have := sEnt_bd w (201 + 122 * (j : Int)); split <;> omega) r1
  rw [if_pos (by rw [Int.toNat_natCast, sBegS_bit hN.2 r1]; exact decide_eq_true (Or.inl r2))] at this
  omega
end RBU

