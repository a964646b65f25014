section RBT
variable {T : Nat → Nat × Int} {F F' : Nat → Nat → Int} {I I' : Nat → Int → Int} {P P' : Nat → Nat → Option Nat} {Y Y' : Nat → Int → Option Nat} {a : Nat} {π : Nat → Nat} {w w' : Int → Int}
theorem pCnt_neg {u : Int → Int} (h : ∀ k : Int, 0 ≤ k → k < 60 → u k = -1) : pCnt u = 0 := by
  rw [pCnt_congr (v := fun _ => -1) h]
  rfl
def fWipe (F : Nat → Nat → Int) (b : Nat) : Nat → Nat → Int := upF (upF (upF F b 2 0) b 3 0) b 4 0
theorem fWipe_na {b x : Nat} (h : x ≠ b) : fWipe F b x = F x := by unfold fWipe; rw [upF_na _ _ _ _ h, upF_na _ _ _ _ h, upF_na _ _ _ _ h]
theorem fWipe_at {b : Nat} : fWipe F b b 2 = 0 ∧ fWipe F b b 3 = 0 ∧ fWipe F b b 4 = 0 := by
  unfold fWipe
  refine ⟨?_, ?_, upF_at _ _ _ _⟩
  · rw [upF_nk _ _ _ _ (by omega), upF_nk _ _ _ _ (by omega), upF_at]
  · rw [upF_nk _ _ _ _ (by omega), upF_at]
theorem iWipe_na {b x : Nat} {n : Int} (h : x ≠ b + 1 ∧ x ≠ b + 2) : iWipe I b n x = I x := by unfold iWipe; rw [upA_na _ _ _ h.2, upA_na _ _ _ h.1]
theorem iWipe_at {b : Nat} : (∀ k : Int, 0 ≤ k → k < 60 → iWipe I b 60 (b + 1) k = -1) ∧ ∀ k : Int, 0 ≤ k → k < 60 → iWipe I b 60 (b + 2) k = 0 := by
  unfold iWipe
  refine ⟨fun k h0 h1 => ?_, fun k h0 h1 => ?_⟩
  · rw [upA_na _ _ _ (by omega), upA_at]; exact if_pos ⟨h0, h1⟩
  · rw [upA_at]; exact if_pos ⟨h0, h1⟩
theorem rG.wiped {b : Nat} {u g : Int → Int} (hu : ∀ k : Int, 0 ≤ k → k < 60 → u k = -1) : rG (fWipe F b) (iWipe I b 60) b u g :=
  ⟨by rw [fWipe_at.1, pCnt_neg hu], fun k h0 h1 => ⟨by rw [iWipe_at.1 k h0 h1, hu k h0 h1], fun q => absurd (hu k h0 h1) q⟩⟩
theorem RB.wipeO {b : Nat} (h : RB T F I P Y a π w) (hb : P a 3 = some b) (hN : w 0 ≤ 12) (h14 : w 14 ≤ 60) : RB T (fWipe F b) (iWipe I b 60) P Y a π (wE w 79 60) := by
  obtain ⟨⟨g1, g2⟩, ⟨s2, s3, s4⟩, gr, gt, go, gj⟩ := h
  have p3 := g2.2.2.1
  rw [p3] at hb; cases hb
  have q := g2.2.2.2.1 13 (by omega)
  have hw : ∀ j : Int, (j < 79 ∨ 139 ≤ j) → wE w 79 60 j = w j := fun j hj => if_neg (by omega)
  refine ⟨⟨g1, g2⟩, ⟨s2.mv (fWipe_na (by omega)) (fun j _ _ _ => hw _ (by omega)), s3.mv (fWipe_na (by omega)) (fun j _ _ => hw _ (by omega)), s4.mv (by rw [fWipe_na (by omega)]) (by rw [fWipe_na (by omega)]) (by rw [fWipe_na (by omega)]) (hw _ (by omega)) (hw _ (by omega)) (hw _ (by omega))⟩, fun k hk => ?_, ?_, ⟨fWipe_at.2.2, rG.wiped (fun k _ _ => if_pos (by omega))⟩, (gj.heap (fWipe_na (by omega)) (fun _ _ => iWipe_na (by omega))).congr (hw _ (by omega)) (fun j _ _ => hw _ (by omega)) h14⟩
  · rw [hw 0 (by omega)] at hk
    have := g2.ne (i := k) (j := 13) (by omega) (by omega) (by omega)
    exact ((gr k hk).heap (fWipe_na (by omega)) (iWipe_na (by omega)) (iWipe_na (by omega))).congr (fun j _ _ => hw _ (by omega))
  · have := g2.ne (i := 12) (j := 13) (by omega) (by omega) (by omega)
    exact (gt.heap (fWipe_na (by omega)) (iWipe_na (by omega)) (iWipe_na (by omega))).congr (fun j _ _ => hw _ (by omega))
def fClr (F : Nat → Nat → Int) (j : Nat) : Nat → Nat → Int := upF (upF (upF (upF F j 0 0) j 1 0) j 2 0) j 3 0
theorem fClr_na {j x : Nat} (h : x ≠ j) : fClr F j x = F x := by unfold fClr; rw [upF_na _ _ _ _ h, upF_na _ _ _ _ h, upF_na _ _ _ _ h, upF_na _ _ _ _ h]
theorem fClr_at {j k : Nat} (h : k < 4) : fClr F j j k = 0 := by
  unfold fClr
  rcases (show k = 0 ∨ k = 1 ∨ k = 2 ∨ k = 3 by omega) with rfl | rfl | rfl | rfl <;> simp [upF]
theorem RB.clr (h : RB T F I P Y a π w) (hN : w 0 ≤ 12) (h14 : w 14 ≤ 60) : RB T (fClr F (a + 44)) I P Y a π (wS w 16 0) := by
  have h2 := h.2.1
  have hw : ∀ j : Int, j ≠ 16 → wS w 16 0 j = w j := fun j hj => wS_ne _ _ _ hj
  exact h.mv (fun b _ _ => fClr_na (by omega)) (fun _ _ _ => rfl) (hw _ (by omega)) (fun j _ _ => hw _ (by omega)) hN
    ⟨h2.1.mv (fClr_na (by omega)) (fun j _ _ _ => hw _ (by omega)), h2.2.1.mv (fClr_na (by omega)) (fun j _ _ => hw _ (by omega)), by rw [fClr_at (by omega), wS_at], by rw [fClr_at (by omega)]; unfold sGoal; rw [wS_at, if_neg (by omega)], by rw [fClr_at (by omega), wS_at, if_neg (by omega)]⟩
    ((h.2.2.2.2.2.heap (fClr_na (by omega)) (fun _ _ => rfl)).congr (hw _ (by omega)) (fun j _ _ => hw _ (by omega)) h14)
theorem SF.of (hF : ∀ b : Nat, b < a ∨ a + 57 ≤ b → F' b = F b) (hI : ∀ b : Nat, b < a ∨ a + 57 ≤ b → (∀ l, P a 16 = some l → b ≠ l + 5) → I' b = I b) : SF a F I P Y F' I' P Y := ⟨fun b hb => ⟨hF b hb, rfl, rfl, hI b hb⟩, fun _ _ _ => rfl⟩
theorem rLw.sf (h : rLw T F I P a w) (hs : SF a F I P Y F' I' P' Y') (hh : wHi w w') : rLw T F' I' P' a w' := by
  have e16 := hs.2 16 (by omega) (by omega)
  have h1 : rLw T F I P' a w := by
    rcases h with ⟨h1, h2⟩ | ⟨l, h1, h2, h3⟩
    · exact Or.inl ⟨e16.trans h1, h2⟩
    · refine Or.inr ⟨l, e16.trans h1, ?_, h3⟩
      have ep : P' l = P l := (hs.1 l (by omega)).2.1
      unfold rLaw at h2 ⊢
      rw [ep]; exact h2
  exact h1.mv (fun b hb => (hs.1 b hb).1) (fun b hb hl => (hs.1 b hb).2.2.2 (fun l h5 => hl l (e16.trans h5))) hh
def iRec (I : Nat → Int → Int) (a : Nat) (w : Int → Int) : Nat → Int → Int := iL I (a + 45) (gP (I (a + 45 + 1)) (pRun w (wN w))) (gP (I (a + 45 + 2)) (pMny w (wN w))) (gP (I (a + 45 + 3)) (pEn w (wN w))) (gP (I (a + 45 + 4)) (pFr w (wN w)))
noncomputable def fRec (F : Nat → Nat → Int) (a : Nat) (w : Int → Int) : Nat → Nat → Int := fL F (a + 45) (sDueN w : Nat) (sOwed w)
theorem RB.rec (h : RB T F I P Y a π w) (hN : w 0 ≤ 12) : RB T (fRec F a w) (iRec I a w) P Y a π w := by
  have h2 := h.2.1
  exact h.mv (fun b _ _ => fL_na _ _ _ _ (by omega)) (fun b _ _ => iL_na _ _ _ _ _ _ (by omega)) rfl (fun _ _ _ => rfl) hN
    ⟨h2.1.mv (fL_na _ _ _ _ (by omega)) (fun j _ _ _ => rfl), h2.2.1.mv (fL_na _ _ _ _ (by omega)) (fun j _ _ => rfl), h2.2.2.mv (by unfold fRec; rw [fL_na _ _ _ _ (by omega)]) (by unfold fRec; rw [fL_na _ _ _ _ (by omega)]) (by unfold fRec; rw [fL_na _ _ _ _ (by omega)]) rfl rfl rfl⟩
    (h.2.2.2.2.2.heap (fL_na _ _ _ _ (by omega)) (fun _ _ => iL_na _ _ _ _ _ _ (by omega)))
theorem SF.rec : SF a F I P Y (fRec F a w) (iRec I a w) P Y := SF.of (fun b hb => fL_na _ _ _ _ (by omega)) (fun b hb _ => iL_na _ _ _ _ _ _ (by omega))
theorem SR.rec (hg : wGd w) (hl : rLw T F I P a w) (hB : RB T F I P Y a π w) (hj : F (a + 44) 3 = sLeft w) : SR T (fRec F a w) (iRec I a w) P Y a w :=
  ⟨hg, hl.sf (SF.rec (Y := Y)) wHi.rf, ⟨π, hB.rec hg.1.2.1.2⟩, rLv_rec, by unfold fRec; rw [fL_na _ _ _ _ (by omega)]; exact hj⟩
theorem sLeft_0 (h : ∀ r : Nat, (r : Int) < w 0 → w (200 + 122 * (r : Int)) ≠ 1) (hN : 0 ≤ w 0) : sLeft w = 0 := by
  have hw := wN_i hN
  have : ∀ n : Nat, n ≤ wN w → pSum (fun r => if w (200 + 122 * r) = 1 then sLeftR w r 60 else 0) n = 0 := by
    intro n
    induction n with
    | zero => intro _; rfl
    | succ n ih => intro hn; rw [pSum_s, ih (by omega), if_neg (h n (by omega))]; rfl
  exact this _ (Nat.le_refl _)
theorem sNoMore_c {j : Int} (h : j < 79 ∨ 139 ≤ j) (h16 : j ≠ 16) (hi : ∀ r : Nat, (r : Int) < w 0 → j ≠ 200 + 122 * (r : Int)) : sNoMore w j = w j := by
  unfold sNoMore
  rw [wS_ne _ _ _ h16, show wE (wI0 w (w 0)) 79 60 j = wI0 w (w 0) j from if_neg (by omega)]
  refine if_neg (fun q => ?_)
  exact hi ((j - 200) / 122).toNat (by omega) (by omega)
theorem sNoMore_i {r : Nat} (h : (r : Int) < w 0) : sNoMore w (200 + 122 * (r : Int)) = 0 := by
  unfold sNoMore
  rw [wS_ne _ _ _ (by omega), show wE (wI0 w (w 0)) 79 60 (200 + 122 * (r : Int)) = wI0 w (w 0) (200 + 122 * (r : Int)) from if_neg (by omega)]
  exact if_pos (by omega)
theorem sNoMore_o {k : Int} (h : 0 ≤ k ∧ k < 60) : sNoMore w (79 + k) = -1 := by
  unfold sNoMore
  rw [wS_ne _ _ _ (by omega)]
  exact if_pos (by omega)
theorem wRn_nomore (h : ∀ r : Nat, (r : Int) < w 0 → (0 ≤ w (199 + 122 * (r : Int)) ∧ w (199 + 122 * (r : Int)) ≤ 3) ∧ 0 < sEnt w (201 + 122 * (r : Int))) : wRn (sNoMore w) := by
  have e0 : sNoMore w 0 = w 0 := sNoMore_c (by omega) (by omega) (fun r _ => by omega)
  refine ⟨fun r hr => ?_, fun _ => ⟨fun r hr => ?_, fun k h0 h1 => sNoMore_o ⟨h0, h1⟩⟩⟩
  · rw [e0] at hr
    have e1 : sNoMore w (199 + 122 * (r : Int)) = w (199 + 122 * (r : Int)) := sNoMore_c (by omega) (by omega) (fun r _ => by omega)
    refine ⟨by rw [e1]; exact (h r hr).1, Or.inl (sNoMore_i hr), ?_⟩
    rw [sEnt_p, pCnt_congr (v := fun k => w (201 + 122 * (r : Int) + k)) (fun k _ _ => sNoMore_c (by omega) (by omega) (fun r2 _ => by omega))]
    exact (h r hr).2
  · rw [e0] at hr; exact sNoMore_i hr
theorem wRn_told {x y v : Int} (h : wRn w) (hN : w 0 ≤ 12) : ∀ r : Nat, (r : Int) < sTold w x y v 0 → (0 ≤ sTold w x y v (199 + 122 * (r : Int)) ∧ sTold w x y v (199 + 122 * (r : Int)) ≤ 3) ∧ 0 < sEnt (sTold w x y v) (201 + 122 * (r : Int)) := by
  have lo : ∀ j : Int, j < 1663 → j ≠ 14 → sTold w x y v j = w j := fun j h1 h2 => sTold_lo _ _ _ _ h1 h2
  intro r hr
  rw [lo 0 (by omega) (by omega)] at hr
  rw [lo _ (by omega) (by omega), sEnt_p, pCnt_congr (v := fun k => w (201 + 122 * (r : Int) + k)) (fun k _ _ => lo _ (by omega) (by omega))]
  exact ⟨(h.1 r hr).1, (h.1 r hr).2.2⟩
theorem wRn_halt (h : wRn w) (hN : w 0 ≤ 12) : wRn (sHalt w) := by
  unfold sHalt
  split
  · exact wRn_nomore (wRn_told h hN)
  · exact h
theorem wHi_nomore2 (w : Int → Int) (hN : w 0 ≤ 12) : wHi w (sNoMore w) := ⟨sNoMore_c (by omega) (by omega) (fun _ _ => by omega), fun j hj => sNoMore_c (by omega) (by omega) (fun r _ => by omega)⟩
theorem wHi_halt2 (hN : w 0 ≤ 12) : wHi w (sHalt w) := by
  unfold sHalt
  split
  · exact (wHi_told _ _ _ _).tr (wHi_nomore2 _ (by rw [sTold_lo _ _ _ _ (by omega) (by omega)]; exact hN))
  · exact wHi.rf
theorem sHalt_0 : sHalt w 0 = w 0 := by
  unfold sHalt
  split
  · rw [sNoMore_c (by omega) (by omega) (fun _ _ => by omega), sTold_lo _ _ _ _ (by omega) (by omega)]
  · rfl
theorem sHalt_16 (h : w 16 = 0 ∨ w 16 = 1) : sHalt w 16 = 0 := by
  unfold sHalt
  split
  · unfold sNoMore; exact wS_at _ _ _
  · omega
end RBT

