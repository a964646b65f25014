section RBG
variable {T : Nat → Nat × Int} {F F' : Nat → Nat → Int} {I I' : Nat → Int → Int} {P P' : Nat → Nat → Option Nat} {Y Y' : Nat → Int → Option Nat} {a : Nat} {π π0 π1 : Nat → Nat} {w w' : Int → Int} {o n0 : Int}
theorem sEnW_c {j : Int} (h : j < 1663) (h14 : j ≠ 14) : sEnW w j = w j := sTold_lo _ _ _ _ h h14
theorem sEnP_eq (hO : wOk w) : (sEnP w).2 = cK w (oL w) (sEnt w 79) (wN w) ∧ (∀ j : Int, j < 199 ∨ 1663 ≤ j → (sEnP w).1 j = sEnW w j) ∧ ∀ s : Nat, s < wN w → kK w (oL w) (sEnt w 79) s = true → (sEnP w).1 (199 + 122 * ((cK w (oL w) (sEnt w 79) s : Nat) : Int)) = eL w (oL w) (sEnt w 79) s ∧ ∀ k : Int, 0 ≤ k → k < 120 → (sEnP w).1 (201 + 122 * ((cK w (oL w) (sEnt w 79) s : Nat) : Int) + k) = eV w (oL w) (sEnt w 79) s k := by
  have hN := hO.2.1
  have hw := wN_i hN.1
  have ei : ∀ r : Nat, r < wN w → wInp (sEnW w) r = wInp w r := fun r hr => by unfold wInp; rw [sEnW_c (by omega) (by omega)]
  have eo : sOld (sEnW w) (wN w) = oL w := sOld_congr ei _ (Nat.le_refl _)
  have ek : ∀ r : Nat, r < wN w → kK (sEnW w) (oL w) (sEnt w 79) r = kK w (oL w) (sEnt w 79) r := fun r hr => by unfold kK; rw [ei r hr]
  have ec : ∀ r : Nat, r ≤ wN w → cK (sEnW w) (oL w) (sEnt w 79) r = cK w (oL w) (sEnt w 79) r := cK_congr ek
  obtain ⟨h1, h2, h3⟩ := sEn_row (o := oL w) (n0 := sEnt w 79) (w := sEnW w) (wN w)
  unfold sEnP
  rw [eo]
  refine ⟨h1.trans (ec _ (Nat.le_refl _)), fun j hj => h2 j (by omega), fun s hs hk => ?_⟩
  have := h3 s hs ((ek s hs).trans hk)
  rw [ec s (by omega)] at this
  refine ⟨this.1.trans ?_, fun k k0 k1 => (this.2 k k0 k1).trans ?_⟩
  · unfold eL; rw [sEnW_c (by omega) (by omega), sEnW_c (by omega) (by omega)]
  · unfold eV; rw [sEnW_c (by omega) (by omega), sEnW_c (by omega) (by omega)]
theorem sEnds_0 (hO : wOk w) : sEnds w 0 = (cK w (oL w) (sEnt w 79) (wN w) : Nat) := by
  obtain ⟨h1, h2, h3⟩ := sEnP_eq hO
  unfold sEnds
  rw [sNoMore_c (by omega) (by omega) (fun _ _ => by omega), wS_at, h1]
theorem sEnds_lo (hO : wOk w) {j : Int} (h : (j < 79 ∨ (139 ≤ j ∧ j < 199) ∨ 1663 ≤ j) ∧ j ≠ 0 ∧ j ≠ 16) : sEnds w j = sEnW w j := by
  obtain ⟨h1, h2, h3⟩ := sEnP_eq hO
  have hle := cK_le (w := w) (o := oL w) (n0 := sEnt w 79) (wN w)
  have hw := wN_i hO.2.1.1
  have hN := hO.2.1
  unfold sEnds
  rw [sNoMore_c (by omega) (by omega) (fun r hr => by rw [wS_at, h1] at hr; omega), wS_ne _ _ _ (by omega), h2 j (by omega)]
theorem sEnds_row (hO : wOk w) {s : Nat} (hs : s < wN w) (hk : kK w (oL w) (sEnt w 79) s = true) : sEnds w (199 + 122 * ((cK w (oL w) (sEnt w 79) s : Nat) : Int)) = eL w (oL w) (sEnt w 79) s ∧ sEnds w (200 + 122 * ((cK w (oL w) (sEnt w 79) s : Nat) : Int)) = 0 ∧ ∀ k : Int, 0 ≤ k → k < 120 → sEnds w (201 + 122 * ((cK w (oL w) (sEnt w 79) s : Nat) : Int) + k) = eV w (oL w) (sEnt w 79) s k := by
  obtain ⟨h1, h2, h3⟩ := sEnP_eq hO
  have hlt := cK_lt hs hk
  have hle := cK_le (w := w) (o := oL w) (n0 := sEnt w 79) (wN w)
  obtain ⟨g1, g2⟩ := h3 s hs hk
  unfold sEnds
  refine ⟨?_, sNoMore_i (by rw [wS_at, h1]; omega), fun k k0 k1 => ?_⟩
  · rw [sNoMore_c (by omega) (by omega) (fun _ _ => by omega), wS_ne _ _ _ (by omega)]; exact g1
  · rw [sNoMore_c (by omega) (by omega) (fun _ _ => by omega), wS_ne _ _ _ (by omega)]; exact g2 k k0 k1
theorem sEnds_16 : sEnds w 16 = 0 := by unfold sEnds sNoMore; exact wS_at _ _ _
theorem wRn_ends (h : wRn w) (hO : wOk w) : wRn (sEnds w) := by
  have h17 := hO.2.2.2.2.2.2.2.2.2.2.2.2.1
  have hw := wN_i hO.2.1.1
  have key : ∀ r : Nat, (r : Int) < sEnds w 0 → (0 ≤ sEnds w (199 + 122 * (r : Int)) ∧ sEnds w (199 + 122 * (r : Int)) ≤ 3) ∧ sEnds w (200 + 122 * (r : Int)) = 0 ∧ 0 < sEnt (sEnds w) (201 + 122 * (r : Int)) := by
    intro r hr
    rw [sEnds_0 hO] at hr
    obtain ⟨s, s1, s2, s3⟩ := cK_inv (show r < cK w (oL w) (sEnt w 79) (wN w) by omega)
    obtain ⟨g1, g2, g3⟩ := sEnds_row hO s1 s2
    rw [s3] at g1 g2 g3
    have hr1 := h.1 s (by omega)
    refine ⟨?_, g2, ?_⟩
    · rw [g1]; unfold eL; split
      · exact h17
      · exact hr1.1
    · rw [sEnt_p, pCnt_congr (v := fun k => eV w (oL w) (sEnt w 79) s k) (fun k k0 k1 => g3 k k0 (by omega))]
      unfold eV
      by_cases q : (s : Int) = oL w ∧ 0 < sEnt w 79
      · simp only [if_pos q]; exact q.2
      · simp only [if_neg q]; exact hr1.2.2
  exact ⟨fun r hr => ⟨(key r hr).1, Or.inl (key r hr).2.1, (key r hr).2.2⟩, fun _ => ⟨fun r hr => (key r hr).2.1, fun k k0 k1 => by unfold sEnds; exact sNoMore_o ⟨k0, k1⟩⟩⟩
theorem RB.ends (h : RB T F I P Y a π w) (hO : wOk w) (hr : wRn w) (e0 : ∀ s : Nat, s < wN w → π0 s = if (s : Int) = oL w ∧ 0 < sEnt w 79 then π 13 else π s) (e12 : π1 12 = π 12) (e13 : π1 13 = π0 13)
    (h4 : ∀ j : Nat, j < 14 → π1 j < 14) (h5 : ∀ i j : Nat, i < 14 → j < 14 → π1 i = π1 j → i = j) (hk : ∀ s : Nat, s < wN w → kK w (oL w) (sEnt w 79) s = true → π1 (cK w (oL w) (sEnt w 79) s) = π0 s)
    (hY : ∀ j : Nat, j < 12 → Y' (a + 1) (j : Int) = some (a + 2 + 3 * π1 j)) (hP1 : ∀ b : Nat, b ≠ a → P' b = P b) (hP2 : ∀ k : Nat, k ≠ 3 → P' a k = P a k) (hPo : P' a 3 = some (a + 2 + 3 * π0 13))
    (f1 : F' a 1 = (cK w (oL w) (sEnt w 79) (wN w) : Nat)) (fa : ∀ k : Nat, k ≠ 1 → F' a k = F a k) (f44 : ∀ k : Nat, k < 3 → F' (a + 44) k = 0) (f50 : F' (a + 50) = F (a + 50)) (f51 : F' (a + 51) = fNote F (a + 51) (a + 51)) (i51 : ∀ c : Nat, c < 4 → I' (a + 52 + c) = iNote F I (a + 51) (w 13) 2 (w 17) (sEnt w 79) (a + 52 + c))
    (ft : F' (a + 2 + 3 * π 12) = F (a + 2 + 3 * π 12) ∧ I' (a + 2 + 3 * π 12 + 1) = I (a + 2 + 3 * π 12 + 1) ∧ I' (a + 2 + 3 * π 12 + 2) = I (a + 2 + 3 * π 12 + 2))
    (fo : F' (a + 2 + 3 * π0 13) 2 = 0 ∧ F' (a + 2 + 3 * π0 13) 4 = 0 ∧ ∀ k : Int, 0 ≤ k → k < 60 → I' (a + 2 + 3 * π0 13 + 1) k = -1)
    (fr : ∀ s : Nat, s < wN w → kK w (oL w) (sEnt w 79) s = true → (∀ k : Nat, k ≠ 3 → F' (a + 2 + 3 * π0 s) k = F (a + 2 + 3 * π0 s) k) ∧ F' (a + 2 + 3 * π0 s) 3 = (if (s : Int) = oL w ∧ 0 < sEnt w 79 then w 17 else F (a + 2 + 3 * π0 s) 3) ∧ I' (a + 2 + 3 * π0 s + 1) = I (a + 2 + 3 * π0 s + 1) ∧ I' (a + 2 + 3 * π0 s + 2) = I (a + 2 + 3 * π0 s + 2)) :
    RB T F' I' P' Y' a π1 (sEnds w) := by
  obtain ⟨⟨g1, g2⟩, ⟨s2, s3, s4⟩, gr, gt, go, gj⟩ := h
  have hw := wN_i hO.2.1.1
  have hN := hO.2.1
  have lo : ∀ j : Int, j < 79 → j ≠ 0 → j ≠ 14 → j ≠ 16 → sEnds w j = w j := fun j j1 j2 j3 j4 => (sEnds_lo hO ⟨by omega, j2, j4⟩).trans (sEnW_c (by omega) j3)
  have e16 := sEnds_16 (w := w)
  refine ⟨⟨g1.mvP hP1 (fun k k2 k3 => hP2 k k3), hY, by rw [hP2 2 (by omega), e12]; exact g2.2.1, by rw [hPo, e13], h4, h5⟩, ⟨?_, s3.mv f50 (fun j _ _ => lo j (by omega) (by omega) (by omega) (by omega)), by rw [f44 0 (by omega), e16], by rw [f44 1 (by omega)]; unfold sGoal; rw [e16, if_neg (by omega)], by rw [f44 2 (by omega), e16, if_neg (by omega)]⟩, fun r hrr => ?_, ?_, ?_, ?_⟩
  · obtain ⟨c1, c9, c10, c11, c12, c13, c14, c15⟩ := s2
    unfold rSc
    rw [sEnds_0 hO, lo 1 (by omega) (by omega) (by omega) (by omega), lo 3 (by omega) (by omega) (by omega) (by omega), lo 4 (by omega) (by omega) (by omega) (by omega), lo 5 (by omega) (by omega) (by omega) (by omega), lo 6 (by omega) (by omega) (by omega) (by omega), lo 13 (by omega) (by omega) (by omega) (by omega), lo 15 (by omega) (by omega) (by omega) (by omega)]
    exact ⟨f1, by rw [fa _ (by omega)]; exact c9, by rw [fa _ (by omega)]; exact c10, by rw [fa _ (by omega)]; exact c11, by rw [fa _ (by omega)]; exact c12, by rw [fa _ (by omega)]; exact c13, by rw [fa _ (by omega)]; exact c14, by rw [fa _ (by omega)]; exact c15⟩
  · rw [sEnds_0 hO] at hrr
    obtain ⟨s, q1, q2, q3⟩ := cK_inv (show r < cK w (oL w) (sEnt w 79) (wN w) by omega)
    obtain ⟨x1, x2, x3⟩ := sEnds_row hO q1 q2
    obtain ⟨y1, y2, y3, y4⟩ := fr s q1 q2
    have hks := hk s q1 q2
    rw [q3] at x1 x2 x3 hks
    rw [hks]
    have hgo : ∀ u g : Int → Int, rG F I (a + 2 + 3 * π0 s) u g → rG F' I' (a + 2 + 3 * π0 s) u g := fun u g hg => by
      unfold rG; rw [y1 2 (by omega), y3, y4]; exact hg
    by_cases q : (s : Int) = oL w ∧ 0 < sEnt w 79
    · have e := e0 s q1
      rw [if_pos q] at e
      rw [if_pos q] at y2
      refine ⟨by rw [y2, x1]; unfold eL; rw [if_pos q], by rw [y1 4 (by omega), x2, e]; exact go.1, (hgo (fun k => w (79 + k)) (fun k => w (139 + k)) (by rw [e]; exact go.2)).congr (fun k k0 k1 => ?_) (fun k k0 k1 => ?_)⟩
      · rw [x3 k k0 (by omega)]; unfold eV; rw [if_pos q]
      · rw [show 261 + 122 * (r : Int) + k = 201 + 122 * (r : Int) + (60 + k) by omega, x3 (60 + k) (by omega) (by omega)]; unfold eV; rw [if_pos q]; exact congrArg w (by omega)
    · have e := e0 s q1
      rw [if_neg q] at e
      rw [if_neg q] at y2
      have hrs := gr s (by omega)
      have h0 : w (200 + 122 * (s : Int)) = 0 := by
        have h01 := hr.i01 s (by omega)
        rcases h01 with h01 | h01
        · exact h01
        · unfold kK at q2; rw [decide_eq_false q, show wInp w s = true from decide_eq_true h01] at q2; cases q2
      refine ⟨by rw [y2, x1, e]; unfold eL; rw [if_neg q]; exact hrs.1, by rw [y1 4 (by omega), x2, e, hrs.2.1]; exact h0, (hgo (fun k => w (201 + 122 * (s : Int) + k)) (fun k => w (261 + 122 * (s : Int) + k)) (by rw [e]; exact hrs.2.2)).congr (fun k k0 k1 => ?_) (fun k k0 k1 => ?_)⟩
      · rw [x3 k k0 (by omega)]; unfold eV; rw [if_neg q]
      · rw [show 261 + 122 * (r : Int) + k = 201 + 122 * (r : Int) + (60 + k) by omega, x3 (60 + k) (by omega) (by omega)]; unfold eV; rw [if_neg q]; exact congrArg w (by omega)
  · rw [e12]
    exact (gt.heap ft.1 ft.2.1 ft.2.2).congr (fun j _ _ => lo j (by omega) (by omega) (by omega) (by omega))
  · rw [e13]
    refine ⟨fo.2.1, ?_, fun k k0 k1 => ⟨?_, fun q => absurd (sNoMore_o ⟨k0, k1⟩) q⟩⟩
    · rw [fo.1]; exact (pCnt_neg (u := fun k => sEnds w (79 + k)) (fun k k0 k1 => sNoMore_o ⟨k0, k1⟩)).symm
    · rw [fo.2.2 k k0 k1]; exact (sNoMore_o ⟨k0, k1⟩).symm
  · have ht := gj.told (x := 2) (y := w 17) (v := sEnt w 79) hO.2.2.2.2.2.2.2.2.2.2.1
    exact (ht.heap f51 i51).congr (sEnds_lo hO ⟨by omega, by omega, by omega⟩) (fun j _ _ => sEnds_lo hO ⟨by omega, by omega, by omega⟩) (by unfold sEnW; rw [sTold_14b]; omega)
end RBG

