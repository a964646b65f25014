/-! worlds that differ in their drafts alone -/
def wEq (w w' : Int → Int) : Prop := ∀ j : Int, 0 ≤ j → j < 2752 → w' j = w j
section WEQ
variable {T : Nat → Nat × Int} {F : Nat → Nat → Int} {I : Nat → Int → Int} {P : Nat → Nat → Option Nat} {Y : Nat → Int → Option Nat} {a : Nat} {w w' : Int → Int}
theorem wEq.rf : wEq w w := fun _ _ _ => rfl
theorem wOk.wq (h : wOk w) (he : wEq w w') (hR : w32 w') : wOk w' := by
  obtain ⟨-, o0, o1, o2, o3, o4, o5, o6, oc, o13, o14, o16, o17, o18, ov⟩ := h
  refine ⟨hR, ?_, ?_, ?_, ?_, ?_, ?_, ?_, fun i i0 i1 => ?_, ?_, ?_, ?_, ?_, ?_, fun i i0 i1 => ?_⟩
  · rw [he 0 (by omega) (by omega)]; exact o0
  · rw [he 1 (by omega) (by omega)]; exact o1
  · rw [he 2 (by omega) (by omega)]; exact o2
  · rw [he 3 (by omega) (by omega)]; exact o3
  · rw [he 4 (by omega) (by omega)]; exact o4
  · rw [he 5 (by omega) (by omega)]; exact o5
  · rw [he 6 (by omega) (by omega)]; exact o6
  · rw [he i (by omega) (by omega)]; exact oc i i0 i1
  · rw [he 13 (by omega) (by omega)]; exact o13
  · rw [he 14 (by omega) (by omega)]; exact o14
  · rw [he 16 (by omega) (by omega)]; exact o16
  · rw [he 17 (by omega) (by omega)]; exact o17
  · rw [he 18 (by omega) (by omega)]; exact o18
  · rw [he i (by omega) (by omega)]; exact ov i i0 i1
theorem wCode_wq (he : wEq w w') : ∀ (k : Nat) (i : Int), 0 ≤ i → i + k ≤ 400 → wCode w' i k = wCode w i k
  | 0, _, _, _ => rfl
  | k + 1, i, h0, h1 => by
    rw [wCode, wCode, he _ (by omega) (by omega), he _ (by omega) (by omega), wCode_wq he k (i + 1) (by omega) (by omega)]
theorem wFrom_wq (he : wEq w w') {n : Int} (hn : 0 ≤ n ∧ n < 12) : wFrom w' n = wFrom w n := he _ (by omega) (by omega)
theorem wTo_wq (he : wEq w w') {n : Int} (hn : 0 ≤ n ∧ n < 12) : wTo w' n = wTo w n := he _ (by omega) (by omega)
theorem wLcode_wq (he : wEq w w') {n : Int} (hn : 0 ≤ n ∧ n < 12) (hb : 0 ≤ wFrom w n ∧ wFrom w n ≤ wTo w n ∧ wTo w n ≤ 400) : wLcode w' n = wLcode w n := by
  unfold wLcode
  rw [wFrom_wq he hn, wTo_wq he hn, wCode_wq he _ _ hb.1 (by omega)]
theorem wLw.wq (h : wLw w) (he : wEq w w') : wLw w' := by
  intro h2
  rw [he 2 (by omega) (by omega)] at h2
  obtain ⟨h3, h4⟩ := h h2
  rw [he 1903 (by omega) (by omega)]
  refine ⟨h3, fun n hn => ?_⟩
  obtain ⟨a1, a2, a3, a4, a5⟩ := h4 n hn
  have hn2 : 0 ≤ (n : Int) ∧ (n : Int) < 12 := by omega
  unfold wLine
  rw [he _ (by omega) (by omega), he _ (by omega) (by omega), wFrom_wq he hn2, wTo_wq he hn2, wLcode_wq he hn2 a3]
  exact ⟨a1, a2, a3, fun i i0 i1 => by rw [he _ (by omega) (by omega), he _ (by omega) (by omega)]; exact a4 i i0 i1, a5⟩
theorem wTyp.wq (h : wTyp w) (hL : wLw w) (he : wEq w w') : wTyp w' := by
  intro h2 n hn
  rw [he 2 (by omega) (by omega)] at h2
  rw [he 1903 (by omega) (by omega)] at hn
  obtain ⟨h3, h4⟩ := hL h2
  have hn2 : 0 ≤ (n : Int) ∧ (n : Int) < 12 := by omega
  rw [wFrom_wq he hn2, wTo_wq he hn2, wLcode_wq he hn2 (h4 n hn).2.2.1]
  exact h h2 n hn
theorem wEq.r (he : wEq w w') : eqR w w' := ⟨he 0 (by omega) (by omega), fun j a b => he j (by omega) (by omega)⟩
theorem wEq.ent (he : wEq w w') {row : Int} (h : 0 ≤ row ∧ row + 60 ≤ 2752) : sEnt w' row = sEnt w row := by
  rw [sEnt_p, sEnt_p]; exact pCnt_congr (fun k _ _ => he _ (by omega) (by omega))
theorem wRn.wq (h : wRn w) (hN : 0 ≤ w 0 ∧ w 0 ≤ 12) (he : wEq w w') : wRn w' := by
  refine ⟨fun r hr => ?_, fun h16 => ?_⟩
  · rw [he 0 (by omega) (by omega)] at hr
    rw [he _ (by omega) (by omega), he _ (by omega) (by omega), he.ent (by omega)]
    exact h.1 r hr
  · rw [he 16 (by omega) (by omega)] at h16
    obtain ⟨b1, b2⟩ := h.2 h16
    exact ⟨fun r hr => by rw [he 0 (by omega) (by omega)] at hr; rw [he _ (by omega) (by omega)]; exact b1 r hr, fun k k0 k1 => by rw [he _ (by omega) (by omega)]; exact b2 k k0 k1⟩
theorem wI2.wq (h : wI2 w) (he : wEq w w') (hR : w32 w') : wI2 w' := by
  obtain ⟨⟨⟨g1, g2, g3⟩, g4, g5, g6⟩, g7⟩ := h
  have hN := g1.2.1
  refine ⟨⟨⟨g1.wq he hR, g2.wq he, g3.wq g2 he⟩, g4.wq hN he, fun q => ?_, ?_⟩, fun q => ?_⟩
  · rw [he 16 (by omega) (by omega)] at q
    rw [he.r.left hN (he 18 (by omega) (by omega))]; exact g5 q
  · rw [he 11 (by omega) (by omega)]; exact g6
  · rw [he 16 (by omega) (by omega)] at q
    rw [he 17 (by omega) (by omega), (eqR_mS he.r hN).2]; exact g7 q
theorem rLaw.wq {l : Nat} (h : rLaw T F I P l w) (hL : wLw w) (he : wEq w w') : rLaw T F I P l w' := by
  obtain ⟨b1, b2, b3, b4, b5, b6, b7, b8, b9, b10⟩ := h
  obtain ⟨h3, h4⟩ := hL b1
  refine ⟨by rw [he 2 (by omega) (by omega)]; exact b1, b2, b3, by rw [he 1903 (by omega) (by omega)]; exact b4, by rw [he 1903 (by omega) (by omega)]; exact b5, by rw [he 1903 (by omega) (by omega)]; exact b6, b7, b8, by rw [he 1903 (by omega) (by omega)]; exact b9, fun n hn => ?_⟩
  rw [he 1903 (by omega) (by omega)] at hn
  have hn2 : 0 ≤ (n : Int) ∧ (n : Int) < 12 := by omega
  obtain ⟨c1, c2, c3, c4, c5, c6⟩ := b10 n hn
  have h5 := (h4 n hn).2.2.1
  rw [he _ (by omega) (by omega), he _ (by omega) (by omega), wFrom_wq he hn2, wTo_wq he hn2]
  exact ⟨c1, c2, c3, c4, c5, fun i i0 i1 i2 => by rw [he _ (by omega) (by omega), he _ (by omega) (by omega)]; exact c6 i i0 i1 i2⟩
theorem rLw.wq (h : rLw T F I P a w) (hL : wLw w) (he : wEq w w') : rLw T F I P a w' := by
  rcases h with ⟨h1, h2⟩ | ⟨l, h1, h2, h3⟩
  · exact Or.inl ⟨h1, by rw [he 2 (by omega) (by omega)]; exact h2⟩
  · exact Or.inr ⟨l, h1, h2.wq hL he, h3⟩
/-- a store that is a world is every world that differs in its draft alone -/
theorem SR.wq (h : SR T F I P Y a w) (he : wEq w w') (hR : w32 w') : SR T F I P Y a w' := by
  obtain ⟨⟨g1, g2, g3⟩, hl, ⟨π, hB⟩, hv, hf⟩ := h
  have hN := g1.2.1
  have e : ∀ j : Int, 0 ≤ j → j < 2752 → w' j = w j := he
  obtain ⟨-, ⟨⟨s1, s2, s3, s4, s5, s6, s7, s8⟩, ⟨t1, t2, t3, t4, t5, t6⟩, j1, j2, j3⟩, -, -, -, hJ⟩ := id hB
  refine ⟨⟨g1.wq he hR, g2.wq he, g3.wq g2 he⟩, hl.wq g2 he, ⟨π, hB.mv (fun _ _ _ => rfl) (fun _ _ _ => rfl) (e 0 (by omega) (by omega)) (fun j a b => e j (by omega) (by omega)) hN.2 ⟨?_, ?_, ?_⟩ (hJ.congr (e 14 (by omega) (by omega)) (fun j a b => e j (by omega) (by omega)) g1.2.2.2.2.2.2.2.2.2.2.1.2)⟩, hv.congr he.r hN (e 3 (by omega) (by omega)) (e 4 (by omega) (by omega)) (e 5 (by omega) (by omega)), by rw [he.r.left hN (e 18 (by omega) (by omega))]; exact hf⟩
  · unfold rSc
    rw [e 0 (by omega) (by omega), e 3 (by omega) (by omega), e 4 (by omega) (by omega), e 5 (by omega) (by omega), e 6 (by omega) (by omega), e 13 (by omega) (by omega), e 15 (by omega) (by omega), e 1 (by omega) (by omega)]
    exact ⟨s1, s2, s3, s4, s5, s6, s7, s8⟩
  · unfold rTl
    rw [e 7 (by omega) (by omega), e 8 (by omega) (by omega), e 9 (by omega) (by omega), e 10 (by omega) (by omega), e 11 (by omega) (by omega), e 12 (by omega) (by omega)]
    exact ⟨t1, t2, t3, t4, t5, t6⟩
  · unfold rJb sGoal
    unfold sGoal at j2
    rw [e 16 (by omega) (by omega), e 17 (by omega) (by omega), e 18 (by omega) (by omega)]
    exact ⟨j1, j2, j3⟩
end WEQ

