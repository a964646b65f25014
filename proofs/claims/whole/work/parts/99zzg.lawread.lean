/-! a law that was read -/
/-- a line of a law whose codes are cs -/
def lnOk (cs : List (Int × Int)) (l : gLn) : Prop := (0 ≤ l.1 ∧ l.1 ≤ 2) ∧ (0 ≤ l.2.1 ∧ l.2.1 ≤ 40) ∧ ∃ a c b : List (Int × Int), cs = a ++ (c ++ b) ∧ l.2.2.1 = (a.length : Int) ∧ l.2.2.2 = ((a ++ c).length : Int) ∧ (c = [] ∨ cTy c [] = some [true])
theorem lnOk.app {cs d : List (Int × Int)} {l : gLn} (h : lnOk cs l) : lnOk (cs ++ d) l := by
  obtain ⟨h1, h2, a, c, b, h3, h4, h5, h6⟩ := h
  exact ⟨h1, h2, a, c, b ++ d, by rw [h3]; simp, h4, h5, h6⟩
theorem gLawL_ln {t : Int → Int} {e : Int} : ∀ (k : Nat) (q : Int) (cs : List (Int × Int)) (ls : List gLn) (x : List gLn × List (Int × Int)), gLawL t e k q cs ls = .inr x → (∀ l ∈ ls, lnOk cs l) → ∀ l ∈ x.1, lnOk x.2 l
  | 0, q, cs, ls, x, h, _ => by rw [gLawL] at h; cases h
  | k + 1, q, cs, ls, x, h, h4 => by
    cases hs : gLine t e q with
    | inl f => rw [gLawL_1 hs] at h; cases h
    | inr y =>
      obtain ⟨ka, c, q'⟩ := y
      obtain ⟨a1, a2, a3, a4, a5, a6⟩ := gLine_ok hs
      have h5 : ∀ l ∈ ls ++ [(ka.1, ka.2, (cs.length : Int), ((cs ++ c).length : Int))], lnOk (cs ++ c) l := fun l hl => by
        rcases List.mem_append.mp hl with hl | hl
        · exact (h4 l hl).app
        · rw [List.mem_singleton] at hl
          subst hl
          exact ⟨a5.1, a5.2, cs, c, [], by simp, rfl, rfl, a6⟩
      by_cases c1 : zK t e q' = 52
      · rw [gLawL_2 hs c1] at h; cases h; exact h5
      · by_cases c2 : zK t e q' = 159
        · rw [gLawL_3 hs c1 c2] at h
          exact gLawL_ln k _ _ _ x h h5
        · rw [gLawL_4 hs c1 c2] at h; cases h
theorem gLaw_ln {t : Int → Int} {e : Int} {x : List gLn × List (Int × Int)} (h : gLaw t e = .inr x) : ∀ l ∈ x.1, lnOk x.2 l := by
  unfold gLaw at h
  split at h
  · cases h; exact fun l hl => absurd hl List.not_mem_nil
  · exact gLawL_ln 12 _ _ _ x h (fun l hl => absurd hl List.not_mem_nil)
/-- the world u is w with the law that was read -/
def wLd (w u : Int → Int) (ls : List gLn) (cs : List (Int × Int)) : Prop := (∀ j : Int, 0 ≤ j → j < 1903 → j ≠ 2 → u j = w j) ∧ u 2 = 1 ∧ u 1903 = (ls.length : Int) ∧ (∀ n : Nat, n < ls.length → u (1904 + 4 * (n : Int)) = (ls.getD n (0, 0, 0, 0)).1 ∧ u (1904 + 4 * (n : Int) + 1) = (ls.getD n (0, 0, 0, 0)).2.1 ∧ u (1904 + 4 * (n : Int) + 2) = (ls.getD n (0, 0, 0, 0)).2.2.1 ∧ u (1904 + 4 * (n : Int) + 3) = (ls.getD n (0, 0, 0, 0)).2.2.2) ∧ ∀ i : Nat, i < cs.length → u (1952 + 2 * (i : Int)) = (cs.getD i (0, 0)).1 ∧ u (1952 + 2 * (i : Int) + 1) = (cs.getD i (0, 0)).2
section WLD
variable {T : Nat → Nat × Int} {F F' : Nat → Nat → Int} {I I' : Nat → Int → Int} {P P' : Nat → Nat → Option Nat} {Y : Nat → Int → Option Nat} {a z : Nat} {w w' u : Int → Int} {ls : List gLn} {cs : List (Int × Int)}
theorem wLwd_ld (h : pDr w u ls cs) (h1 : ls.length ≤ 12) (h2 : cs.length ≤ 400) : wLd w (wLwd u (ls.length : Int)) ls cs := by
  obtain ⟨d1, d2, d3⟩ := h
  have hi : ∀ k : Int, 1 ≤ k → k < 849 → wLwd u (ls.length : Int) (1903 + k) = u (2752 + k) := fun k k0 k1 => by
    unfold wLwd
    rw [wS_ne _ _ _ (by omega), cpyL_in _ (by omega), wS_ne _ _ _ (by omega), show 1903 + k + 849 = 2752 + k by omega]
  refine ⟨fun j j0 j1 j2 => ?_, ?_, ?_, fun n hn => ?_, fun i hi2 => ?_⟩
  · unfold wLwd
    rw [wS_ne _ _ _ j2, cpyL_hi _ (by omega), wS_ne _ _ _ (by omega)]
    exact d1 j (by omega)
  · unfold wLwd; rw [wS_at]
  · unfold wLwd
    rw [wS_ne _ _ _ (by omega), cpyL_in _ (by omega), show (1903 : Int) + 849 = 2752 by omega, wS_at]
  · obtain ⟨c1, c2, c3, c4⟩ := d2 n hn
    refine ⟨?_, ?_, ?_, ?_⟩
    · rw [show 1904 + 4 * (n : Int) = 1903 + (4 * (n : Int) + 1) by omega, hi _ (by omega) (by omega), ← c1]; congr 1; omega
    · rw [show 1904 + 4 * (n : Int) + 1 = 1903 + (4 * (n : Int) + 2) by omega, hi _ (by omega) (by omega), ← c2]; congr 1; omega
    · rw [show 1904 + 4 * (n : Int) + 2 = 1903 + (4 * (n : Int) + 3) by omega, hi _ (by omega) (by omega), ← c3]; congr 1; omega
    · rw [show 1904 + 4 * (n : Int) + 3 = 1903 + (4 * (n : Int) + 4) by omega, hi _ (by omega) (by omega), ← c4]; congr 1; omega
  · obtain ⟨c1, c2⟩ := d3 i hi2
    refine ⟨?_, ?_⟩
    · rw [show 1952 + 2 * (i : Int) = 1903 + (2 * (i : Int) + 49) by omega, hi _ (by omega) (by omega), ← c1]; congr 1; omega
    · rw [show 1952 + 2 * (i : Int) + 1 = 1903 + (2 * (i : Int) + 50) by omega, hi _ (by omega) (by omega), ← c2]; congr 1; omega
theorem wLd.wq (h : wLd w u ls cs) (he : wEq w w') : wLd w' u ls cs := ⟨fun j j0 j1 j2 => (h.1 j j0 j1 j2).trans (he j j0 (by omega)).symm, h.2⟩
theorem getD_mid {a c b : List (Int × Int)} {i : Nat} (hi : i < c.length) : (a ++ (c ++ b)).getD (a.length + i) (0, 0) = c.getD i (0, 0) := by
  rw [List.getD_eq_getElem?_getD, List.getD_eq_getElem?_getD, List.getElem?_append_right (by omega), show a.length + i - a.length = i by omega, List.getElem?_append_left hi]
theorem wCode_d : ∀ (c : List (Int × Int)) (u : Int → Int) (i : Int), (∀ k : Nat, k < c.length → u (1952 + 2 * (i + (k : Int))) = (c.getD k (0, 0)).1 ∧ u (1952 + 2 * (i + (k : Int)) + 1) = (c.getD k (0, 0)).2) → wCode u i c.length = c
  | [], u, i, _ => rfl
  | p :: c, u, i, h => by
    have h0 := h 0 (by simp)
    have e0 : i + ((0 : Nat) : Int) = i := by omega
    rw [e0] at h0
    have ih := wCode_d c u (i + 1) (fun k hk => by
      have h1 := h (k + 1) (by simpa using hk)
      rw [show i + ((k + 1 : Nat) : Int) = i + 1 + (k : Int) by omega] at h1
      exact h1)
    rw [List.length_cons, wCode, ih]
    rw [h0.1, h0.2]
    rfl
theorem wLd.line (h : wLd w u ls cs) (hl : ∀ l ∈ ls, lnOk cs l) (hc : ∀ d ∈ cs, cOk d) (h2 : cs.length ≤ 400) {n : Nat} (hn : n < ls.length) : wLine u (n : Int) ∧ (wFrom u n = wTo u n ∨ cTy (wLcode u n) [] = some [true]) ∧ wTo u n ≤ (cs.length : Int) := by
  obtain ⟨d0, d1, d2, d3, d4⟩ := h
  obtain ⟨c1, c2, c3, c4⟩ := d3 n hn
  have hm : ls.getD n (0, 0, 0, 0) ∈ ls := by
    rw [List.getD_eq_getElem?_getD, List.getElem?_eq_getElem hn]
    exact List.getElem_mem hn
  obtain ⟨l1, l2, a, c, b, l3, l4, l5, l6⟩ := hl _ hm
  have hf : wFrom u n = (a.length : Int) := c3.trans l4
  have ht : wTo u n = ((a ++ c).length : Int) := c4.trans l5
  have hlen : cs.length = a.length + (c.length + b.length) := by rw [l3, List.length_append, List.length_append]
  rw [List.length_append] at ht
  have hcode : wLcode u n = c := by
    unfold wLcode
    rw [hf, ht, show ((((a.length + c.length : Nat) : Int)) - (a.length : Int)).toNat = c.length by omega]
    refine wCode_d c u _ (fun k hk => ?_)
    have h3 := d4 (a.length + k) (by omega)
    rw [show ((a.length + k : Nat) : Int) = (a.length : Int) + (k : Int) by omega, l3, getD_mid hk] at h3
    exact h3
  refine ⟨⟨by rw [c1]; exact l1, by rw [c2]; exact l2, by rw [hf, ht]; omega, fun i i0 i1 => ?_, fun f => ?_⟩, ?_, by rw [ht]; omega⟩
  · rw [hf] at i0
    rw [ht] at i1
    have h3 := d4 i.toNat (by omega)
    rw [show ((i.toNat : Nat) : Int) = i by omega] at h3
    have hm2 : cs.getD i.toNat (0, 0) ∈ cs := by
      rw [List.getD_eq_getElem?_getD, List.getElem?_eq_getElem (show i.toNat < cs.length by omega)]
      exact List.getElem_mem (show i.toNat < cs.length by omega)
    rw [h3.1, h3.2]
    exact hc _ hm2
  · rw [hcode]
    rcases l6 with rfl | l6
    · exact ⟨[], sEv_nil _ _, by simp⟩
    · obtain ⟨fin, e1, e2⟩ := cTy_ev (f := f) c [] _ [] l6 rfl
      exact ⟨fin, e1, by rw [e2]; simp⟩
  · rw [hcode]
    rcases l6 with rfl | l6
    · left; rw [hf, ht]; simp
    · right; exact l6
/-- what a world is but for its law -/
def wE2 (w u : Int → Int) : Prop := ∀ j : Int, 0 ≤ j → j < 1903 → j ≠ 2 → u j = w j
theorem wOk.w2 (h : wOk w) (he : wE2 w u) (h2 : u 2 = 0 ∨ u 2 = 1) (hR : w32 u) : wOk u := by
  obtain ⟨-, o0, o1, o2, o3, o4, o5, o6, oc, o13, o14, o16, o17, o18, ov⟩ := h
  refine ⟨hR, ?_, ?_, ?_, ?_, ?_, ?_, ?_, fun i i0 i1 => ?_, ?_, ?_, ?_, ?_, ?_, fun i i0 i1 => ?_⟩
  · rw [he 0 (by omega) (by omega) (by omega)]; exact o0
  · rw [he 1 (by omega) (by omega) (by omega)]; exact o1
  · exact h2
  · rw [he 3 (by omega) (by omega) (by omega)]; exact o3
  · rw [he 4 (by omega) (by omega) (by omega)]; exact o4
  · rw [he 5 (by omega) (by omega) (by omega)]; exact o5
  · rw [he 6 (by omega) (by omega) (by omega)]; exact o6
  · rw [he i (by omega) (by omega) (by omega)]; exact oc i i0 i1
  · rw [he 13 (by omega) (by omega) (by omega)]; exact o13
  · rw [he 14 (by omega) (by omega) (by omega)]; exact o14
  · rw [he 16 (by omega) (by omega) (by omega)]; exact o16
  · rw [he 17 (by omega) (by omega) (by omega)]; exact o17
  · rw [he 18 (by omega) (by omega) (by omega)]; exact o18
  · rw [he i (by omega) (by omega) (by omega)]; exact ov i i0 i1
theorem wE2.r (he : wE2 w u) : eqR w u := ⟨he 0 (by omega) (by omega) (by omega), fun j a b => he j (by omega) (by omega) (by omega)⟩
theorem wE2.ent (he : wE2 w u) {row : Int} (h : 3 ≤ row ∧ row + 60 ≤ 1903) : sEnt u row = sEnt w row := by
  rw [sEnt_p, sEnt_p]; exact pCnt_congr (fun k _ _ => he _ (by omega) (by omega) (by omega))
theorem wRn.w2 (h : wRn w) (hN : 0 ≤ w 0 ∧ w 0 ≤ 12) (he : wE2 w u) : wRn u := by
  refine ⟨fun r hr => ?_, fun h16 => ?_⟩
  · rw [he 0 (by omega) (by omega) (by omega)] at hr
    rw [he _ (by omega) (by omega) (by omega), he _ (by omega) (by omega) (by omega), he.ent (by omega)]
    exact h.1 r hr
  · rw [he 16 (by omega) (by omega) (by omega)] at h16
    obtain ⟨b1, b2⟩ := h.2 h16
    exact ⟨fun r hr => by rw [he 0 (by omega) (by omega) (by omega)] at hr; rw [he _ (by omega) (by omega) (by omega)]; exact b1 r hr, fun k k0 k1 => by rw [he _ (by omega) (by omega) (by omega)]; exact b2 k k0 k1⟩
theorem wI2.w2 (h : wI2 w) (he : wE2 w u) (hg : wGd u) : wI2 u := by
  obtain ⟨⟨⟨g1, g2, g3⟩, g4, g5, g6⟩, g7⟩ := h
  have hN := g1.2.1
  refine ⟨⟨hg, g4.w2 hN he, fun q => ?_, ?_⟩, fun q => ?_⟩
  · rw [he 16 (by omega) (by omega) (by omega)] at q
    rw [he.r.left hN (he 18 (by omega) (by omega) (by omega))]; exact g5 q
  · rw [he 11 (by omega) (by omega) (by omega)]; exact g6
  · rw [he 16 (by omega) (by omega) (by omega)] at q
    rw [he 17 (by omega) (by omega) (by omega), (eqR_mS he.r hN).2]; exact g7 q
theorem wLd.gd (h : wLd w u ls cs) (hw : wOk w) (hl : ∀ l ∈ ls, lnOk cs l) (hc : ∀ d ∈ cs, cOk d) (h1 : ls.length ≤ 12) (h2 : cs.length ≤ 400) (hR : w32 u) : wGd u := by
  have hln : ∀ n : Nat, (n : Int) < u 1903 → n < ls.length := fun n hn => by rw [h.2.2.1] at hn; omega
  exact ⟨hw.w2 h.1 (Or.inr h.2.1) hR, fun _ => ⟨by rw [h.2.2.1]; omega, fun n hn => (h.line hl hc h2 (hln n hn)).1⟩, fun _ n hn => (h.line hl hc h2 (hln n hn)).2.1⟩
/-- a store gets a law -/
theorem SR.law (h : SR T F I P Y a w) (hu : wGd u) (he : wE2 w u) (hP : ∀ c : Nat, c ≠ a → P' c = P c) (hP2 : ∀ k : Nat, k ≠ 16 → P' a k = P a k) (hl : rLw T F I P' a u) : SR T F I P' Y a u := by
  obtain ⟨⟨g1, g2, g3⟩, -, ⟨π, hB⟩, hv, hf⟩ := h
  have hN := g1.2.1
  have e : ∀ j : Int, 0 ≤ j → j < 1903 → j ≠ 2 → u j = w j := he
  obtain ⟨⟨q1, p1, p2, p3, p4⟩, ⟨⟨s1, s2, s3, s4, s5, s6, s7, s8⟩, ⟨t1, t2, t3, t4, t5, t6⟩, j1, j2, j3⟩, b1, b2, b3, hJ⟩ := id hB
  have hB2 : RB T F I P' Y a π w := ⟨⟨q1.mvQ hP hP2, p1, (hP2 2 (by omega)).trans p2, (hP2 3 (by omega)).trans p3, p4⟩, hB.2⟩
  refine ⟨hu, hl, ⟨π, hB2.mv (fun _ _ _ => rfl) (fun _ _ _ => rfl) (e 0 (by omega) (by omega) (by omega)) (fun j a b => e j (by omega) (by omega) (by omega)) hN.2 ⟨?_, ?_, ?_⟩ (hJ.congr (e 14 (by omega) (by omega) (by omega)) (fun j a b => e j (by omega) (by omega) (by omega)) g1.2.2.2.2.2.2.2.2.2.2.1.2)⟩, hv.congr he.r hN (e 3 (by omega) (by omega) (by omega)) (e 4 (by omega) (by omega) (by omega)) (e 5 (by omega) (by omega) (by omega)), ?_⟩
  · unfold rSc
    rw [e 0 (by omega) (by omega) (by omega), e 3 (by omega) (by omega) (by omega), e 4 (by omega) (by omega) (by omega), e 5 (by omega) (by omega) (by omega), e 6 (by omega) (by omega) (by omega), e 13 (by omega) (by omega) (by omega), e 15 (by omega) (by omega) (by omega), e 1 (by omega) (by omega) (by omega)]
    exact ⟨s1, s2, s3, s4, s5, s6, s7, s8⟩
  · unfold rTl
    rw [e 7 (by omega) (by omega) (by omega), e 8 (by omega) (by omega) (by omega), e 9 (by omega) (by omega) (by omega), e 10 (by omega) (by omega) (by omega), e 11 (by omega) (by omega) (by omega), e 12 (by omega) (by omega) (by omega)]
    exact ⟨t1, t2, t3, t4, t5, t6⟩
  · unfold rJb sGoal
    unfold sGoal at j2
    rw [e 16 (by omega) (by omega) (by omega), e 17 (by omega) (by omega) (by omega), e 18 (by omega) (by omega) (by omega)]
    exact ⟨j1, j2, j3⟩
  · rw [he.r.left hN (he 18 (by omega) (by omega) (by omega))]; exact hf
/-- the made law at l is the law that was read -/
theorem WNew.law {J0 : Nat → Int → Int} {l r : Nat} (hW : WNew T F I P J0 l (r + 1) (r + 2) (r + 3) (r + 4) (ls.length : Int) (cs.length : Int)) (hk : pKs J0 r ls) (hc : pKc (J0 (r + 4)) cs) (h : wLd w u ls cs) (hl : ∀ l ∈ ls, lnOk cs l) (hco : ∀ d ∈ cs, cOk d) (h2 : cs.length ≤ 400) : rLaw T F I P l u := by
  obtain ⟨⟨a1, a2⟩, ⟨b1, b2, b3, b4⟩, ⟨c1, c2, c3, c4⟩, ⟨d1, d2, d3, d4⟩, ⟨e1, e2, e3, e4⟩, f1, f2, f3⟩ := hW
  have h9 := h.2.2.1
  refine ⟨h.2.1, a1, ⟨b1, c1, d1, e1, f1⟩, ⟨b2, by rw [h9]; exact b3⟩, ⟨c2, by rw [h9]; exact c3⟩, ⟨d2, by rw [h9]; exact d3⟩, ⟨e2, by rw [e3]; omega, by rw [e3]; omega⟩, ⟨f2, f3⟩, by rw [h9]; exact a2, fun n hn => ?_⟩
  rw [h9] at hn
  have hn2 : n < ls.length := by omega
  obtain ⟨k1, k2, k3, k4⟩ := hk n hn2
  obtain ⟨u1, u2, u3, u4⟩ := h.2.2.2.1 n hn2
  have hto := (h.line hl hco h2 hn2).2.2
  refine ⟨by rw [b4 _ (by omega) (by omega), k1, u1], by rw [c4 _ (by omega) (by omega), k2, u2], by rw [d4 _ (by omega) (by omega), k3]; exact u3.symm, by rw [d4 _ (by omega) (by omega), k4]; exact u4.symm, by rw [e3]; exact hto, fun i i0 i1 i2 => ?_⟩
  have h7 := hc i.toNat (by omega)
  have h8 := h.2.2.2.2 i.toNat (by omega)
  rw [show ((i.toNat : Nat) : Int) = i by omega] at h7 h8
  rw [e4 i i0 (by omega), h7, h8.1, h8.2]
end WLD

