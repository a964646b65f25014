/-! ledgers: what is its own, a new store -/
section LCT
variable {T T' : Nat → Nat × Int} {F F' : Nat → Nat → Int} {I I' : Nat → Int → Int} {P P' P2 : Nat → Nat → Option Nat} {Y Y' Y2 : Nat → Int → Option Nat} {o m z a x : Nat} {u u' : wWo} {ws : Nat → Option wWo} {s0 : Nat}
theorem wCho.frT {c : Nat} (h : wCho T P Y c) (q : ∀ b : Nat, c ≤ b → b < c + 39 → T' b = T b ∧ P' b = P b ∧ Y' b = Y b) : wCho T' P' Y' c := by
  have h1 : wCho T P' Y' c := h.fr (fun b b0 b1 => (q b b0 b1).2)
  have t : ∀ b : Nat, c ≤ b → b < c + 39 → T' b = T b := fun b b0 b1 => (q b b0 b1).1
  have mt : ∀ (b n : Nat) (k : Int), c ≤ b → b + n < c + 39 → wMat T Y' b n k → wMat T' Y' b n k := fun b n k b0 b1 hm => by
    obtain ⟨⟨m1, m2⟩, m3⟩ := hm
    refine ⟨by rw [t b b0 (by omega)]; exact ⟨m1, m2⟩, fun i hi => ?_⟩
    rw [t (b + 1 + i) (by omega) (by omega)]; exact m3 i hi
  obtain ⟨c1, ⟨c2, c3⟩, ⟨c4, c5⟩, ⟨c6, c7⟩, ⟨c8, c9⟩, ⟨c10, c11⟩, c12, c13⟩ := h1
  exact ⟨by rw [t c (by omega) (by omega)]; exact c1, ⟨c2, mt _ _ _ (by omega) (by omega) c3⟩, ⟨c4, mt _ _ _ (by omega) (by omega) c5⟩, ⟨c6, by rw [t _ (by omega) (by omega)]; exact c7⟩, ⟨c8, mt _ _ _ (by omega) (by omega) c9⟩, ⟨c10, by rw [t _ (by omega) (by omega)]; exact c11⟩, c12, by rw [t _ (by omega) (by omega)]; exact c13⟩
/-- only the ledger's own cells differ: its numbers, tape, scan, readers, choices -/
theorem LK.fr (h : LK T F I P Y o m z ws) (hF : ∀ b : Nat, ¬ ((o ≤ b ∧ b < o + 2) ∨ (o + 116 ≤ b ∧ b < o + 168)) → F' b = F b) (hI : ∀ b : Nat, ¬ ((o ≤ b ∧ b < o + 2) ∨ (o + 116 ≤ b ∧ b < o + 168)) → I' b = I b) (hg : pRg I' (o + 121)) : LK T F' I' P Y o m z ws ∧ LF m T F I P Y T F' I' P Y := by
  obtain ⟨hs, hd, v1, v2, -, z1, z2, z3⟩ := h
  obtain ⟨d1, d2, d3, d4⟩ := id hd
  refine ⟨⟨hs, hd, fun s x hs9 hx => ?_, fun s u hs9 hu => ?_, hg, z1, z2, z3⟩, fun b b0 b1 => ⟨rfl, hF b (by omega), hI b (by omega), rfl, rfl⟩⟩
  · have := d1 s x hs9 hx
    exact (v1 s x hs9 hx).fr (fun b b0 b1 => ⟨rfl, hF b (by omega), rfl, rfl⟩)
  · obtain ⟨x, e1, e2, e3⟩ := v2 s u hs9 hu
    have e4 := d1 s x hs9 e1
    refine ⟨x, e1, e2.fr ⟨fun b b0 b1 => ⟨rfl, hF b (by omega), hI b (by omega), rfl, rfl⟩, fun l hl b b0 b1 => ?_⟩, e3⟩
    have e5 := d3 s x l hs9 e1 hl
    exact ⟨rfl, hF b (by omega), fun _ => hI b (by omega), rfl⟩
/-- a new store comes to a place that was empty -/
theorem LK.new (h : LK T F I P Y o m z ws) (h0 : s0 < 15) (hn : lSl o P Y s0 = none) (hL : Lo z T F I P Y T' F' I' P' Y') (hW : SW T' F' P' Y' z) (h16 : P' z 16 = none) (hsl : ∀ s : Nat, s < 15 → lSl o P2 Y2 s = if s = s0 then some z else lSl o P Y s) (hP : ∀ b : Nat, b ≠ o → P2 b = P' b) (hPo : ∀ k : Nat, k ≠ 3 → k ≠ 4 → k ≠ 5 → P2 o k = P' o k) (hY : ∀ b : Nat, b ≠ o + 116 → Y2 b = Y' b) : LK T' F' I' P2 Y2 o m (z + 57) ws ∧ LF m T F I P Y T' F' I' P2 Y2 := by
  obtain ⟨hs, hd, v1, v2, hg, z1, z2, z3⟩ := h
  obtain ⟨d1, d2, d3, d4⟩ := id hd
  have lo : ∀ b : Nat, b < z → b ≠ o → b ≠ o + 116 → T' b = T b ∧ F' b = F b ∧ I' b = I b ∧ P2 b = P b ∧ Y2 b = Y b := fun b b0 b1 b2 => by
    obtain ⟨e1, e2, e3, e4, e5⟩ := hL b b0
    exact ⟨e1, e2, e3, (hP b b1).trans e4, (hY b b2).trans e5⟩
  have old : ∀ s x : Nat, s < 15 → lSl o P2 Y2 s = some x → s ≠ s0 → lSl o P Y s = some x := fun s x hs9 hx hn2 => by
    rw [hsl s hs9, if_neg hn2] at hx; exact hx
  have new : ∀ x : Nat, lSl o P2 Y2 s0 = some x → x = z := fun x hx => by
    rw [hsl s0 h0, if_pos rfl] at hx; cases hx; rfl
  have P16 : ∀ x : Nat, x + 57 ≤ z → ((o + 2 ≤ x ∧ x + 57 ≤ o + 116) ∨ o + 168 ≤ x) → P2 x 16 = P x 16 := fun x e1 e2 => by rw [(lo x (by omega) (by omega) (by omega)).2.2.2.1]
  have zz : P2 z 16 = none := by rw [hP z (by omega)]; exact h16
  refine ⟨⟨?_, ⟨fun s x hs9 hx => ?_, fun s s' x x' q1 q2 q3 hx hx' => ?_, fun s x l hs9 hx hl => ?_, fun s s' x x' l l' q1 q2 hx hx' hl hl' => ?_⟩, fun s x hs9 hx => ?_, fun s u hs9 hu => ?_, ?_, by omega, by omega, z3⟩, fun b b0 b1 => ?_⟩
  · obtain ⟨y1, ⟨y2, y22⟩, ⟨y3, y32⟩, ⟨y4, y42⟩, ⟨y5, y52⟩, ⟨y6, y62⟩, y7, y8⟩ := hs
    have t : ∀ b : Nat, b < z → T' b = T b := fun b hb => (hL b hb).1
    have po : ∀ k : Nat, k ≠ 3 → k ≠ 4 → k ≠ 5 → P2 o k = P o k := fun k a b c => (hPo k a b c).trans (by rw [(hL o (by omega)).2.2.2.1])
    have p : ∀ b : Nat, b < z → b ≠ o → P2 b = P b := fun b hb b1 => (hP b b1).trans (hL b hb).2.2.2.1
    refine ⟨by rw [t o (by omega)]; exact y1, ⟨(po 0 (by decide) (by decide) (by decide)).trans y2, by rw [t _ (by omega)]; exact y22⟩, ⟨(po 6 (by decide) (by decide) (by decide)).trans y3, by rw [t _ (by omega)]; exact y32⟩, ⟨(po 9 (by decide) (by decide) (by decide)).trans y4, ?_⟩, ⟨(po 10 (by decide) (by decide) (by decide)).trans y5, ?_⟩, ⟨(po 11 (by decide) (by decide) (by decide)).trans y6, ?_⟩, (po 12 (by decide) (by decide) (by decide)).trans y7, ?_⟩
    · unfold wScn at y42 ⊢
      rw [p (o + 117) (by omega) (by omega), t (o + 117) (by omega), t (o + 117 + 1) (by omega), t (o + 117 + 2) (by omega), t (o + 117 + 3) (by omega)]; exact y42
    · unfold wSrd at y52 ⊢
      rw [p (o + 121) (by omega) (by omega), t (o + 121) (by omega), t (o + 121 + 1) (by omega), t (o + 121 + 2) (by omega)]; exact y52
    · unfold wLrd at y62 ⊢
      rw [p (o + 124) (by omega) (by omega), t (o + 124) (by omega), t (o + 124 + 1) (by omega), t (o + 124 + 2) (by omega), t (o + 124 + 3) (by omega), t (o + 124 + 4) (by omega)]; exact y62
    · exact y8.frT (fun b b0 b1 => ⟨t b (by omega), p b (by omega) (by omega), (lo b (by omega) (by omega) (by omega)).2.2.2.2⟩)
  · by_cases e : s = s0
    · subst e; rw [new x hx]; omega
    · have := d1 s x hs9 (old s x hs9 hx e); omega
  · by_cases e : s = s0
    · subst e
      have := d1 s' x' q2 (old s' x' q2 hx' (fun c => q3 c.symm))
      rw [new x hx]; omega
    · by_cases e2 : s' = s0
      · subst e2
        have := d1 s x q1 (old s x q1 hx e)
        rw [new x' hx']; omega
      · exact d2 s s' x x' q1 q2 q3 (old s x q1 hx e) (old s' x' q2 hx' e2)
  · by_cases e : s = s0
    · subst e; rw [new x hx, zz] at hl; cases hl
    · have hx2 := old s x hs9 hx e
      have e1 := d1 s x hs9 hx2
      rw [P16 x e1.2.2 e1.1] at hl
      obtain ⟨a1, a2, a3, a4⟩ := d3 s x l hs9 hx2 hl
      refine ⟨a1, a2, by omega, fun s' x' hs' hx' => ?_⟩
      by_cases e3 : s' = s0
      · subst e3; rw [new x' hx']; omega
      · exact a4 s' x' hs' (old s' x' hs' hx' e3)
  · by_cases e : s = s0
    · subst e; rw [new x hx, zz] at hl; cases hl
    · by_cases e2 : s' = s0
      · subst e2; rw [new x' hx', zz] at hl'; cases hl'
      · have hx2 := old s x q1 hx e
        have hx3 := old s' x' q2 hx' e2
        have e3 := d1 s x q1 hx2
        have e4 := d1 s' x' q2 hx3
        rw [P16 x e3.2.2 e3.1] at hl
        rw [P16 x' e4.2.2 e4.1] at hl'
        exact d4 s s' x x' l l' q1 q2 hx2 hx3 hl hl'
  · by_cases e : s = s0
    · subst e
      rw [new x hx]
      exact hW.fr (fun b b0 b1 => ⟨rfl, rfl, hP b (by omega), hY b (by omega)⟩)
    · have hx2 := old s x hs9 hx e
      have e1 := d1 s x hs9 hx2
      exact (v1 s x hs9 hx2).fr (fun b b0 b1 => by have e3 := lo b (by omega) (by omega) (by omega); exact ⟨e3.1, e3.2.1, e3.2.2.2.1, e3.2.2.2.2⟩)
  · obtain ⟨x, e1, e2, e3⟩ := v2 s u hs9 hu
    have e : s ≠ s0 := fun c => by subst c; rw [hn] at e1; cases e1
    have e4 := d1 s x hs9 e1
    refine ⟨x, by rw [hsl s hs9, if_neg e]; exact e1, e2.fr ⟨fun b b0 b1 => lo b (by omega) (by omega) (by omega), fun l hl b b0 b1 => ?_⟩, e3⟩
    have e5 := d3 s x l hs9 e1 hl
    have e6 := lo b (by omega) (by omega) (by omega)
    exact ⟨e6.1, e6.2.1, fun _ => e6.2.2.1, e6.2.2.2.1⟩
  · exact hg.fr (hL (o + 121 + 1) (by omega)).2.2.1 (hL (o + 121 + 2) (by omega)).2.2.1
  · exact lo b (by omega) (by omega) (by omega)
end LCT

