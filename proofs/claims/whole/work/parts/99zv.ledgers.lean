/-! what a ledger stands for -/
abbrev wWo : Type := Int → Int
/-- the fifteen places of a ledger that may hold a store: live, spare, kept, twelve undos -/
def lSl (o : Nat) (P : Nat → Nat → Option Nat) (Y : Nat → Int → Option Nat) (s : Nat) : Option Nat := if s = 0 then P o 3 else if s = 1 then P o 4 else if s = 2 then P o 5 else Y (o + 116) ((s : Int) - 3)
/-- what of a ledger never changes -/
def LgS (T : Nat → Nat × Int) (P : Nat → Nat → Option Nat) (Y : Nat → Int → Option Nat) (o : Nat) : Prop := (T o).1 = 12 ∧ (P o 0 = some (o + 1) ∧ (T (o + 1)).1 = 14 ∧ (T (o + 1)).2 = 400) ∧ (P o 6 = some (o + 116) ∧ (T (o + 116)).1 = 18 ∧ (T (o + 116)).2 = 12) ∧ (P o 9 = some (o + 117) ∧ wScn T P (o + 117)) ∧ (P o 10 = some (o + 121) ∧ wSrd T P (o + 121) (o + 117)) ∧ (P o 11 = some (o + 124) ∧ wLrd T P (o + 124) (o + 117)) ∧ P o 12 = some (o + 129) ∧ wCho T P Y (o + 129)
/-- its stores and laws lie apart, from the model at m too -/
def LD (P : Nat → Nat → Option Nat) (Y : Nat → Int → Option Nat) (o m z : Nat) : Prop :=
  (∀ s x : Nat, s < 15 → lSl o P Y s = some x → ((o + 2 ≤ x ∧ x + 57 ≤ o + 116) ∨ o + 168 ≤ x) ∧ (x + 57 ≤ m ∨ m + 13 ≤ x) ∧ x + 57 ≤ z) ∧
  (∀ s s' x x' : Nat, s < 15 → s' < 15 → s ≠ s' → lSl o P Y s = some x → lSl o P Y s' = some x' → x + 57 ≤ x' ∨ x' + 57 ≤ x) ∧
  (∀ s x l : Nat, s < 15 → lSl o P Y s = some x → P x 16 = some l → o + 168 ≤ l ∧ (l + 6 ≤ m ∨ m + 13 ≤ l) ∧ l + 6 ≤ z ∧ ∀ s' x' : Nat, s' < 15 → lSl o P Y s' = some x' → l + 6 ≤ x' ∨ x' + 57 ≤ l) ∧
  (∀ s s' x x' l l' : Nat, s < 15 → s' < 15 → lSl o P Y s = some x → lSl o P Y s' = some x' → P x 16 = some l → P x' 16 = some l' → l = l' ∨ l + 6 ≤ l' ∨ l' + 6 ≤ l)
/-- the store at x is a good world -/
def SG (T : Nat → Nat × Int) (F : Nat → Nat → Int) (I : Nat → Int → Int) (P : Nat → Nat → Option Nat) (Y : Nat → Int → Option Nat) (x : Nat) (w : wWo) : Prop := SR T F I P Y x w ∧ wI2 w
/-- the worlds of its stores: live, kept, undos (the oldest first) -/
def LW (T : Nat → Nat × Int) (F : Nat → Nat → Int) (I : Nat → Int → Int) (P : Nat → Nat → Option Nat) (Y : Nat → Int → Option Nat) (o : Nat) (w : wWo) (kw : Option wWo) (us : List wWo) : Prop :=
  (∀ s x : Nat, s < 15 → lSl o P Y s = some x → SW T F P Y x) ∧ (∃ a : Nat, P o 3 = some a ∧ SG T F I P Y a w) ∧ (∃ b : Nat, P o 4 = some b) ∧
  ((kw = none ∧ P o 5 = none) ∨ ∃ (k : wWo) (x : Nat), kw = some k ∧ P o 5 = some x ∧ SG T F I P Y x k) ∧
  (us.length ≤ 12 ∧ F o 8 = (us.length : Int) ∧ (0 ≤ F o 7 ∧ F o 7 < 12)) ∧ ∀ i : Nat, i < us.length → ∃ x : Nat, Y (o + 116) ((F o 7 + (i : Int)) % 12) = some x ∧ SG T F I P Y x (us.getD i (fun _ => 0))
/-- the ledger at o -/
def LC (T : Nat → Nat × Int) (F : Nat → Nat → Int) (I : Nat → Int → Int) (P : Nat → Nat → Option Nat) (Y : Nat → Int → Option Nat) (o m z : Nat) (w : wWo) (kw : Option wWo) (us : List wWo) : Prop :=
  LgS T P Y o ∧ LD P Y o m z ∧ LW T F I P Y o w kw us ∧ pRg I (o + 121) ∧ (o + 168 ≤ z ∧ m + 13 ≤ z ∧ (m + 13 ≤ o ∨ o + 168 ≤ m))
/-- nothing of the model differs -/
def LF (m : Nat) (T : Nat → Nat × Int) (F : Nat → Nat → Int) (I : Nat → Int → Int) (P : Nat → Nat → Option Nat) (Y : Nat → Int → Option Nat) (T' : Nat → Nat × Int) (F' : Nat → Nat → Int) (I' : Nat → Int → Int) (P' : Nat → Nat → Option Nat) (Y' : Nat → Int → Option Nat) : Prop := ∀ b : Nat, m ≤ b → b < m + 13 → T' b = T b ∧ F' b = F b ∧ I' b = I b ∧ P' b = P b ∧ Y' b = Y b
section LCS
variable {T T' : Nat → Nat × Int} {F F' : Nat → Nat → Int} {I I' : Nat → Int → Int} {P P' : Nat → Nat → Option Nat} {Y Y' : Nat → Int → Option Nat} {o m z a x : Nat} {w w' : wWo} {kw : Option wWo} {us : List wWo}
theorem LF.rf : LF m T F I P Y T F I P Y := fun _ _ _ => ⟨rfl, rfl, rfl, rfl, rfl⟩
theorem SW.fr (h : SW T F P Y x) (hT : ∀ b : Nat, x ≤ b → b < x + 57 → T' b = T b ∧ F' b = F b ∧ P' b = P b ∧ Y' b = Y b) : SW T' F' P' Y' x := by
  obtain ⟨h1, ⟨π, h2⟩, h3, h4⟩ := h
  refine ⟨h1.fr (fun b b0 b1 => ⟨(hT b b0 b1).1, (hT b b0 b1).2.2.1⟩), ⟨π, h2.fr (hT x (by omega) (by omega)).2.2.1 (hT (x + 1) (by omega) (by omega)).2.2.2⟩, ?_, ?_⟩
  · rw [(hT x (by omega) (by omega)).2.1]; exact h3
  · rw [(hT x (by omega) (by omega)).2.1]; exact h4
theorem wCho.fr {c : Nat} (h : wCho T P Y c) (q : ∀ b : Nat, c ≤ b → b < c + 39 → P' b = P b ∧ Y' b = Y b) : wCho T P' Y' c := by
  unfold wCho wMat at h ⊢
  rw [(q c (by omega) (by omega)).1, (q (c + 1) (by omega) (by omega)).2, (q (c + 14) (by omega) (by omega)).2, (q (c + 28) (by omega) (by omega)).2]
  exact h
theorem lSl.live (h : P o 3 = some a) : lSl o P Y 0 = some a := h
theorem lSl.fr (hP : P' o = P o) (hY : Y' (o + 116) = Y (o + 116)) (s : Nat) : lSl o P' Y' s = lSl o P Y s := by unfold lSl; rw [hP, hY]
/-- the live store acts: the ledger is of its new world -/
theorem LC.act (h : LC T F I P Y o m z w kw us) (ha : P o 3 = some a) (hS : SR T F' I' P' Y' a w') (hI : wI2 w') (hF : SF a F I P Y F' I' P' Y') : LC T F' I' P' Y' o m z w' kw us ∧ P' o 3 = some a ∧ F' o = F o ∧ I' (o + 1) = I (o + 1) ∧ LF m T F I P Y T F' I' P' Y' := by
  obtain ⟨hs, hd, ⟨v1, ⟨a9, v2, v3⟩, ⟨b, v4⟩, v5, v6, v7⟩, hg, z1, z2, z3⟩ := h
  rw [ha] at v2; cases v2
  obtain ⟨d1, d2, d3, d4⟩ := id hd
  have la := d1 0 a (by decide) ha
  have lw : ∀ l, P a 16 = some l → _ := fun l hl => d3 0 a l (by decide) ha hl
  have out : ∀ b : Nat, (b < a ∨ a + 57 ≤ b) → (∀ l, P a 16 = some l → b ≠ l + 5) → F' b = F b ∧ P' b = P b ∧ Y' b = Y b ∧ I' b = I b := fun b hb hl => ⟨(hF.1 b hb).1, (hF.1 b hb).2.1, (hF.1 b hb).2.2.1, (hF.1 b hb).2.2.2 hl⟩
  have own : ∀ b : Nat, (o ≤ b ∧ b < o + 2) ∨ (o + 116 ≤ b ∧ b < o + 168) → F' b = F b ∧ P' b = P b ∧ Y' b = Y b ∧ I' b = I b := fun b hb => out b (by omega) (fun l hl => by have := lw l hl; omega)
  have hPo : P' o = P o := (own o (by omega)).2.1
  have hYo : Y' (o + 116) = Y (o + 116) := (own (o + 116) (by omega)).2.2.1
  have sl : ∀ s : Nat, lSl o P' Y' s = lSl o P Y s := lSl.fr hPo hYo
  have blk : ∀ s x : Nat, s < 15 → s ≠ 0 → lSl o P Y s = some x → ∀ b : Nat, x ≤ b → b < x + 57 → F' b = F b ∧ P' b = P b ∧ Y' b = Y b ∧ I' b = I b := fun s x hs9 h0 hx b b0 b1 => by
    have e1 := d2 s 0 x a hs9 (by decide) h0 hx ha
    exact out b (by omega) (fun l hl => by have := (lw l hl).2.2.2 s x hs9 hx; omega)
  have P16 : ∀ s x : Nat, s < 15 → lSl o P Y s = some x → P' x 16 = P x 16 := fun s x hs9 hx => by
    by_cases e : s = 0
    · subst e
      have e2 : some a = some x := ha.symm.trans hx
      cases e2
      exact hF.2 16 (by decide) (by decide)
    · rw [(blk s x hs9 e hx x (by omega) (by omega)).2.1]
  have good : ∀ (s x : Nat) (u : wWo), s < 15 → s ≠ 0 → lSl o P Y s = some x → SG T F I P Y x u → SG T F' I' P' Y' x u := fun s x u hs9 h0 hx hu => by
    refine ⟨hu.1.fr ⟨fun b b0 b1 => ?_, fun l hl b b0 b1 => ?_⟩, hu.2⟩
    · have e := blk s x hs9 h0 hx b b0 b1
      exact ⟨rfl, e.1, e.2.2.2, e.2.1, e.2.2.1⟩
    · have e1 := (d3 s x l hs9 hx hl).2.2.2 0 a (by decide) ha
      have e2 := hF.1 b (by omega)
      refine ⟨rfl, e2.1, fun h5 => e2.2.2.2 (fun l2 hl2 => ?_), e2.2.1⟩
      have e3 := d4 s 0 x a l l2 hs9 (by decide) hx ha hl hl2
      omega
  refine ⟨⟨?_, ?_, ⟨fun s x hs9 hx => ?_, ⟨a, by rw [hPo]; exact ha, hS, hI⟩, ⟨b, by rw [hPo]; exact v4⟩, ?_, ?_, fun i hi => ?_⟩, ?_, z1, z2, z3⟩, by rw [hPo]; exact ha, (own o (by omega)).1, (own (o + 1) (by omega)).2.2.2, fun b b0 b1 => ?_⟩
  · obtain ⟨y1, y2, y3, y4, y5, y6, y7, y8⟩ := hs
    have q : ∀ b : Nat, (o ≤ b ∧ b < o + 2) ∨ (o + 116 ≤ b ∧ b < o + 168) → P' b = P b := fun b hb => (own b hb).2.1
    unfold LgS wScn wSrd wLrd
    unfold wScn at y4
    unfold wSrd at y5
    unfold wLrd at y6
    rw [hPo, q (o + 117) (by omega), q (o + 121) (by omega), q (o + 124) (by omega)]
    refine ⟨y1, y2, y3, y4, y5, y6, y7, ?_⟩
    exact y8.fr (fun b b0 b1 => ⟨q b (by omega), (own b (by omega)).2.2.1⟩)
  · refine ⟨fun s x hs9 hx => d1 s x hs9 ((sl s) ▸ hx), fun s s' x x' h1 h2 h3 hx hx' => d2 s s' x x' h1 h2 h3 ((sl s) ▸ hx) ((sl s') ▸ hx'), fun s x l hs9 hx hl => ?_, fun s s' x x' l l' h1 h2 hx hx' hl hl' => ?_⟩
    · rw [sl s] at hx
      rw [P16 s x hs9 hx] at hl
      obtain ⟨e1, e2, e3, e4⟩ := d3 s x l hs9 hx hl
      exact ⟨e1, e2, e3, fun s' x' hs' hx' => e4 s' x' hs' ((sl s') ▸ hx')⟩
    · rw [sl s] at hx
      rw [sl s'] at hx'
      rw [P16 s x h1 hx] at hl
      rw [P16 s' x' h2 hx'] at hl'
      exact d4 s s' x x' l l' h1 h2 hx hx' hl hl'
  · rw [sl s] at hx
    by_cases e : s = 0
    · subst e
      have e2 : some a = some x := ha.symm.trans hx
      cases e2
      exact hS.sw
    · exact (v1 s x hs9 hx).fr (fun b b0 b1 => by have e3 := blk s x hs9 e hx b b0 b1; exact ⟨rfl, e3.1, e3.2.1, e3.2.2.1⟩)
  · rcases v5 with ⟨e1, e2⟩ | ⟨k, x, e1, e2, e3⟩
    · exact Or.inl ⟨e1, by rw [hPo]; exact e2⟩
    · exact Or.inr ⟨k, x, e1, by rw [hPo]; exact e2, good 2 x k (by decide) (by decide) e2 e3⟩
  · rw [(own o (by omega)).1]; exact v6
  · obtain ⟨x, e1, e2⟩ := v7 i hi
    have h7 := v6.2.2
    refine ⟨x, by rw [hYo, (own o (by omega)).1]; exact e1, good (((F o 7 + (i : Int)) % 12).toNat + 3) x _ (by omega) (by omega) ?_ e2⟩
    unfold lSl
    rw [if_neg (by omega), if_neg (by omega), if_neg (by omega), show ((((F o 7 + (i : Int)) % 12).toNat + 3 : Nat) : Int) - 3 = (F o 7 + (i : Int)) % 12 by omega]
    exact e1
  · exact hg.fr (own (o + 121 + 1) (by omega)).2.2.2 (own (o + 121 + 2) (by omega)).2.2.2
  · have e := out b (by omega) (fun l hl => by have := lw l hl; omega)
    exact ⟨rfl, e.1, e.2.2.2, e.2.1, e.2.2.1⟩
end LCS

