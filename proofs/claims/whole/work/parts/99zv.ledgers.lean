/-! what a ledger stands for -/
abbrev wWo : Type := Int → Int
/-- the fifteen places of a ledger that may hold a store: live, spare, kept, twelve undos -/
def lSl (o : Nat) (P : Nat → Nat → Option Nat) (Y : Nat → Int → Option Nat) (s : Nat) : Option Nat := if s = 0 then P o 3 else if s = 1 then P o 4 else if s = 2 then P o 5 else Y (o + 116) ((s : Int) - 3)
/-- what of a ledger never changes -/
def LgS (T : Nat → Nat × Int) (P : Nat → Nat → Option Nat) (Y : Nat → Int → Option Nat) (o : Nat) : Prop := (T o).1 = 12 ∧ (P o 0 = some (o + 1) ∧ (T (o + 1)).1 = 14 ∧ (T (o + 1)).2 = 400) ∧ (P o 6 = some (o + 116) ∧ (T (o + 116)).1 = 18 ∧ (T (o + 116)).2 = 12) ∧ (P o 9 = some (o + 117) ∧ wScn T P (o + 117)) ∧ (P o 10 = some (o + 121) ∧ wSrd T P (o + 121) (o + 117)) ∧ (P o 11 = some (o + 124) ∧ wLrd T P (o + 124) (o + 117)) ∧ P o 12 = some (o + 129) ∧ wCho T P Y (o + 129)
/-- its stores and laws lie apart, from the model at m too -/
def LD (P : Nat → Nat → Option Nat) (Y : Nat → Int → Option Nat) (o m z : Nat) : Prop :=
  (∀ s x : Nat, s < 15 → lSl o P Y s = some x → ((o + 2 ≤ x ∧ x + 57 ≤ o + 116) ∨ o + 168 ≤ x) ∧ (x + 57 ≤ m ∨ m + 13 ≤ x) ∧ x + 57 ≤ z) ∧
  (∀ s s' x x' : Nat, s < 15 → s' < 15 → s ≠ s' → lSl o P Y s = some x → lSl o P Y s' = some x' → x + 57 ≤ x' ∨ x' + 57 ≤ x) ∧
  (∀ s x l : Nat, s < 15 → lSl o P Y s = some x → P x 16 = some l → o + 168 ≤ l ∧ (l + 6 ≤ m ∨ m + 13 ≤ l) ∧ l + 6 ≤ z ∧ ∀ s' x' : Nat, s' < 15 → lSl o P Y s' = some x' → l + 6 ≤ x' ∨ x' + 57 ≤ l) ∧
  (∀ s s' x x' l l' : Nat, s < 15 → s' < 15 → lSl o P Y s = some x → lSl o P Y s' = some x' → P x 16 = some l → P x' 16 = some l' → l = l' ∨ l + 6 ≤ l' ∨ l' + 6 ≤ l)
/-- the store at x is a good world -/
def SG (T : Nat → Nat × Int) (F : Nat → Nat → Int) (I : Nat → Int → Int) (P : Nat → Nat → Option Nat) (Y : Nat → Int → Option Nat) (x : Nat) (w : wWo) : Prop := SR T F I P Y x w ∧ wI2 w
/-- the ledger at o, with the worlds of its places -/
def LK (T : Nat → Nat × Int) (F : Nat → Nat → Int) (I : Nat → Int → Int) (P : Nat → Nat → Option Nat) (Y : Nat → Int → Option Nat) (o m z : Nat) (ws : Nat → Option wWo) : Prop :=
  LgS T P Y o ∧ LD P Y o m z ∧ (∀ s x : Nat, s < 15 → lSl o P Y s = some x → SW T F P Y x) ∧ (∀ (s : Nat) (u : wWo), s < 15 → ws s = some u → ∃ x : Nat, lSl o P Y s = some x ∧ SG T F I P Y x u) ∧ pRg I (o + 121) ∧ (o + 168 ≤ z ∧ m + 13 ≤ z ∧ (m + 13 ≤ o ∨ o + 168 ≤ m))
/-- another world at one place -/
def wsU (ws : Nat → Option wWo) (s : Nat) (u : Option wWo) : Nat → Option wWo := fun j => if j = s then u else ws j
/-- nothing of the model differs -/
def LF (m : Nat) (T : Nat → Nat × Int) (F : Nat → Nat → Int) (I : Nat → Int → Int) (P : Nat → Nat → Option Nat) (Y : Nat → Int → Option Nat) (T' : Nat → Nat × Int) (F' : Nat → Nat → Int) (I' : Nat → Int → Int) (P' : Nat → Nat → Option Nat) (Y' : Nat → Int → Option Nat) : Prop := ∀ b : Nat, m ≤ b → b < m + 13 → T' b = T b ∧ F' b = F b ∧ I' b = I b ∧ P' b = P b ∧ Y' b = Y b
section LCS
variable {T T' : Nat → Nat × Int} {F F' : Nat → Nat → Int} {I I' : Nat → Int → Int} {P P' : Nat → Nat → Option Nat} {Y Y' : Nat → Int → Option Nat} {o m z a x : Nat} {u u' : wWo} {ws : Nat → Option wWo} {s0 : Nat}
theorem LF.rf : LF m T F I P Y T F I P Y := fun _ _ _ => ⟨rfl, rfl, rfl, rfl, rfl⟩
theorem SW.fr (h : SW T F P Y x) (hT : ∀ b : Nat, x ≤ b → b < x + 57 → T' b = T b ∧ F' b = F b ∧ P' b = P b ∧ Y' b = Y b) : SW T' F' P' Y' x := by
  obtain ⟨h1, ⟨π, h2⟩, h3, h4⟩ := h
  refine ⟨h1.fr (fun b b0 b1 => ⟨(hT b b0 b1).1, (hT b b0 b1).2.2.1⟩), ⟨π, h2.fr (hT x (by omega) (by omega)).2.2.1 (hT (x + 1) (by omega) (by omega)).2.2.2⟩, ?_, ?_⟩
  · rw [(hT x (by omega) (by omega)).2.1]; exact h3
  · rw [(hT x (by omega) (by omega)).2.1]; exact h4
theorem wCho.fr {c : Nat} (h : wCho T P Y c) (q : ∀ b : Nat, c ≤ b → b < c + 39 → P' b = P b ∧ Y' b = Y b) : wCho T P' Y' c := by
  unfold wCho wMat at h ⊢
  rw [(q c (by omega) (by omega)).1, (q (c + 1) (by omega) (by omega)).2, (q (c + 14) (by omega) (by omega)).2, (q (c + 28) (by omega) (by omega)).2]
  exact h
theorem lSl.live (h : P o 3 = some a) : lSl o P Y 0 = some a := h
theorem lSl.fr (hP : P' o = P o) (hY : Y' (o + 116) = Y (o + 116)) (s : Nat) : lSl o P' Y' s = lSl o P Y s := by unfold lSl; rw [hP, hY]
/-- the store of one place acts -/
theorem LK.act (h : LK T F I P Y o m z ws) (h0 : s0 < 15) (ha : lSl o P Y s0 = some a) (hS : SR T F' I' P' Y' a u') (hI : wI2 u') (hF : SF a F I P Y F' I' P' Y') : LK T F' I' P' Y' o m z (wsU ws s0 (some u')) ∧ P' o = P o ∧ F' o = F o ∧ I' (o + 1) = I (o + 1) ∧ Y' (o + 116) = Y (o + 116) ∧ LF m T F I P Y T F' I' P' Y' := by
  obtain ⟨hs, hd, v1, v2, hg, z1, z2, z3⟩ := h
  obtain ⟨d1, d2, d3, d4⟩ := id hd
  have la := d1 s0 a h0 ha
  have lw : ∀ l, P a 16 = some l → _ := fun l hl => d3 s0 a l h0 ha hl
  have out : ∀ b : Nat, (b < a ∨ a + 57 ≤ b) → (∀ l, P a 16 = some l → b ≠ l + 5) → F' b = F b ∧ P' b = P b ∧ Y' b = Y b ∧ I' b = I b := fun b hb hl => ⟨(hF.1 b hb).1, (hF.1 b hb).2.1, (hF.1 b hb).2.2.1, (hF.1 b hb).2.2.2 hl⟩
  have own : ∀ b : Nat, (o ≤ b ∧ b < o + 2) ∨ (o + 116 ≤ b ∧ b < o + 168) → F' b = F b ∧ P' b = P b ∧ Y' b = Y b ∧ I' b = I b := fun b hb => out b (by omega) (fun l hl => by have := lw l hl; omega)
  have hPo : P' o = P o := (own o (by omega)).2.1
  have hYo : Y' (o + 116) = Y (o + 116) := (own (o + 116) (by omega)).2.2.1
  have sl : ∀ s : Nat, lSl o P' Y' s = lSl o P Y s := lSl.fr hPo hYo
  have blk : ∀ s x : Nat, s < 15 → s ≠ s0 → lSl o P Y s = some x → ∀ b : Nat, x ≤ b → b < x + 57 → F' b = F b ∧ P' b = P b ∧ Y' b = Y b ∧ I' b = I b := fun s x hs9 hn hx b b0 b1 => by
    have e1 := d2 s s0 x a hs9 h0 hn hx ha
    exact out b (by omega) (fun l hl => by have := (lw l hl).2.2.2 s x hs9 hx; omega)
  have P16 : ∀ s x : Nat, s < 15 → lSl o P Y s = some x → P' x 16 = P x 16 := fun s x hs9 hx => by
    by_cases e : s = s0
    · subst e
      have e2 : some a = some x := ha.symm.trans hx
      cases e2
      exact hF.2 16 (by decide) (by decide)
    · rw [(blk s x hs9 e hx x (by omega) (by omega)).2.1]
  have good : ∀ (s x : Nat) (u : wWo), s < 15 → s ≠ s0 → lSl o P Y s = some x → SG T F I P Y x u → SG T F' I' P' Y' x u := fun s x u hs9 hn hx hu => by
    refine ⟨hu.1.fr ⟨fun b b0 b1 => ?_, fun l hl b b0 b1 => ?_⟩, hu.2⟩
    · have e := blk s x hs9 hn hx b b0 b1
      exact ⟨rfl, e.1, e.2.2.2, e.2.1, e.2.2.1⟩
    · have e1 := (d3 s x l hs9 hx hl).2.2.2 s0 a h0 ha
      have e2 := hF.1 b (by omega)
      refine ⟨rfl, e2.1, fun h5 => e2.2.2.2 (fun l2 hl2 => ?_), e2.2.1⟩
      have e3 := d4 s s0 x a l l2 hs9 h0 hx ha hl hl2
      omega
  refine ⟨⟨?_, ?_, fun s x hs9 hx => ?_, fun s u hs9 hu => ?_, ?_, z1, z2, z3⟩, hPo, (own o (by omega)).1, (own (o + 1) (by omega)).2.2.2, hYo, fun b b0 b1 => ?_⟩
  · obtain ⟨y1, y2, y3, y4, y5, y6, y7, y8⟩ := hs
    have q : ∀ b : Nat, (o ≤ b ∧ b < o + 2) ∨ (o + 116 ≤ b ∧ b < o + 168) → P' b = P b := fun b hb => (own b hb).2.1
    unfold LgS wScn wSrd wLrd
    unfold wScn at y4
    unfold wSrd at y5
    unfold wLrd at y6
    rw [hPo, q (o + 117) (by omega), q (o + 121) (by omega), q (o + 124) (by omega)]
    refine ⟨y1, y2, y3, y4, y5, y6, y7, ?_⟩
    exact y8.fr (fun b b0 b1 => ⟨q b (by omega), (own b (by omega)).2.2.1⟩)
  · refine ⟨fun s x hs9 hx => d1 s x hs9 ((sl s) ▸ hx), fun s s' x x' h1 h2 h3 hx hx' => d2 s s' x x' h1 h2 h3 ((sl s) ▸ hx) ((sl s') ▸ hx'), fun s x l hs9 hx hl => ?_, fun s s' x x' l l' h1 h2 hx hx' hl hl' => ?_⟩
    · rw [sl s] at hx
      rw [P16 s x hs9 hx] at hl
      obtain ⟨e1, e2, e3, e4⟩ := d3 s x l hs9 hx hl
      exact ⟨e1, e2, e3, fun s' x' hs' hx' => e4 s' x' hs' ((sl s') ▸ hx')⟩
    · rw [sl s] at hx
      rw [sl s'] at hx'
      rw [P16 s x h1 hx] at hl
      rw [P16 s' x' h2 hx'] at hl'
      exact d4 s s' x x' l l' h1 h2 hx hx' hl hl'
  · rw [sl s] at hx
    by_cases e : s = s0
    · subst e
      have e2 : some a = some x := ha.symm.trans hx
      cases e2
      exact hS.sw
    · exact (v1 s x hs9 hx).fr (fun b b0 b1 => by have e3 := blk s x hs9 e hx b b0 b1; exact ⟨rfl, e3.1, e3.2.1, e3.2.2.1⟩)
  · unfold wsU at hu
    by_cases e : s = s0
    · rw [if_pos e] at hu
      cases hu
      exact ⟨a, by rw [sl s, e]; exact ha, hS, hI⟩
    · rw [if_neg e] at hu
      obtain ⟨x, e1, e2⟩ := v2 s u hs9 hu
      exact ⟨x, (sl s).trans e1, good s x u hs9 e e1 e2⟩
  · exact hg.fr (own (o + 121 + 1) (by omega)).2.2.2 (own (o + 121 + 2) (by omega)).2.2.2
  · have e := out b (by omega) (fun l hl => by have := lw l hl; omega)
    exact ⟨rfl, e.1, e.2.2.2, e.2.1, e.2.2.1⟩
/-- one place's store is copied to another's -/
theorem LK.copy {s1 b : Nat} (h : LK T F I P Y o m z ws) (h0 : s0 < 15) (h1 : s1 < 15) (h01 : s0 ≠ s1) (ha : lSl o P Y s0 = some a) (hb : lSl o P Y s1 = some b) (hu : ws s1 = some u) (hS : SR T F' I' P' Y a u) (hI : wI2 u) (hF : ∀ x : Nat, x < a ∨ a + 57 ≤ x → F' x = F x ∧ I' x = I x ∧ P' x = P x) (h16 : P' a 16 = P b 16) : LK T F' I' P' Y o m z (wsU ws s0 (some u)) ∧ P' o = P o ∧ F' o = F o ∧ I' (o + 1) = I (o + 1) ∧ LF m T F I P Y T F' I' P' Y := by
  obtain ⟨hs, hd, v1, v2, hg, z1, z2, z3⟩ := h
  obtain ⟨d1, d2, d3, d4⟩ := id hd
  have la := d1 s0 a h0 ha
  have own : ∀ b : Nat, (o ≤ b ∧ b < o + 2) ∨ (o + 116 ≤ b ∧ b < o + 168) → F' b = F b ∧ I' b = I b ∧ P' b = P b := fun b hb => hF b (by omega)
  have hPo : P' o = P o := (own o (by omega)).2.2
  have sl : ∀ s : Nat, lSl o P' Y s = lSl o P Y s := lSl.fr hPo rfl
  have blk : ∀ s x : Nat, s < 15 → s ≠ s0 → lSl o P Y s = some x → ∀ b : Nat, x ≤ b → b < x + 57 → F' b = F b ∧ I' b = I b ∧ P' b = P b := fun s x hs9 hn hx b b0 b1 => by
    have e1 := d2 s s0 x a hs9 h0 hn hx ha
    exact hF b (by omega)
  -- whose law a place has now
  have law : ∀ s x l : Nat, s < 15 → lSl o P Y s = some x → P' x 16 = some l → ∃ s' x' : Nat, s' < 15 ∧ lSl o P Y s' = some x' ∧ P x' 16 = some l := fun s x l hs9 hx hl => by
    by_cases e : s = s0
    · subst e
      have e2 : some a = some x := ha.symm.trans hx
      cases e2
      exact ⟨s1, b, h1, hb, h16 ▸ hl⟩
    · exact ⟨s, x, hs9, hx, (blk s x hs9 e hx x (by omega) (by omega)).2.2 ▸ hl⟩
  refine ⟨⟨?_, ?_, fun s x hs9 hx => ?_, fun s u2 hs9 hu2 => ?_, ?_, z1, z2, z3⟩, hPo, (own o (by omega)).1, (own (o + 1) (by omega)).2.1, fun b b0 b1 => ?_⟩
  · obtain ⟨y1, y2, y3, y4, y5, y6, y7, y8⟩ := hs
    have q : ∀ b : Nat, (o ≤ b ∧ b < o + 2) ∨ (o + 116 ≤ b ∧ b < o + 168) → P' b = P b := fun b hb => (own b hb).2.2
    unfold LgS wScn wSrd wLrd
    unfold wScn at y4
    unfold wSrd at y5
    unfold wLrd at y6
    rw [hPo, q (o + 117) (by omega), q (o + 121) (by omega), q (o + 124) (by omega)]
    refine ⟨y1, y2, y3, y4, y5, y6, y7, ?_⟩
    exact y8.fr (fun b b0 b1 => ⟨q b (by omega), rfl⟩)
  · refine ⟨fun s x hs9 hx => d1 s x hs9 ((sl s) ▸ hx), fun s s' x x' q1 q2 q3 hx hx' => d2 s s' x x' q1 q2 q3 ((sl s) ▸ hx) ((sl s') ▸ hx'), fun s x l hs9 hx hl => ?_, fun s s' x x' l l' q1 q2 hx hx' hl hl' => ?_⟩
    · rw [sl s] at hx
      obtain ⟨s2, x2, p1, p2, p3⟩ := law s x l hs9 hx hl
      obtain ⟨e1, e2, e3, e4⟩ := d3 s2 x2 l p1 p2 p3
      exact ⟨e1, e2, e3, fun s' x' hs' hx' => e4 s' x' hs' ((sl s') ▸ hx')⟩
    · rw [sl s] at hx
      rw [sl s'] at hx'
      obtain ⟨s2, x2, p1, p2, p3⟩ := law s x l q1 hx hl
      obtain ⟨s3, x3, p4, p5, p6⟩ := law s' x' l' q2 hx' hl'
      exact d4 s2 s3 x2 x3 l l' p1 p4 p2 p5 p3 p6
  · rw [sl s] at hx
    by_cases e : s = s0
    · subst e
      have e2 : some a = some x := ha.symm.trans hx
      cases e2
      exact hS.sw
    · exact (v1 s x hs9 hx).fr (fun b b0 b1 => by have e3 := blk s x hs9 e hx b b0 b1; exact ⟨rfl, e3.1, e3.2.2, rfl⟩)
  · unfold wsU at hu2
    by_cases e : s = s0
    · rw [if_pos e] at hu2
      cases hu2
      exact ⟨a, by rw [sl s, e]; exact ha, hS, hI⟩
    · rw [if_neg e] at hu2
      obtain ⟨x, e1, e2⟩ := v2 s u2 hs9 hu2
      refine ⟨x, (sl s).trans e1, e2.1.fr ⟨fun b b0 b1 => ?_, fun l hl b b0 b1 => ?_⟩, e2.2⟩
      · have e3 := blk s x hs9 e e1 b b0 b1
        exact ⟨rfl, e3.1, e3.2.1, e3.2.2, rfl⟩
      · have e4 := (d3 s x l hs9 e1 hl).2.2.2 s0 a h0 ha
        have e3 := hF b (by omega)
        exact ⟨rfl, e3.1, fun _ => e3.2.1, e3.2.2⟩
  · exact hg.fr (own (o + 121 + 1) (by omega)).2.1 (own (o + 121 + 2) (by omega)).2.1
  · have e := hF b (by omega)
    exact ⟨rfl, e.1, e.2.1, e.2.2, rfl⟩
end LCS

