/-! calls of the constructors of stores and choices -/
section NC
variable {E : xE} {M M' : xM} {X : xX} {pc : Nat} {L : List (Option Value)} {st : List Value} {z : Nat} {T T' : Nat → Nat × Int} {F F' : Nat → Nat → Int} {I I' : Nat → Int → Int} {P P' : Nat → Nat → Option Nat} {Y Y' : Nat → Int → Option Nat} {c n d0 mc ms a : Nat}
theorem xg_callIs {h : xH} {b i k' mc' ms' : Nat} (q : Nat) (As rest : List Value) (hM : xMi M') (hl : Cond.methodLink M.1.cls i M'.1 ∈ xT) (d1 : decode M.2.1 pc = .ok (.invokespecial i, 3)) (hq : pc + 3 = q)
    (hn : As.length = M'.2.2.2.2) (hst : st = As.reverse ++ .ref b :: rest) (hsum : (rest.map fun v => v.category).sum ≤ 8) (hd : k' + 1 ≤ d0) (hc : c + mc' ≤ mc ∧ n + ms' ≤ ms) (ct : Ct E k' M' mc' ms' (.ref b :: As) h (xNew b T F I P Y))
    (kk : ∀ (T' : Nat → Nat × Int) (F' : Nat → Nat → Int) (I' : Nat → Int → Int) (P' : Nat → Nat → Option Nat) (Y' : Nat → Int → Option Nat), SNew T' F' I' P' Y' b → Lo b T F I P Y T' F' I' P' Y' → xG E M (xR d0 mc ms) X q L rest (b + 57, T', F', I', P', Y') (c + mc') (n + ms')) : xG E M (xR d0 mc ms) X pc L st h c n :=
  xg_callI0 q hM hl d1 hq hn hst hsum hd hc ct (fun v h' e => by obtain ⟨rfl, T', F', I', P', Y', rfl, h1, h2⟩ := e; exact kk T' F' I' P' Y' h1 h2)
theorem xg_callIc {h : xH} {b i k' mc' ms' : Nat} (q : Nat) (As rest : List Value) (hM : xMi M') (hl : Cond.methodLink M.1.cls i M'.1 ∈ xT) (d1 : decode M.2.1 pc = .ok (.invokespecial i, 3)) (hq : pc + 3 = q)
    (hn : As.length = M'.2.2.2.2) (hst : st = As.reverse ++ .ref b :: rest) (hsum : (rest.map fun v => v.category).sum ≤ 8) (hd : k' + 1 ≤ d0) (hc : c + mc' ≤ mc ∧ n + ms' ≤ ms) (ct : Ct E k' M' mc' ms' (.ref b :: As) h (xNewC b T F I P Y))
    (kk : ∀ (T' : Nat → Nat × Int) (I' : Nat → Int → Int) (P' : Nat → Nat → Option Nat) (Y' : Nat → Int → Option Nat), wCho T' P' Y' b → Lo b T F I P Y T' F I' P' Y' → xG E M (xR d0 mc ms) X q L rest (b + 39, T', F, I', P', Y') (c + mc') (n + ms')) : xG E M (xR d0 mc ms) X pc L st h c n :=
  xg_callI0 q hM hl d1 hq hn hst hsum hd hc ct (fun v h' e => by obtain ⟨rfl, T', I', P', Y', rfl, h1, h2⟩ := e; exact kk T' I' P' Y' h1 h2)
theorem SNew.mv (h : SNew T F I P Y a) (he : ∀ b : Nat, a ≤ b → b < a + 57 → T' b = T b ∧ F' b = F b ∧ I' b = I b ∧ P' b = P b ∧ Y' b = Y b) : SNew T' F' I' P' Y' a := by
  obtain ⟨⟨w1, -, w2, w3, w4, w5, w6⟩, ⟨p1, p2, p3, -, -⟩, hR, hF, p16, h1, h2⟩ := h
  have eT : ∀ b : Nat, a ≤ b → b < a + 57 → T' b = T b := fun b b0 b1 => (he b b0 b1).1
  have eF : ∀ b : Nat, a ≤ b → b < a + 57 → F' b = F b := fun b b0 b1 => (he b b0 b1).2.1
  have eI : ∀ b : Nat, a ≤ b → b < a + 57 → I' b = I b := fun b b0 b1 => (he b b0 b1).2.2.1
  have eP : ∀ b : Nat, a ≤ b → b < a + 57 → P' b = P b := fun b b0 b1 => (he b b0 b1).2.2.2.1
  have eY : ∀ b : Nat, a ≤ b → b < a + 57 → Y' b = Y b := fun b b0 b1 => (he b b0 b1).2.2.2.2
  unfold wLev at w3
  unfold wJou at w5
  refine SNew.of (hR.mv fun b b0 b1 => ⟨eT b (by omega) (by omega), eF b (by omega) (by omega), eI b (by omega) (by omega), eP b (by omega) (by omega)⟩) ?_ ?_ ?_ ?_ ?_ ?_ ?_ ?_ ?_ ?_ ?_ ?_ ?_
  · simp (disch := omega) only [eT, eP]; exact w1
  · simp (disch := omega) only [eT, eP]; exact w2
  · unfold wLev; simp (disch := omega) only [eT, eP]; exact w3
  · simp (disch := omega) only [eT, eP]; exact w4
  · unfold wJou; simp (disch := omega) only [eT, eP]; exact w5
  · simp (disch := omega) only [eT, eP]; exact w6
  · simp (disch := omega) only [eY]; exact p1
  · simp (disch := omega) only [eP]; exact p2
  · simp (disch := omega) only [eP]; exact p3
  · simp (disch := omega) only [eF]; exact hF
  · simp (disch := omega) only [eP]; exact p16
  · simp (disch := omega) only [eF]; exact h1
  · simp (disch := omega) only [eI]; exact h2
/-- the scan at a -/
def wScn (T : Nat → Nat × Int) (P : Nat → Nat → Option Nat) (a : Nat) : Prop := (T a).1 = 8 ∧ (P a 0 = some (a + 1) ∧ (T (a + 1)).1 = 14 ∧ (T (a + 1)).2 = 401) ∧ (P a 1 = some (a + 2) ∧ (T (a + 2)).1 = 14 ∧ (T (a + 2)).2 = 401) ∧ P a 2 = some (a + 3) ∧ (T (a + 3)).1 = 14 ∧ (T (a + 3)).2 = 401
/-- the readers at a, of the scan at s -/
def wSrd (T : Nat → Nat × Int) (P : Nat → Nat → Option Nat) (a s : Nat) : Prop := (T a).1 = 10 ∧ P a 0 = some s ∧ (P a 1 = some (a + 1) ∧ (T (a + 1)).1 = 14 ∧ (T (a + 1)).2 = 20) ∧ P a 2 = some (a + 2) ∧ (T (a + 2)).1 = 14 ∧ (T (a + 2)).2 = 20
def wLrd (T : Nat → Nat × Int) (P : Nat → Nat → Option Nat) (a s : Nat) : Prop := (T a).1 = 5 ∧ P a 0 = some s ∧ (P a 1 = some (a + 1) ∧ (T (a + 1)).1 = 14 ∧ (T (a + 1)).2 = 12) ∧ (P a 2 = some (a + 2) ∧ (T (a + 2)).1 = 14 ∧ (T (a + 2)).2 = 12) ∧ (P a 3 = some (a + 3) ∧ (T (a + 3)).1 = 14 ∧ (T (a + 3)).2 = 13) ∧ P a 4 = some (a + 4) ∧ (T (a + 4)).1 = 14 ∧ (T (a + 4)).2 = 400
end NC

