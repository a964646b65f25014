/-! a store copied -/
def fCpy (F : Nat → Nat → Int) (x y : Nat) (lo hi : Nat) : Nat → Nat → Int := fun b j => if b = x ∧ lo ≤ j ∧ j ≤ hi then F y j else F b j
section CPY
variable {T : Nat → Nat × Int} {F F' : Nat → Nat → Int} {I I' : Nat → Int → Int} {P P' : Nat → Nat → Option Nat} {Y Y' : Nat → Int → Option Nat} {a b x y : Nat} {π ρ : Nat → Nat} {w w' : Int → Int}
theorem fCpy_na {lo hi c : Nat} (h : c ≠ x) : fCpy F x y lo hi c = F c := by funext j; exact if_neg (fun q => h q.1)
theorem fCpy_at {lo hi j : Nat} (h : lo ≤ j ∧ j ≤ hi) : fCpy F x y lo hi x j = F y j := if_pos ⟨rfl, h⟩
theorem fCpy_3 (h : y ≠ x) : upF (upF (upF F x 2 (F y 2)) x 3 (F y 3)) x 4 (F y 4) = fCpy F x y 2 4 := by
  funext c j; unfold upF fCpy
  by_cases hc : c = x
  · subst hc
    by_cases h4 : j = 4
    · subst h4; simp
    by_cases h3 : j = 3
    · subst h3; simp
    by_cases h2 : j = 2
    · subst h2; simp
    rw [if_neg (fun q => h4 q.2), if_neg (fun q => h3 q.2), if_neg (fun q => h2 q.2), if_neg (by omega)]
  · simp [hc]
theorem fCpy_45 (h : y ≠ x) : upF (upF F x 4 (F y 4)) x 5 (F y 5) = fCpy F x y 4 5 := by
  funext c j; unfold upF fCpy
  by_cases hc : c = x
  · subst hc
    by_cases h4 : j = 5
    · subst h4; simp
    by_cases h3 : j = 4
    · subst h3; simp
    rw [if_neg (fun q => h4 q.2), if_neg (fun q => h3 q.2), if_neg (by omega)]
  · simp [hc]
theorem fCpy_4 (h : y ≠ x) : upF (upF (upF (upF F x 0 (F y 0)) x 1 (F y 1)) x 2 (F y 2)) x 3 (F y 3) = fCpy F x y 0 3 := by
  funext c j; unfold upF fCpy
  by_cases hc : c = x
  · subst hc
    by_cases h4 : j = 3
    · subst h4; simp
    by_cases h3 : j = 2
    · subst h3; simp
    by_cases h2 : j = 1
    · subst h2; simp
    by_cases h1 : j = 0
    · subst h1; simp
    rw [if_neg (fun q => h4 q.2), if_neg (fun q => h3 q.2), if_neg (fun q => h2 q.2), if_neg (fun q => h1 q.2), if_neg (by omega)]
  · simp [hc]
theorem fCpy_6 (h : y ≠ x) : upF (upF (upF (upF (upF (upF F x 0 (F y 0)) x 1 (F y 1)) x 2 (F y 2)) x 3 (F y 3)) x 4 (F y 4)) x 5 (F y 5) = fCpy F x y 0 5 := by
  funext c j; unfold upF fCpy
  by_cases hc : c = x
  · subst hc
    by_cases h6 : j = 5
    · subst h6; simp
    by_cases h5 : j = 4
    · subst h5; simp
    by_cases h4 : j = 3
    · subst h4; simp
    by_cases h3 : j = 2
    · subst h3; simp
    by_cases h2 : j = 1
    · subst h2; simp
    by_cases h1 : j = 0
    · subst h1; simp
    rw [if_neg (fun q => h6 q.2), if_neg (fun q => h5 q.2), if_neg (fun q => h4 q.2), if_neg (fun q => h3 q.2), if_neg (fun q => h2 q.2), if_neg (fun q => h1 q.2), if_neg (by omega)]
  · simp [hc]
theorem rG.copy {u g : Int → Int} (h : rG F I y u g) : rG (fCpy F x y 2 4) (iCpy I x y 2 60) x u g := by
  refine ⟨by rw [fCpy_at (by omega)]; exact h.1, fun k k0 k1 => ?_⟩
  rw [iCpy_at I x y 2 1 60 (by omega), iCpy_at I x y 2 2 60 (by omega), wCq_in _ _ _ ⟨k0, k1⟩, wCq_in _ _ _ ⟨k0, k1⟩]
  exact h.2 k k0 k1
theorem rRun.copy {r : Int} (h : rRun F I y w r) : rRun (fCpy F x y 2 4) (iCpy I x y 2 60) x w r := ⟨by rw [fCpy_at (by omega)]; exact h.1, by rw [fCpy_at (by omega)]; exact h.2.1, h.2.2.copy⟩
theorem rTab.copy (h : rTab F I y w) : rTab (fCpy F x y 2 4) (iCpy I x y 2 60) x w := ⟨by rw [fCpy_at (by omega)]; exact h.1, by rw [fCpy_at (by omega)]; exact h.2.1, h.2.2.copy⟩
theorem rOut.copy (h : rOut F I y w) : rOut (fCpy F x y 2 4) (iCpy I x y 2 60) x w := ⟨by rw [fCpy_at (by omega)]; exact h.1, h.2.copy⟩
/-- a store's frame alone: what it holds is not told -/
def SW (T : Nat → Nat × Int) (F : Nat → Nat → Int) (P : Nat → Nat → Option Nat) (Y : Nat → Int → Option Nat) (a : Nat) : Prop := wSt T P a ∧ (∃ π : Nat → Nat, wPm P Y a π) ∧ 0 ≤ F a 1 ∧ F a 1 ≤ 12
theorem SR.sw (h : SR T F I P Y a w) : SW T F P Y a := by
  obtain ⟨g1, -, ⟨π, g3⟩, -⟩ := h
  have hN := g1.1.2.1
  exact ⟨g3.1.1, ⟨π, g3.1.2⟩, by rw [g3.2.1.1.1]; exact hN.1, by rw [g3.2.1.1.1]; exact hN.2⟩
def xC (a b : Nat) (z : Nat) (T : Nat → Nat × Int) (F : Nat → Nat → Int) (I : Nat → Int → Int) (P : Nat → Nat → Option Nat) (Y : Nat → Int → Option Nat) (w : Int → Int) : Option Value → xH → Prop := fun v h' => v = none ∧ ∃ (F' : Nat → Nat → Int) (I' : Nat → Int → Int) (P' : Nat → Nat → Option Nat), h' = (z, T, F', I', P', Y) ∧ SR T F' I' P' Y a w ∧ (∀ x : Nat, x < a ∨ a + 57 ≤ x → F' x = F x ∧ I' x = I x ∧ P' x = P x) ∧ P' a 16 = P b 16
theorem wSt.mvQ (h : wSt T P a) (h1 : ∀ c : Nat, c ≠ a → P' c = P c) (h2 : ∀ k : Nat, k ≠ 16 → P' a k = P a k) : wSt T P' a := by
  obtain ⟨⟨s0, s1, s2, s3⟩, sR, ⟨s4, s5⟩, ⟨s6, sLv⟩, ⟨s7, s8⟩, ⟨s9, sJo⟩, s10, s11, s12⟩ := h
  refine ⟨⟨s0, by rw [h2 0 (by omega)]; exact s1, s2, s3⟩, fun i hi => ?_, ⟨by rw [h2 4 (by omega)]; exact s4, s5⟩, ⟨by rw [h2 5 (by omega)]; exact s6, ?_⟩, ⟨by rw [h2 6 (by omega)]; exact s7, s8⟩, ⟨by rw [h2 7 (by omega)]; exact s9, ?_⟩, by rw [h2 8 (by omega)]; exact s10, s11, s12⟩
  · have := sR i hi
    unfold wRow at this ⊢
    rw [h1 _ (by omega)]; exact this
  · unfold wLev at sLv ⊢
    rw [h1 _ (by omega)]; exact sLv
  · unfold wJou at sJo ⊢
    rw [h1 _ (by omega)]; exact sJo
/-- what a copied store holds -/
theorem SR.copied (hw : wSt T P a) (hp : wPm P Y a π) (hS : SR T F I P Y b w) (hd : ∀ l, P b 16 = some l → l + 6 ≤ a ∨ a + 57 ≤ l) (hP : ∀ c : Nat, c ≠ a → P' c = P c) (hP2 : ∀ k : Nat, k ≠ 16 → P' a k = P a k) (hP3 : P' a 16 = P b 16)
    (hout : ∀ c : Nat, c < a ∨ a + 57 ≤ c → F' c = F c ∧ I' c = I c)
    (f1 : F' a 1 = F b 1) (f9 : ∀ k : Nat, 9 ≤ k → k ≤ 15 → F' a k = F b k) (f44 : ∀ k : Nat, k ≤ 3 → F' (a + 44) k = F (b + 44) k) (f45 : ∀ k : Nat, 4 ≤ k → k ≤ 5 → F' (a + 45) k = F (b + 45) k) (f50 : ∀ k : Nat, k ≤ 5 → F' (a + 50) k = F (b + 50) k) (f51 : ∀ k : Nat, 4 ≤ k → k ≤ 5 → F' (a + 51) k = F (b + 51) k)
    (i45 : ∀ c : Nat, c < 4 → ∀ j : Int, 0 ≤ j → j < 4 → I' (a + 46 + c) j = I (b + 46 + c) j) (i51 : ∀ c : Nat, c < 4 → ∀ j : Int, 0 ≤ j → j < 60 → I' (a + 52 + c) j = I (b + 52 + c) j)
    (gr : ∀ r : Nat, (r : Int) < w 0 → rRun F' I' (a + 2 + 3 * π r) w r) (gt : rTab F' I' (a + 2 + 3 * π 12) w) (go : rOut F' I' (a + 2 + 3 * π 13) w) : SR T F' I' P' Y a w := by
  obtain ⟨g1, g2, ⟨ρ, hB⟩, g4, g5⟩ := hS
  obtain ⟨-, ⟨⟨c1, c9, c10, c11, c12, c13, c14, c15⟩, ⟨t0, t1, t2, t3, t4, t5⟩, j0, j1, j2⟩, -, -, -, q1, q2, q3⟩ := hB
  have hl : rLw T F' I' P' a w := by
    rcases g2 with ⟨h1, h2⟩ | ⟨l, h1, h2, h3⟩
    · exact Or.inl ⟨hP3.trans h1, h2⟩
    · have hdl := hd l h1
      refine Or.inr ⟨l, hP3.trans h1, ?_, hdl⟩
      have h4 : rLaw T F I P' l w := by
        unfold rLaw at h2 ⊢
        rw [hP l (by omega)]; exact h2
      exact h4.heap (hout l (by omega)).1 (hout _ (by omega)).2 (hout _ (by omega)).2 (hout _ (by omega)).2 (hout _ (by omega)).2
  refine ⟨g1, hl, ⟨π, ⟨hw.mvQ hP hP2, hp.1, (hP2 2 (by omega)).trans hp.2.1, (hP2 3 (by omega)).trans hp.2.2.1, hp.2.2.2⟩, ⟨⟨f1.trans c1, (f9 9 (by omega) (by omega)).trans c9, (f9 10 (by omega) (by omega)).trans c10, (f9 11 (by omega) (by omega)).trans c11, (f9 12 (by omega) (by omega)).trans c12, (f9 13 (by omega) (by omega)).trans c13, (f9 14 (by omega) (by omega)).trans c14, (f9 15 (by omega) (by omega)).trans c15⟩, ⟨(f50 0 (by omega)).trans t0, (f50 1 (by omega)).trans t1, (f50 2 (by omega)).trans t2, (f50 3 (by omega)).trans t3, (f50 4 (by omega)).trans t4, (f50 5 (by omega)).trans t5⟩, (f44 0 (by omega)).trans j0, (f44 1 (by omega)).trans j1, (f44 2 (by omega)).trans j2⟩, gr, gt, go, (f51 5 (by omega) (by omega)).trans q1, by rw [f51 4 (by omega) (by omega)]; exact q2, fun k c hk hc => ?_⟩, ⟨fun l hl => ⟨?_, ?_, ?_, ?_⟩, (f45 4 (by omega) (by omega)).trans g4.2.1, (f45 5 (by omega) (by omega)).trans g4.2.2⟩, (f44 3 (by omega)).trans g5⟩
  · rw [f51 4 (by omega) (by omega), f51 5 (by omega) (by omega), i51 c hc _ (Int.emod_nonneg _ (by omega)) (Int.emod_lt_of_pos _ (by omega))]
    exact q3 k c hk hc
  · exact (i45 0 (by omega) _ (by omega) (by omega)).trans (g4.1 l hl).1
  · exact (i45 1 (by omega) _ (by omega) (by omega)).trans (g4.1 l hl).2.1
  · exact (i45 2 (by omega) _ (by omega) (by omega)).trans (g4.1 l hl).2.2.1
  · exact (i45 3 (by omega) _ (by omega) (by omega)).trans (g4.1 l hl).2.2.2
end CPY

