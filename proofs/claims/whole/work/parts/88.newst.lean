/-! a new store -/
section NEWST
variable {T T' : Nat → Nat × Int} {F F' : Nat → Nat → Int} {I I' : Nat → Int → Int} {P P' : Nat → Nat → Option Nat} {Y Y' : Nat → Int → Option Nat} {a k : Nat}
/-- the first k rows of the pool are new -/
def NR (T : Nat → Nat × Int) (F : Nat → Nat → Int) (I : Nat → Int → Int) (P : Nat → Nat → Option Nat) (a k : Nat) : Prop := ∀ i : Nat, i < k → wRow T P (a + 2 + 3 * i) ∧ (∀ j : Nat, F (a + 2 + 3 * i) j = 0) ∧ (∀ j : Int, 0 ≤ j → j < 60 → I (a + 2 + 3 * i + 1) j = -1) ∧ ∀ j : Int, I (a + 2 + 3 * i + 2) j = 0
theorem NR.mv (h : NR T F I P a k) (he : ∀ b : Nat, a + 2 ≤ b → b < a + 2 + 3 * k → T' b = T b ∧ F' b = F b ∧ I' b = I b ∧ P' b = P b) : NR T' F' I' P' a k := by
  intro i hi
  obtain ⟨h1, h2, h3, h4⟩ := h i hi
  obtain ⟨e1, e2, e3, e4⟩ := he (a + 2 + 3 * i) (by omega) (by omega)
  obtain ⟨f1, f2, f3, f4⟩ := he (a + 2 + 3 * i + 1) (by omega) (by omega)
  obtain ⟨g1, g2, g3, g4⟩ := he (a + 2 + 3 * i + 2) (by omega) (by omega)
  refine ⟨?_, fun j => by rw [e2]; exact h2 j, fun j j0 j1 => by rw [f3]; exact h3 j j0 j1, fun j => by rw [g3]; exact h4 j⟩
  unfold wRow at h1 ⊢
  rw [e1, e4, f1, g1]
  exact h1
theorem NR.row {zz : Nat} (h : NR T F I P a k) (hz : zz = a + 2 + 3 * k) : NR (upT (upT (upT T zz 7 0) (zz + 1) 14 60) (zz + 1 + 1) 14 60) (up0 F zz 0) (iNew I (zz + 1)) (upP (upP (up0 P zz none) zz 0 (some (zz + 1))) zz 1 (some (zz + 1 + 1))) a (k + 1) := by
  intro i hi
  by_cases hik : i = k
  · subst hik
    rw [← hz]
    refine ⟨?_, fun j => by rw [up0_at], fun j j0 j1 => ?_, fun j => ?_⟩
    · unfold wRow
      simp (disch := omega) only [upT_at, upT_na, upP_at, upP_nk, true_and, and_true, Nat.add_assoc, Nat.reduceAdd]
    · unfold iNew
      rw [upA_at]
      exact if_pos ⟨j0, j1⟩
    · unfold iNew
      rw [upA_na _ _ _ (by omega), show zz + 2 = zz + 1 + 1 from rfl, up0_at]
  · have hh := (h.mv (T' := upT (upT (upT T zz 7 0) (zz + 1) 14 60) (zz + 1 + 1) 14 60) (F' := up0 F zz 0) (I' := iNew I (zz + 1)) (P' := upP (upP (up0 P zz none) zz 0 (some (zz + 1))) zz 1 (some (zz + 1 + 1))) (fun b b0 b1 => ⟨?_, ?_, ?_, ?_⟩)) i (by omega)
    · exact hh
    · simp (disch := omega) only [upT_na]
    · rw [up0_na _ _ _ (by omega)]
    · unfold iNew; rw [upA_na _ _ _ (by omega), up0_na _ _ _ (by omega), up0_na _ _ _ (by omega)]
    · rw [upP_na _ _ _ _ (by omega), upP_na _ _ _ _ (by omega), up0_na _ _ _ (by omega)]
theorem iNew_na (I : Nat → Int → Int) (z : Nat) {b : Nat} (h1 : b ≠ z) (h2 : b ≠ z + 1) : iNew I z b = I b := by unfold iNew; rw [upA_na _ _ _ h1, up0_na _ _ _ h2, up0_na _ _ _ h1]
/-- what lies below is as before -/
def Lo (a : Nat) (T : Nat → Nat × Int) (F : Nat → Nat → Int) (I : Nat → Int → Int) (P : Nat → Nat → Option Nat) (Y : Nat → Int → Option Nat) (T' : Nat → Nat × Int) (F' : Nat → Nat → Int) (I' : Nat → Int → Int) (P' : Nat → Nat → Option Nat) (Y' : Nat → Int → Option Nat) : Prop := ∀ b : Nat, b < a → T' b = T b ∧ F' b = F b ∧ I' b = I b ∧ P' b = P b ∧ Y' b = Y b
/-- in the loop of the store's constructor -/
def SN0 (T : Nat → Nat × Int) (F : Nat → Nat → Int) (I : Nat → Int → Int) (P : Nat → Nat → Option Nat) (Y : Nat → Int → Option Nat) (a k : Nat) : Prop := ((T a).1 = 9 ∧ P a 0 = some (a + 1) ∧ (T (a + 1)).1 = 17 ∧ (T (a + 1)).2 = 12) ∧ NR T F I P a k ∧ (∀ j : Nat, j < k → Y (a + 1) (j : Int) = some (a + 2 + 3 * j)) ∧ (∀ j : Nat, F a j = 0) ∧ P a 16 = none
theorem SN0.row {zz : Nat} (h : SN0 T F I P Y a k) (hz : zz = a + 2 + 3 * k) : SN0 (upT (upT (upT T zz 7 0) (zz + 1) 14 60) (zz + 1 + 1) 14 60) (up0 F zz 0) (iNew I (zz + 1)) (upP (upP (up0 P zz none) zz 0 (some (zz + 1))) zz 1 (some (zz + 1 + 1))) (upY Y (a + 1) (k : Int) (some zz)) a (k + 1) := by
  obtain ⟨⟨h1, h2, h3, h4⟩, h5, h6, h7, h8⟩ := h
  refine ⟨⟨?_, ?_, ?_, ?_⟩, h5.row hz, fun j hj => ?_, ?_, ?_⟩
  · simp (disch := omega) only [upT_na]; exact h1
  · rw [upP_na _ _ _ _ (by omega), upP_na _ _ _ _ (by omega), up0_na _ _ _ (by omega)]; exact h2
  · simp (disch := omega) only [upT_na]; exact h3
  · simp (disch := omega) only [upT_na]; exact h4
  · by_cases hjk : j = k
    · subst hjk; rw [upY_at, hz]
    · rw [upY_nk _ _ _ _ (by omega)]; exact h6 j (by omega)
  · rw [up0_na _ _ _ (by omega)]; exact h7
  · rw [upP_na _ _ _ _ (by omega), upP_na _ _ _ _ (by omega), up0_na _ _ _ (by omega)]; exact h8
theorem Lo.row {T0 : Nat → Nat × Int} {F0 : Nat → Nat → Int} {I0 : Nat → Int → Int} {P0 : Nat → Nat → Option Nat} {Y0 : Nat → Int → Option Nat} {zz : Nat} {y : Option Nat} (h : Lo a T0 F0 I0 P0 Y0 T F I P Y) (hz : zz = a + 2 + 3 * k) : Lo a T0 F0 I0 P0 Y0 (upT (upT (upT T zz 7 0) (zz + 1) 14 60) (zz + 1 + 1) 14 60) (up0 F zz 0) (iNew I (zz + 1)) (upP (upP (up0 P zz none) zz 0 (some (zz + 1))) zz 1 (some (zz + 1 + 1))) (upY Y (a + 1) (k : Int) y) := by
  intro b hb
  obtain ⟨h1, h2, h3, h4, h5⟩ := h b hb
  refine ⟨?_, ?_, ?_, ?_, ?_⟩
  · simp (disch := omega) only [upT_na]; exact h1
  · rw [up0_na _ _ _ (by omega)]; exact h2
  · unfold iNew; rw [upA_na _ _ _ (by omega), up0_na _ _ _ (by omega), up0_na _ _ _ (by omega)]; exact h3
  · rw [upP_na _ _ _ _ (by omega), upP_na _ _ _ _ (by omega), up0_na _ _ _ (by omega)]; exact h4
  · rw [upY_na _ _ _ _ (by omega)]; exact h5
end NEWST

