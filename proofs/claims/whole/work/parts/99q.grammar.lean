/-! the grammar of a law: what a text says, or where it is wrong -/
abbrev gRz : Type := Int ⊕ (List (Int × Int) × Int)
section GRM
variable {t : Int → Int} {e : Int}
def gPart (t : Int → Int) (e q : Int) : Option (Int × Int) := if 0 ≤ zK t e q ∧ zK t e q ≤ 6 then some (zK t e q, 0) else if zK t e q = 51 ∧ 0 ≤ zNm t e q ∧ zNm t e q ≤ 999 then some (10, zNm t e q) else none
def gTail (t : Int → Int) (e : Int) : Nat → Int → List (Int × Int) → gRz
  | 0, q, acc => .inr (acc, q)
  | k + 1, q, acc => if zK t e q = 143 then (match gPart t e (zX t e q) with
      | none => .inl (zX t e q)
      | some c => gTail t e k (zX t e (zX t e q)) (acc ++ [c, (11, 0)])) else .inr (acc, q)
def gSum (t : Int → Int) (e q : Int) : gRz := match gPart t e q with
  | none => .inl q
  | some c => gTail t e 400 (zX t e q) [c]
def gComp (t : Int → Int) (e q : Int) : gRz := match gSum t e q with
  | .inl f => .inl f
  | .inr (c1, q1) => if zK t e q1 = 160 ∨ zK t e q1 = 162 then (match gSum t e (zX t e q1) with
      | .inl f => .inl f
      | .inr (c2, q2) => .inr (c1 ++ c2 ++ [(if zK t e q1 = 160 then 12 else 13, 0)], q2)) else .inl q1
def gLeaf (t : Int → Int) (e q : Int) : gRz := if 7 ≤ zK t e q ∧ zK t e q ≤ 9 then .inr ([(zK t e q, 0)], zX t e q) else gComp t e q
/-- more of a kind, each behind the word k; the code c behind each -/
def gMore (t : Int → Int) (e k c : Int) (p : Int → gRz) : Nat → Int → List (Int × Int) → gRz
  | 0, q, acc => .inr (acc, q)
  | n + 1, q, acc => if zK t e q = k then (match p (zX t e q) with
      | .inl f => .inl f
      | .inr (cs, q') => gMore t e k c p n q' (acc ++ cs ++ [(c, 0)])) else .inr (acc, q)
def gMany (t : Int → Int) (e k c : Int) (p : Int → gRz) (q : Int) : gRz := match p q with
  | .inl f => .inl f
  | .inr (cs, q') => gMore t e k c p 400 q' cs
def gAll (t : Int → Int) (e : Int) (p : Int → gRz) : Int → gRz := gMany t e 19 15 p
def gAny (t : Int → Int) (e : Int) (p : Int → gRz) : Int → gRz := gMany t e 18 16 (gAll t e p)
def gAtom (t : Int → Int) (e : Int) : Nat → Int → gRz
  | 0, q => if zK t e q = 20 ∨ zK t e q = 140 then .inl q else gLeaf t e q
  | r + 1, q => if zK t e q = 20 then (match gAtom t e r (zX t e q) with
      | .inl f => .inl f
      | .inr (cs, q') => .inr (cs ++ [(14, 0)], q')) else if zK t e q = 140 then (match gAny t e (gAtom t e r) (zX t e q) with
      | .inl f => .inl f
      | .inr (cs, q') => if zK t e q' = 141 then .inr (cs, zX t e q') else .inl q') else gLeaf t e q
def gCond (t : Int → Int) (e : Int) : Int → gRz := gAny t e (gAtom t e 6)
/-! what it says lies within bounds -/
def cOk (c : Int × Int) : Prop := (0 ≤ c.1 ∧ c.1 ≤ 16) ∧ 0 ≤ c.2 ∧ c.2 ≤ 999
def gOk (e q : Int) : gRz → Prop
  | .inl f => q ≤ f ∧ f ≤ e
  | .inr (cs, q') => q < q' ∧ q' ≤ e ∧ (cs.length : Int) ≤ q' - q ∧ ∀ c ∈ cs, cOk c
theorem zK_lt {q : Int} (h : zK t e q ≠ 52) : q < e := Classical.byContradiction fun c => h (zK_e c)
theorem gPart_ok {q : Int} {c : Int × Int} (h : gPart t e q = some c) : q < e ∧ cOk c ∧ (zK t e q ≤ 6 ∨ zK t e q = 51) := by
  unfold gPart at h
  split at h
  · rename_i h1
    cases h
    exact ⟨zK_lt (t := t) (by omega), ⟨by show 0 ≤ zK t e q ∧ zK t e q ≤ 16; omega, by show (0 : Int) ≤ 0 ∧ (0 : Int) ≤ 999; omega⟩, Or.inl h1.2⟩
  · split at h
    · rename_i h1
      cases h
      exact ⟨zK_lt (t := t) (by omega), ⟨by show (0 : Int) ≤ 10 ∧ (10 : Int) ≤ 16; omega, h1.2⟩, Or.inr h1.1⟩
    · cases h
theorem gTail_ok {q0 : Int} : ∀ (k : Nat) (q : Int) (acc : List (Int × Int)), q0 < q → q ≤ e → (acc.length : Int) ≤ q - q0 → (∀ c ∈ acc, cOk c) → gOk e q0 (gTail t e k q acc)
  | 0, q, acc, h1, h2, h3, h4 => ⟨h1, h2, h3, h4⟩
  | k + 1, q, acc, h1, h2, h3, h4 => by
    rw [gTail]
    split
    · rename_i hk
      have b1 := zX_b (t := t) (zK_lt (t := t) (e := e) (q := q) (by omega))
      cases hp : gPart t e (zX t e q) with
      | none => exact ⟨by omega, by omega⟩
      | some c =>
        have b2 := gPart_ok hp
        have b3 := zX_b (t := t) b2.1
        exact gTail_ok k _ _ (by omega) (by omega) (by rw [List.length_append]; show ((acc.length + 2 : Nat) : Int) ≤ _; omega) (fun d hd => by
          rcases List.mem_append.mp hd with h | h
          · exact h4 d h
          · rcases List.mem_cons.mp h with h | h
            · rw [h]; exact b2.2.1
            · rw [List.mem_singleton.mp h]; exact ⟨by decide, by decide⟩)
    · exact ⟨h1, h2, h3, h4⟩
theorem gSum_ok {q : Int} (hq : q ≤ e) : gOk e q (gSum t e q) := by
  unfold gSum
  cases hp : gPart t e q with
  | none => exact ⟨by omega, by omega⟩
  | some c =>
    have b2 := gPart_ok hp
    have b3 := zX_b (t := t) b2.1
    exact gTail_ok 400 _ _ (by omega) (by omega) (by show ((1 : Nat) : Int) ≤ _; omega) (fun d hd => by rw [List.mem_singleton.mp hd]; exact b2.2.1)
theorem gComp_ok {q : Int} (hq : q ≤ e) : gOk e q (gComp t e q) := by
  unfold gComp
  have h1 := gSum_ok (t := t) hq
  cases hs : gSum t e q with
  | inl f => rw [hs] at h1; exact h1
  | inr x =>
    obtain ⟨c1, q1⟩ := x
    rw [hs] at h1
    obtain ⟨a1, a2, a3, a4⟩ := h1
    show gOk e q (if zK t e q1 = 160 ∨ zK t e q1 = 162 then (match gSum t e (zX t e q1) with
      | .inl f => .inl f
      | .inr (c2, q2) => .inr (c1 ++ c2 ++ [(if zK t e q1 = 160 then 12 else 13, 0)], q2)) else .inl q1)
    split
    · rename_i hk
      have b1 := zX_b (t := t) (zK_lt (t := t) (e := e) (q := q1) (by omega))
      have h2 := gSum_ok (t := t) b1.2
      cases hs2 : gSum t e (zX t e q1) with
      | inl f => rw [hs2] at h2; exact ⟨by have := h2.1; omega, h2.2⟩
      | inr y =>
        obtain ⟨c2, q2⟩ := y
        rw [hs2] at h2
        obtain ⟨d1, d2, d3, d4⟩ := h2
        refine ⟨by omega, d2, ?_, fun c hc => ?_⟩
        · rw [List.length_append, List.length_append]
          show ((c1.length + c2.length + 1 : Nat) : Int) ≤ _
          omega
        · rcases List.mem_append.mp hc with h | h
          · rcases List.mem_append.mp h with h | h
            · exact a4 c h
            · exact d4 c h
          · rw [List.mem_singleton.mp h]
            exact ⟨by show 0 ≤ (if zK t e q1 = 160 then (12 : Int) else 13) ∧ (if zK t e q1 = 160 then (12 : Int) else 13) ≤ 16; split <;> omega, by show (0 : Int) ≤ 0 ∧ (0 : Int) ≤ 999; omega⟩
    · exact ⟨by omega, by omega⟩
theorem gLeaf_ok {q : Int} (hq : q ≤ e) : gOk e q (gLeaf t e q) := by
  unfold gLeaf
  split
  · rename_i hk
    have b1 := zX_b (t := t) (zK_lt (t := t) (e := e) (q := q) (by omega))
    exact ⟨by omega, by omega, by show ((1 : Nat) : Int) ≤ _; omega, fun c hc => by
      rw [List.mem_singleton.mp hc]
      exact ⟨by show 0 ≤ zK t e q ∧ zK t e q ≤ 16; omega, by show (0 : Int) ≤ 0 ∧ (0 : Int) ≤ 999; omega⟩⟩
  · exact gComp_ok hq
theorem gMore_ok {k c q0 : Int} {p : Int → gRz} (hk : k ≠ 52) (hc : 0 ≤ c ∧ c ≤ 16) (hp : ∀ q : Int, q ≤ e → gOk e q (p q)) : ∀ (n : Nat) (q : Int) (acc : List (Int × Int)), q0 < q → q ≤ e → (acc.length : Int) ≤ q - q0 → (∀ c ∈ acc, cOk c) → gOk e q0 (gMore t e k c p n q acc)
  | 0, q, acc, h1, h2, h3, h4 => ⟨h1, h2, h3, h4⟩
  | n + 1, q, acc, h1, h2, h3, h4 => by
    rw [gMore]
    split
    · rename_i hk2
      have b1 := zX_b (t := t) (zK_lt (t := t) (e := e) (q := q) (by omega))
      have h5 := hp _ b1.2
      cases hs : p (zX t e q) with
      | inl f => rw [hs] at h5; exact ⟨by have := h5.1; omega, h5.2⟩
      | inr y =>
        obtain ⟨cs, q'⟩ := y
        rw [hs] at h5
        obtain ⟨d1, d2, d3, d4⟩ := h5
        exact gMore_ok hk hc hp n q' _ (by omega) d2 (by rw [List.length_append, List.length_append]; show ((acc.length + cs.length + 1 : Nat) : Int) ≤ _; omega) (fun x hx => by
          rcases List.mem_append.mp hx with h | h
          · rcases List.mem_append.mp h with h | h
            · exact h4 x h
            · exact d4 x h
          · rw [List.mem_singleton.mp h]; exact ⟨hc, by show (0 : Int) ≤ 0 ∧ (0 : Int) ≤ 999; omega⟩)
    · exact ⟨h1, h2, h3, h4⟩
theorem gMany_ok {k c : Int} {p : Int → gRz} (hk : k ≠ 52) (hc : 0 ≤ c ∧ c ≤ 16) (hp : ∀ q : Int, q ≤ e → gOk e q (p q)) {q : Int} (hq : q ≤ e) : gOk e q (gMany t e k c p q) := by
  unfold gMany
  have h1 := hp q hq
  cases hs : p q with
  | inl f => rw [hs] at h1; exact h1
  | inr y =>
    obtain ⟨cs, q'⟩ := y
    rw [hs] at h1
    exact gMore_ok hk hc hp 400 q' cs h1.1 h1.2.1 h1.2.2.1 h1.2.2.2
theorem gAny_ok {p : Int → gRz} (hp : ∀ q : Int, q ≤ e → gOk e q (p q)) {q : Int} (hq : q ≤ e) : gOk e q (gAny t e p q) :=
  gMany_ok (by omega) (by omega) (fun q hq => gMany_ok (by omega) (by omega) hp hq) hq
theorem gAtom_ok : ∀ (r : Nat) (q : Int), q ≤ e → gOk e q (gAtom t e r q)
  | 0, q, hq => by
    rw [gAtom]
    split
    · exact ⟨Int.le_refl _, hq⟩
    · exact gLeaf_ok hq
  | r + 1, q, hq => by
    rw [gAtom]
    split
    · rename_i hk
      have b1 := zX_b (t := t) (zK_lt (t := t) (e := e) (q := q) (by omega))
      have h1 := gAtom_ok r _ b1.2
      cases hs : gAtom t e r (zX t e q) with
      | inl f => rw [hs] at h1; exact ⟨by have := h1.1; omega, h1.2⟩
      | inr y =>
        obtain ⟨cs, q'⟩ := y
        rw [hs] at h1
        obtain ⟨d1, d2, d3, d4⟩ := h1
        exact ⟨by omega, d2, by rw [List.length_append]; show ((cs.length + 1 : Nat) : Int) ≤ _; omega, fun x hx => by
          rcases List.mem_append.mp hx with h | h
          · exact d4 x h
          · rw [List.mem_singleton.mp h]; exact ⟨by show (0 : Int) ≤ 14 ∧ (14 : Int) ≤ 16; omega, by show (0 : Int) ≤ 0 ∧ (0 : Int) ≤ 999; omega⟩⟩
    · split
      · rename_i hk
        have b1 := zX_b (t := t) (zK_lt (t := t) (e := e) (q := q) (by omega))
        have h1 := gAny_ok (t := t) (gAtom_ok r) b1.2
        cases hs : gAny t e (gAtom t e r) (zX t e q) with
        | inl f => rw [hs] at h1; exact ⟨by have := h1.1; omega, h1.2⟩
        | inr y =>
          obtain ⟨cs, q'⟩ := y
          rw [hs] at h1
          obtain ⟨d1, d2, d3, d4⟩ := h1
          show gOk e q (if zK t e q' = 141 then .inr (cs, zX t e q') else .inl q')
          split
          · rename_i hk2
            have b2 := zX_b (t := t) (zK_lt (t := t) (e := e) (q := q') (by omega))
            exact ⟨by omega, by omega, by omega, d4⟩
          · exact ⟨by omega, by omega⟩
      · exact gLeaf_ok hq
theorem gCond_ok {q : Int} (hq : q ≤ e) : gOk e q (gCond t e q) := gAny_ok (gAtom_ok 6) hq
/-! types -/
theorem cTy_app : ∀ (a b : List (Int × Int)) (s : List Bool), cTy (a ++ b) s = (cTy a s).bind (cTy b)
  | [], b, s => by rw [List.nil_append, cTy]; rfl
  | (c, n) :: a, b, s => by
    rw [List.cons_append]
    rcases s with _ | ⟨b0, _ | ⟨b1, s⟩⟩
    · simp only [cTy]
      (repeat' split) <;> first | rfl | exact cTy_app a b _
    · cases b0 <;> simp only [cTy] <;> (repeat' split) <;> first | rfl | exact cTy_app a b _
    · cases b0 <;> cases b1 <;> simp only [cTy] <;> (repeat' split) <;> first | rfl | exact cTy_app a b _
theorem cTy_p {c : Int × Int} {s : List Bool} (h : s.length < 32) (hc : c.1 ≤ 6 ∨ c.1 = 10) : cTy [c] s = some (false :: s) := by
  obtain ⟨c, n⟩ := c
  simp only [cTy]
  rw [if_neg (by omega), if_pos hc]
theorem cTy_f {c n : Int} {s : List Bool} (h : s.length < 32) (hc : 7 ≤ c ∧ c ≤ 9) : cTy [(c, n)] s = some (true :: s) := by
  simp only [cTy]
  rw [if_neg (by omega), if_neg (by omega), if_pos (by omega)]
theorem cTy_add {s : List Bool} (h : s.length + 2 < 32) : cTy [(11, 0)] (false :: false :: s) = some (false :: s) := by
  simp only [cTy]
  rw [if_neg (by simp only [List.length_cons]; omega), if_neg (by omega), if_neg (by omega), if_neg (by omega)]; rfl
theorem cTy_cmp {c : Int} {s : List Bool} (h : s.length + 2 < 32) (hc : c = 12 ∨ c = 13) : cTy [(c, 0)] (false :: false :: s) = some (true :: s) := by
  simp only [cTy]
  rw [if_neg (by simp only [List.length_cons]; omega), if_neg (by omega), if_neg (by omega), if_neg (by omega), if_neg (by omega), if_pos hc]
theorem cTy_not {s : List Bool} (h : s.length + 1 < 32) : cTy [(14, 0)] (true :: s) = some (true :: s) := by
  simp only [cTy]
  rw [if_neg (by simp only [List.length_cons]; omega), if_neg (by omega), if_neg (by omega)]; rfl
theorem cTy_bin {c : Int} {s : List Bool} (h : s.length + 2 < 32) (hc : c = 15 ∨ c = 16) : cTy [(c, 0)] (true :: true :: s) = some (true :: s) := by
  simp only [cTy]
  rw [if_neg (by simp only [List.length_cons]; omega), if_neg (by omega), if_neg (by omega), if_neg (by omega), if_neg (by omega), if_neg (by omega)]
def gTy (D : Nat) (b : Bool) : gRz → Prop
  | .inl _ => True
  | .inr (cs, _) => ∀ s : List Bool, s.length + D < 32 → cTy cs s = some (b :: s)
theorem gPart_c {q : Int} {c : Int × Int} (h : gPart t e q = some c) : c.1 ≤ 6 ∨ c.1 = 10 := by
  unfold gPart at h
  split at h
  · rename_i h1; cases h; exact Or.inl h1.2
  · split at h
    · cases h; exact Or.inr rfl
    · cases h
theorem gTail_ty : ∀ (k : Nat) (q : Int) (acc : List (Int × Int)), (∀ s : List Bool, s.length + 2 < 32 → cTy acc s = some (false :: s)) → gTy 2 false (gTail t e k q acc)
  | 0, q, acc, h => h
  | k + 1, q, acc, h => by
    rw [gTail]
    split
    · cases hp : gPart t e (zX t e q) with
      | none => trivial
      | some c =>
        refine gTail_ty k _ _ (fun s hs => ?_)
        rw [cTy_app, h s hs]
        show cTy ([c] ++ [(11, 0)]) (false :: s) = _
        rw [cTy_app, cTy_p (by simp only [List.length_cons]; omega) (gPart_c hp)]
        exact cTy_add (by omega)
    · exact h
theorem gSum_ty (q : Int) : gTy 2 false (gSum t e q) := by
  unfold gSum
  cases hp : gPart t e q with
  | none => trivial
  | some c => exact gTail_ty 400 _ _ (fun s hs => cTy_p (by omega) (gPart_c hp))
theorem gComp_ty (q : Int) : gTy 3 true (gComp t e q) := by
  unfold gComp
  have h1 := gSum_ty (t := t) (e := e) q
  cases hs : gSum t e q with
  | inl f => trivial
  | inr x =>
    obtain ⟨c1, q1⟩ := x
    rw [hs] at h1
    show gTy 3 true (if zK t e q1 = 160 ∨ zK t e q1 = 162 then (match gSum t e (zX t e q1) with
      | .inl f => .inl f
      | .inr (c2, q2) => .inr (c1 ++ c2 ++ [(if zK t e q1 = 160 then 12 else 13, 0)], q2)) else .inl q1)
    split
    · have h2 := gSum_ty (t := t) (e := e) (zX t e q1)
      cases hs2 : gSum t e (zX t e q1) with
      | inl f => trivial
      | inr y =>
        obtain ⟨c2, q2⟩ := y
        rw [hs2] at h2
        intro s hs9
        rw [cTy_app, cTy_app, h1 s (by omega)]
        show ((cTy c2 (false :: s)).bind (cTy [(if zK t e q1 = 160 then 12 else 13, 0)])) = _
        rw [h2 (false :: s) (by simp only [List.length_cons]; omega)]
        exact cTy_cmp (by omega) (by split <;> omega)
    · trivial
theorem gTy_le {D D' : Nat} {b : Bool} {x : gRz} (h : gTy D b x) (hd : D ≤ D') : gTy D' b x := by
  cases x with
  | inl f => trivial
  | inr y => exact fun s hs => h s (by omega)
theorem gLeaf_ty (q : Int) : gTy 3 true (gLeaf t e q) := by
  unfold gLeaf
  split
  · rename_i hk
    exact fun s hs => cTy_f (by omega) hk
  · exact gComp_ty q
theorem gMore_ty {k c : Int} {p : Int → gRz} {D : Nat} (hc : c = 15 ∨ c = 16) (hp : ∀ q : Int, gTy D true (p q)) (hD : 1 ≤ D) : ∀ (n : Nat) (q : Int) (acc : List (Int × Int)), (∀ s : List Bool, s.length + (D + 1) < 32 → cTy acc s = some (true :: s)) → gTy (D + 1) true (gMore t e k c p n q acc)
  | 0, q, acc, h => h
  | n + 1, q, acc, h => by
    rw [gMore]
    split
    · have h5 := hp (zX t e q)
      cases hs : p (zX t e q) with
      | inl f => trivial
      | inr y =>
        obtain ⟨cs, q'⟩ := y
        rw [hs] at h5
        refine gMore_ty hc hp hD n q' _ (fun s hs9 => ?_)
        rw [cTy_app, cTy_app, h s hs9]
        show ((cTy cs (true :: s)).bind (cTy [(c, 0)])) = _
        rw [h5 (true :: s) (by simp only [List.length_cons]; omega)]
        exact cTy_bin (by omega) hc
    · exact h
theorem gMany_ty {k c : Int} {p : Int → gRz} {D : Nat} (hc : c = 15 ∨ c = 16) (hp : ∀ q : Int, gTy D true (p q)) (hD : 1 ≤ D) (q : Int) : gTy (D + 1) true (gMany t e k c p q) := by
  unfold gMany
  have h1 := hp q
  cases hs : p q with
  | inl f => trivial
  | inr y =>
    obtain ⟨cs, q'⟩ := y
    rw [hs] at h1
    exact gMore_ty hc hp hD 400 q' cs (fun s hs9 => h1 s (by omega))
theorem gAny_ty {p : Int → gRz} {D : Nat} (hp : ∀ q : Int, gTy D true (p q)) (hD : 1 ≤ D) (q : Int) : gTy (D + 2) true (gAny t e p q) :=
  gMany_ty (Or.inr rfl) (fun q => gMany_ty (Or.inl rfl) hp hD q) (by omega) q
theorem gAtom_ty : ∀ (r : Nat) (q : Int), gTy (3 + 2 * r) true (gAtom t e r q)
  | 0, q => by
    rw [gAtom]
    split
    · trivial
    · exact gLeaf_ty q
  | r + 1, q => by
    rw [gAtom]
    split
    · have h1 := gAtom_ty r (zX t e q)
      cases hs : gAtom t e r (zX t e q) with
      | inl f => trivial
      | inr y =>
        obtain ⟨cs, q'⟩ := y
        rw [hs] at h1
        intro s hs9
        rw [cTy_app, h1 s (by omega)]
        exact cTy_not (by omega)
    · split
      · have h1 := gAny_ty (t := t) (e := e) (gAtom_ty r) (by omega) (zX t e q)
        cases hs : gAny t e (gAtom t e r) (zX t e q) with
        | inl f => trivial
        | inr y =>
          obtain ⟨cs, q'⟩ := y
          rw [hs] at h1
          show gTy (3 + 2 * (r + 1)) true (if zK t e q' = 141 then .inr (cs, zX t e q') else .inl q')
          split
          · exact gTy_le h1 (by omega)
          · trivial
      · exact gTy_le (gLeaf_ty q) (by omega)
theorem gCond_ty (q : Int) : gTy 17 true (gCond t e q) := gAny_ty (gAtom_ty 6) (by omega) q
/-- a code that has its types comes to an end -/
theorem cTy_ev {f : Int → Int → Int} : ∀ (cs : List (Int × Int)) (s s' : List Bool) (st : List Int), cTy cs s = some s' → st.length = s.length → ∃ fin, sEv f cs st = some fin ∧ fin.length = s'.length
  | [], s, s', st, h, hl => by
    rw [cTy] at h; cases h
    exact ⟨st, sEv_nil _ _, hl⟩
  | (c, n) :: cs, s, s', st, h, hl => by
    rw [sEv_cons]
    have key : (c ≤ 10 → ∃ b, cTy cs (b :: s) = some s') ∧ (c = 14 → ∃ r, s = true :: r ∧ cTy cs (true :: r) = some s') ∧ (10 < c → c ≠ 14 → ∃ b0 b1 b2 r, s = b0 :: b1 :: r ∧ cTy cs (b2 :: r) = some s') := by
      rcases s with _ | ⟨b0, _ | ⟨b1, s⟩⟩
      · simp only [cTy] at h
        refine ⟨fun hc => ?_, fun hc => ?_, fun hc hc2 => ?_⟩ <;> (repeat' split at h) <;> first | (exact ⟨_, h⟩) | (cases h; done) | omega
      · cases b0 <;> simp only [cTy] at h <;> refine ⟨fun hc => ?_, fun hc => ?_, fun hc hc2 => ?_⟩ <;> (repeat' split at h) <;> first | (exact ⟨_, h⟩) | (cases h; done) | omega | exact ⟨_, rfl, h⟩
      · cases b0 <;> cases b1 <;> simp only [cTy] at h <;> refine ⟨fun hc => ?_, fun hc => ?_, fun hc hc2 => ?_⟩ <;> (repeat' split at h) <;> first | (exact ⟨_, h⟩) | (cases h; done) | omega | exact ⟨_, rfl, h⟩ | exact ⟨_, _, _, _, rfl, h⟩
    by_cases h1 : c ≤ 10
    · rw [if_pos h1]
      obtain ⟨b, hb⟩ := key.1 h1
      exact cTy_ev cs _ _ _ hb (by simp only [List.length_cons]; omega)
    · rw [if_neg h1]
      by_cases h2 : c = 14
      · rw [if_pos h2]
        obtain ⟨r, hr, hb⟩ := key.2.1 h2
        subst hr
        rcases st with _ | ⟨x, st⟩
        · cases hl
        · exact cTy_ev cs _ _ _ hb (by simp only [List.length_cons] at hl ⊢; omega)
      · rw [if_neg h2]
        obtain ⟨b0, b1, b2, r, hr, hb⟩ := key.2.2 (by omega) h2
        subst hr
        rcases st with _ | ⟨x, _ | ⟨y, st⟩⟩
        · cases hl
        · simp only [List.length_cons, List.length_nil] at hl; omega
        · exact cTy_ev cs _ _ _ hb (by simp only [List.length_cons] at hl ⊢; omega)
end GRM

