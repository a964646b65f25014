/-! a law's line worked off by the class -/
def tS : List Bool → List Int → Prop
  | [], [] => True
  | b :: bs, x :: xs => (0 ≤ x ∧ (b = true → x ≤ 1)) ∧ tS bs xs
  | _, _ => False
theorem tS_len : ∀ {bs : List Bool} {xs : List Int}, tS bs xs → bs.length = xs.length
  | [], [], _ => rfl
  | _ :: bs, _ :: xs, h => by simp [tS_len h.2]
  | [], _ :: _, h => h.elim
  | _ :: _, [], h => h.elim
theorem cTy_cons (c a : Int) (t : List (Int × Int)) (s : List Bool) : cTy ((c, a) :: t) s = (if 32 ≤ s.length then none else if c ≤ 6 ∨ c = 10 then cTy t (false :: s) else if c ≤ 9 then cTy t (true :: s) else if c = 14 then (match s with
      | true :: r => cTy t (true :: r)
      | _ => none) else if c = 11 then (match s with
      | false :: false :: r => cTy t (false :: r)
      | _ => none) else if c = 12 ∨ c = 13 then (match s with
      | false :: false :: r => cTy t (true :: r)
      | _ => none) else (match s with
      | true :: true :: r => cTy t (true :: r)
      | _ => none)) := by rw [cTy.eq_def]; rfl
theorem cTy_nil (s : List Bool) : cTy [] s = some s := by rw [cTy.eq_def]
theorem cTy_inv {c a : Int} {t : List (Int × Int)} {s o : List Bool} (h : cTy ((c, a) :: t) s = some o) : s.length < 32 ∧ (((c ≤ 6 ∨ c = 10) ∧ cTy t (false :: s) = some o) ∨ ((7 ≤ c ∧ c ≤ 9) ∧ cTy t (true :: s) = some o) ∨ (c = 14 ∧ ∃ r, s = true :: r ∧ cTy t (true :: r) = some o) ∨ ((c = 11 ∨ c = 12 ∨ c = 13) ∧ ∃ b r, s = false :: false :: r ∧ cTy t (b :: r) = some o ∧ (c ≠ 11 → b = true) ∧ (c = 11 → b = false)) ∨ ((c ≠ 11 ∧ c ≠ 12 ∧ c ≠ 13 ∧ c ≠ 14 ∧ 10 < c) ∧ ∃ r, s = true :: true :: r ∧ cTy t (true :: r) = some o)) := by
  rw [cTy_cons] at h
  by_cases h0 : 32 ≤ s.length
  · rw [if_pos h0] at h; cases h
  rw [if_neg h0] at h
  refine ⟨by omega, ?_⟩
  by_cases h1 : c ≤ 6 ∨ c = 10
  · rw [if_pos h1] at h; exact Or.inl ⟨h1, h⟩
  rw [if_neg h1] at h
  by_cases h2 : c ≤ 9
  · rw [if_pos h2] at h; exact Or.inr (Or.inl ⟨by omega, h⟩)
  rw [if_neg h2] at h
  by_cases h3 : c = 14
  · rw [if_pos h3] at h
    match s, h with
    | true :: r, h => exact Or.inr (Or.inr (Or.inl ⟨h3, r, rfl, h⟩))
    | false :: r, h => cases h
    | [], h => cases h
  rw [if_neg h3] at h
  by_cases h4 : c = 11
  · rw [if_pos h4] at h
    match s, h with
    | false :: false :: r, h => exact Or.inr (Or.inr (Or.inr (Or.inl ⟨Or.inl h4, false, r, rfl, h, fun q => absurd h4 q, fun _ => rfl⟩)))
    | true :: r, h => cases h
    | false :: true :: r, h => cases h
    | [false], h => cases h
    | [], h => cases h
  rw [if_neg h4] at h
  by_cases h5 : c = 12 ∨ c = 13
  · rw [if_pos h5] at h
    match s, h with
    | false :: false :: r, h => exact Or.inr (Or.inr (Or.inr (Or.inl ⟨Or.inr h5, true, r, rfl, h, fun _ => rfl, fun q => absurd q h4⟩)))
    | true :: r, h => cases h
    | false :: true :: r, h => cases h
    | [false], h => cases h
    | [], h => cases h
  rw [if_neg h5] at h
  match s, h with
  | true :: true :: r, h => exact Or.inr (Or.inr (Or.inr (Or.inr ⟨by omega, r, rfl, h⟩)))
  | false :: r, h => cases h
  | true :: false :: r, h => cases h
  | [true], h => cases h
  | [], h => cases h
def hInv (w : Int → Int) (f : Int → Int → Int) (tot : Option (List Int)) (i k : Nat) (st : List Int) (u : Int → Int) : Prop :=
  ∃ bs : List Bool, cTy (wCode w (i : Int) k) bs = some [true] ∧ tS bs st ∧ sRep u st ∧ sEv f (wCode w (i : Int) k) st = tot ∧ sAb st ≤ 10001 * (i : Int)
theorem sAb_nn2 {x : Int} {r : List Int} (hx : 0 ≤ x) : sAb (x :: r) = x + sAb r := by rw [sAb]; unfold xab; rw [if_neg (by omega)]
theorem sOp_t {c a b : Int} (hc : c = 12 ∨ c = 13 ∨ c = 15 ∨ c = 16) : sOp c a b = 0 ∨ sOp c a b = 1 := by
  unfold sOp
  rw [if_neg (by omega)]
  exact (show ∀ e : Bool, (if e = true then (1 : Int) else 0) = 0 ∨ (if e = true then (1 : Int) else 0) = 1 by decide) _
section HINV
variable {w : Int → Int} {f : Int → Int → Int} {tot : Option (List Int)} {i m : Nat} {st : List Int} {u : Int → Int}
theorem wCode_c (i m : Nat) : wCode w (i : Int) (m + 1) = (w (1952 + 2 * (i : Int)), w (1952 + 2 * (i : Int) + 1)) :: wCode w ((i + 1 : Nat) : Int) m := by rw [wCode]; rfl
theorem hInv.q (h : hInv w f tot i (m + 1) st u) : st.length < 32 ∧ (w (1952 + 2 * (i : Int)) ≤ 10 ∨ (w (1952 + 2 * (i : Int)) = 14 ∧ 1 ≤ st.length) ∨ (10 < w (1952 + 2 * (i : Int)) ∧ w (1952 + 2 * (i : Int)) ≠ 14 ∧ 2 ≤ st.length)) := by
  obtain ⟨bs, h1, h2, h3, h4, h5⟩ := h
  have hl := tS_len h2
  rw [wCode_c] at h1
  obtain ⟨g0, g⟩ := cTy_inv h1
  refine ⟨by omega, ?_⟩
  rcases g with ⟨g, -⟩ | ⟨g, -⟩ | ⟨g, r, rfl, -⟩ | ⟨g, b, r, rfl, -⟩ | ⟨g, r, rfl, -⟩
  · omega
  · omega
  · simp only [List.length_cons] at hl; omega
  · simp only [List.length_cons] at hl; omega
  · simp only [List.length_cons] at hl; omega
theorem hInv.push (h : hInv w f tot i (m + 1) st u) (hc : w (1952 + 2 * (i : Int)) ≤ 10) {v : Int} (hv : v = f (w (1952 + 2 * (i : Int))) (w (1952 + 2 * (i : Int) + 1))) (hb : 0 ≤ v ∧ v ≤ 10000) (h7 : 7 ≤ w (1952 + 2 * (i : Int)) → w (1952 + 2 * (i : Int)) ≤ 9 → v ≤ 1) : hInv w f tot (i + 1) m (v :: st) (wS u (st.length : Int) v) := by
  obtain ⟨bs, h1, h2, h3, h4, h5⟩ := h
  have hl := tS_len h2
  rw [wCode_c] at h1 h4
  rw [sEv_cons, if_pos hc, ← hv] at h4
  obtain ⟨g0, g⟩ := cTy_inv h1
  have hs : sRep (wS u (st.length : Int) v) (v :: st) := ⟨wS_at _ _ _, sRep_S h3 (by omega)⟩
  have hA : sAb (v :: st) ≤ 10001 * ((i + 1 : Nat) : Int) := by rw [sAb_nn2 hb.1]; omega
  rcases g with ⟨g, g2⟩ | ⟨g, g2⟩ | ⟨g, r, rfl, -⟩ | ⟨g, b, r, rfl, -⟩ | ⟨g, r, rfl, -⟩
  · exact ⟨false :: bs, g2, ⟨⟨hb.1, fun q => by cases q⟩, h2⟩, hs, h4, hA⟩
  · exact ⟨true :: bs, g2, ⟨⟨hb.1, fun _ => h7 (by omega) (by omega)⟩, h2⟩, hs, h4, hA⟩
  · omega
  · omega
  · omega
theorem hInv.neg (h : hInv w f tot i (m + 1) st u) (hc : w (1952 + 2 * (i : Int)) = 14) : ∃ x r, st = x :: r ∧ (0 ≤ x ∧ x ≤ 1) ∧ u (r.length : Int) = x ∧ hInv w f tot (i + 1) m ((1 - x) :: r) (wS u (r.length : Int) (1 - x)) := by
  obtain ⟨bs, h1, h2, h3, h4, h5⟩ := h
  rw [wCode_c] at h1 h4
  rw [sEv_cons, if_neg (by omega), if_pos hc] at h4
  obtain ⟨g0, g⟩ := cTy_inv h1
  rcases g with ⟨g, g2⟩ | ⟨g, g2⟩ | ⟨g, r, rfl, g2⟩ | ⟨g, b, r, rfl, -⟩ | ⟨g, r, rfl, -⟩
  · omega
  · omega
  · match st, h2, h3, h4, h5 with
    | x :: xs, h2, h3, h4, h5 =>
      obtain ⟨⟨k1, k2⟩, k3⟩ := h2
      have k4 := k2 rfl
      refine ⟨x, xs, rfl, ⟨k1, k4⟩, h3.1, true :: r, g2, ⟨⟨by omega, fun _ => by omega⟩, k3⟩, ⟨wS_at _ _ _, sRep_S h3.2 (by omega)⟩, h4, ?_⟩
      rw [sAb_nn2 k1] at h5
      rw [sAb_nn2 (by omega)]; omega
  · omega
  · omega
theorem hInv.bin (h : hInv w f tot i (m + 1) st u) (hc : 10 < w (1952 + 2 * (i : Int)) ∧ w (1952 + 2 * (i : Int)) ≠ 14 ∧ w (1952 + 2 * (i : Int)) ≤ 16) : ∃ a b r, st = b :: a :: r ∧ (0 ≤ a ∧ 0 ≤ b ∧ a + b ≤ 10001 * (i : Int)) ∧ (15 ≤ w (1952 + 2 * (i : Int)) → a ≤ 1 ∧ b ≤ 1) ∧ u (r.length : Int) = a ∧ u ((r.length : Int) + 1) = b ∧ hInv w f tot (i + 1) m (sOp (w (1952 + 2 * (i : Int))) a b :: r) (wS u (r.length : Int) (sOp (w (1952 + 2 * (i : Int))) a b)) := by
  obtain ⟨bs, h1, h2, h3, h4, h5⟩ := h
  rw [wCode_c] at h1 h4
  rw [sEv_cons, if_neg (by omega), if_neg (by omega)] at h4
  obtain ⟨g0, g⟩ := cTy_inv h1
  have key : ∀ (b0 b1 b2 : Bool) (r : List Bool), bs = b0 :: b1 :: r → cTy (wCode w ((i + 1 : Nat) : Int) m) (b2 :: r) = some [true] → (15 ≤ w (1952 + 2 * (i : Int)) → b0 = true ∧ b1 = true) → (b2 = true → w (1952 + 2 * (i : Int)) ≠ 11) → ∃ a b r, st = b :: a :: r ∧ (0 ≤ a ∧ 0 ≤ b ∧ a + b ≤ 10001 * (i : Int)) ∧ (15 ≤ w (1952 + 2 * (i : Int)) → a ≤ 1 ∧ b ≤ 1) ∧ u (r.length : Int) = a ∧ u ((r.length : Int) + 1) = b ∧ hInv w f tot (i + 1) m (sOp (w (1952 + 2 * (i : Int))) a b :: r) (wS u (r.length : Int) (sOp (w (1952 + 2 * (i : Int))) a b)) := by
    intro b0 b1 b2 r e e2 e3 e4
    subst e
    match st, h2, h3, h4, h5 with
    | y :: x :: xs, h2, h3, h4, h5 =>
      obtain ⟨⟨k1, k2⟩, ⟨k3, k4⟩, k5⟩ := h2
      have hn := sAb_nn xs
      rw [sAb_nn2 k1, sAb_nn2 k3] at h5
      have hop : 0 ≤ sOp (w (1952 + 2 * (i : Int))) x y ∧ sOp (w (1952 + 2 * (i : Int))) x y ≤ x + y + 1 ∧ (w (1952 + 2 * (i : Int)) ≠ 11 → sOp (w (1952 + 2 * (i : Int))) x y ≤ 1) := by
        by_cases q : w (1952 + 2 * (i : Int)) = 11
        · rw [sOp_add q]; omega
        · have := sOp_t (c := w (1952 + 2 * (i : Int))) (a := x) (b := y) (by omega); omega
      refine ⟨x, y, xs, rfl, ⟨k3, k1, by omega⟩, fun q => ⟨k4 (e3 q).2, k2 (e3 q).1⟩, h3.2.1, ?_, b2 :: r, e2, ⟨⟨hop.1, fun q => hop.2.2 (e4 q)⟩, k5⟩, ⟨wS_at _ _ _, sRep_S h3.2.2 (by omega)⟩, h4, ?_⟩
      · have := h3.1; simp only [List.length_cons] at this; rw [← this]; rfl
      · rw [sAb_nn2 hop.1]; omega
    | [_], h2, _, _, _ => exact h2.2.elim
  rcases g with ⟨g, g2⟩ | ⟨g, g2⟩ | ⟨g, r, rfl, g2⟩ | ⟨g, b, r, e, g2, g3, g4⟩ | ⟨g, r, e, g2⟩
  · omega
  · omega
  · omega
  · exact key _ _ _ r e g2 (fun q => by omega) (fun q q2 => by rw [g4 q2] at q; cases q)
  · exact key _ _ _ r e g2 (fun q => ⟨rfl, rfl⟩) (fun _ => g.1)
theorem hInv.fin (h : hInv w f tot i 0 st u) : ∃ x, tot = some [x] ∧ (0 ≤ x ∧ x ≤ 1) ∧ u 0 = x := by
  obtain ⟨bs, h1, h2, h3, h4, h5⟩ := h
  rw [show wCode w (i : Int) 0 = [] from rfl] at h1 h4
  rw [cTy_nil] at h1
  cases h1
  match st, h2, h3, h4 with
  | [x], h2, h3, h4 =>
    rw [sEv_nil] at h4
    exact ⟨x, h4.symm, ⟨h2.1.1, h2.1.2 rfl⟩, h3.1⟩
end HINV
theorem xand01 {a b : Int} (ha : 0 ≤ a ∧ a ≤ 1) (hb : 0 ≤ b ∧ b ≤ 1) : xand a b = sOp 15 a b := by
  rcases (show a = 0 ∨ a = 1 by omega) with rfl | rfl <;> rcases (show b = 0 ∨ b = 1 by omega) with rfl | rfl <;> rfl
theorem xor01 {a b : Int} (ha : 0 ≤ a ∧ a ≤ 1) (hb : 0 ≤ b ∧ b ≤ 1) : xor2 a b = sOp 16 a b := by
  rcases (show a = 0 ∨ a = 1 by omega) with rfl | rfl <;> rcases (show b = 0 ∨ b = 1 by omega) with rfl | rfl <;> rfl
theorem cEnc_q {c a : Int} (hc : 0 ≤ c ∧ c ≤ 16) : (c ≤ 9 ∧ cEnc c a = -10 - c) ∨ (c = 10 ∧ cEnc c a = a) ∨ (c = 11 ∧ cEnc c a = -4) ∨ (c = 12 ∧ cEnc c a = -5) ∨ (c = 13 ∧ cEnc c a = -6) ∨ (c = 14 ∧ cEnc c a = -3) ∨ (c = 15 ∧ cEnc c a = -1) ∨ (c = 16 ∧ cEnc c a = -2) := by
  rcases (show c ≤ 9 ∨ c = 10 ∨ c = 11 ∨ c = 12 ∨ c = 13 ∨ c = 14 ∨ c = 15 ∨ c = 16 by omega) with h | h | h | h | h | h | h | h
  · exact Or.inl ⟨h, if_pos h⟩
  · subst h; exact Or.inr (Or.inl ⟨rfl, rfl⟩)
  · subst h; exact Or.inr (Or.inr (Or.inl ⟨rfl, rfl⟩))
  · subst h; exact Or.inr (Or.inr (Or.inr (Or.inl ⟨rfl, rfl⟩)))
  · subst h; exact Or.inr (Or.inr (Or.inr (Or.inr (Or.inl ⟨rfl, rfl⟩))))
  · subst h; exact Or.inr (Or.inr (Or.inr (Or.inr (Or.inr (Or.inl ⟨rfl, rfl⟩)))))
  · subst h; exact Or.inr (Or.inr (Or.inr (Or.inr (Or.inr (Or.inr (Or.inl ⟨rfl, rfl⟩))))))
  · subst h; exact Or.inr (Or.inr (Or.inr (Or.inr (Or.inr (Or.inr (Or.inr ⟨rfl, rfl⟩))))))
theorem sFact_10 {w : Int → Int} {level c a : Int} (h : c = 10) : sFact w level c a = a := by
  unfold sFact; subst h; rfl
theorem sFact_lo {w : Int → Int} {level c a : Int} (h : 0 ≤ c ∧ c ≤ 9) : sFact w level c a = sFact w level c 0 := by
  rcases (show c = 0 ∨ c = 1 ∨ c = 2 ∨ c = 3 ∨ c = 4 ∨ c = 5 ∨ c = 6 ∨ c = 7 ∨ c = 8 ∨ c = 9 by omega) with h | h | h | h | h | h | h | h | h | h <;> subst h <;> rfl
theorem sFact_01 {w : Int → Int} (hO : wOk w) {level c a : Int} (h : 7 ≤ c ∧ c ≤ 9) : sFact w level c a ≤ 1 := by
  obtain ⟨hR, o0, o1, o2, o3, o4, o5, o6, oc, o13, o14, o16, o17, o18, ov⟩ := id hO
  unfold sFact; (repeat' split) <;> omega
