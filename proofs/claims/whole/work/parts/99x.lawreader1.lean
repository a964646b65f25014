/-! the class's scan at a token -/
/-- the scan s at the token i, its fault, the law reader's codes so far -/
def fZ (F : Nat → Nat → Int) (s r : Nat) (i : Nat) (fl u : Int) : Nat → Nat → Int := fun a j => if a = s ∧ j = 4 then (i : Int) else if a = s ∧ j = 5 then fl else if a = r ∧ j = 6 then u else F a j
section FZ
variable {F : Nat → Nat → Int} {s r i i2 : Nat} {fl u x : Int}
theorem fZ_4 : fZ F s r i fl u s 4 = (i : Int) := if_pos ⟨rfl, rfl⟩
theorem fZ_5 : fZ F s r i fl u s 5 = fl := by unfold fZ; rw [if_neg (by omega), if_pos ⟨rfl, rfl⟩]
theorem fZ_6 (h : s ≠ r) : fZ F s r i fl u r 6 = u := by unfold fZ; rw [if_neg (by omega), if_neg (by omega), if_pos ⟨rfl, rfl⟩]
theorem fZ_o {a j : Nat} (h : (a ≠ s ∨ (j ≠ 4 ∧ j ≠ 5)) ∧ (a ≠ r ∨ j ≠ 6)) : fZ F s r i fl u a j = F a j := by unfold fZ; rw [if_neg (by omega), if_neg (by omega), if_neg (by omega)]
theorem fZ_s4 (h : x = (i2 : Int)) : upF (fZ F s r i fl u) s 4 x = fZ F s r i2 fl u := by
  subst h; funext a j; unfold upF fZ
  (repeat' split) <;> first | rfl | omega
theorem fZ_s5 : upF (fZ F s r i fl u) s 5 x = fZ F s r i x u := by
  funext a j; unfold upF fZ
  (repeat' split) <;> first | rfl | omega
theorem fZ_s6 (h : s ≠ r) : upF (fZ F s r i fl u) r 6 x = fZ F s r i fl x := by
  funext a j; unfold upF fZ
  (repeat' split) <;> first | rfl | omega
end FZ
theorem zK_b {t : Int → Int} {e q : Int} (ht : ∀ j : Int, 0 ≤ j → j < e → 0 ≤ t j ∧ t j ≤ 255) (h0 : 0 ≤ q) : 0 ≤ zK t e q ∧ zK t e q ≤ 355 := by
  rcases zK_3 t e q with ⟨a, b, c⟩ | ⟨a, b, c⟩ | ⟨a, b, c⟩ | ⟨a, c⟩
  · have := zWrd_21 t q (zLen t q e); omega
  · omega
  · have := ht q h0 a; omega
  · omega
theorem zNm_b {t : Int → Int} {e q : Int} (ht : ∀ j : Int, 0 ≤ j → j < 400 → 0 ≤ t j ∧ t j ≤ 255) (h0 : 0 ≤ q) (he : e ≤ 400) : -6000 ≤ zNm t e q ∧ zNm t e q ≤ 30000 := by
  unfold zNm
  split
  · rename_i h
    have hL := zLen_b (t := t) h
    unfold zNum
    split
    · omega
    · exact zNu_b ht _ h0 (by omega) (by omega)
  · omega
section CSC
variable {t : Int → Int} {e : Int} {F : Nat → Nat → Int} {I : Nat → Int → Int} {g : Int → Int} {s r N i : Nat} {fl u : Int}
theorem zTok.ok (h : zTok t e F I s N) (ht : ∀ j : Int, 0 ≤ j → j < 400 → 0 ≤ t j ∧ t j ≤ 255) (he : 0 ≤ e ∧ e ≤ 400) (hi : i ≤ N) (hf : -1 ≤ fl ∧ fl ≤ 1000) (hsr : s + 4 ≤ r) : zOk (fZ F s r i fl u) (upA I (r + 4) g) s := by
  obtain ⟨h1, h2, h3, h4, h5⟩ := h
  refine ⟨by rw [fZ_o (by omega), h1]; omega, by rw [fZ_4]; omega, by rw [fZ_5]; exact hf, fun j j0 j1 => ?_⟩
  rw [fZ_o (by omega), h1] at j1
  have h6 := (h3 j.toNat (by omega)).2.1
  rw [show ((j.toNat : Nat) : Int) = j by omega] at h6
  rw [upA_na _ _ _ (by omega), h6]
  have hb := zB_b (t := t) he.1 j.toNat
  have := zK_b (t := t) (e := e) (q := zB t e j.toNat) (fun k k0 k1 => ht k k0 (by omega)) hb.1
  omega
theorem zTok.nm (h : zTok t e F I s N) (ht : ∀ j : Int, 0 ≤ j → j < 400 → 0 ≤ t j ∧ t j ≤ 255) (he : 0 ≤ e ∧ e ≤ 400) (hsr : s + 4 ≤ r) : ∀ j : Int, 0 ≤ j → j < fZ F s r i fl u s 3 → -1000000 ≤ upA I (r + 4) g (s + 3) j ∧ upA I (r + 4) g (s + 3) j ≤ 1000000 := by
  obtain ⟨h1, h2, h3, h4, h5⟩ := h
  intro j j0 j1
  rw [fZ_o (by omega), h1] at j1
  have h6 := (h3 j.toNat (by omega)).2.2
  rw [show ((j.toNat : Nat) : Int) = j by omega] at h6
  rw [upA_na _ _ _ (by omega), h6]
  have hb := zB_b (t := t) he.1 j.toNat
  have := zNm_b (t := t) (e := e) (q := zB t e j.toNat) ht hb.1 he.2
  omega
theorem zTok.k (h : zTok t e F I s N) (hi : i ≤ N) (hsr : s + 4 ≤ r) : fZ F s r i fl u s 3 = (N : Int) + 1 ∧ upA I (r + 4) g (s + 1) (i : Int) = zB t e i ∧ upA I (r + 4) g (s + 2) (i : Int) = zK t e (zB t e i) ∧ upA I (r + 4) g (s + 3) (i : Int) = zNm t e (zB t e i) := by
  obtain ⟨h1, h2, h3, h4, h5⟩ := h
  rw [upA_na _ _ _ (by omega), upA_na _ _ _ (by omega), upA_na _ _ _ (by omega)]
  exact ⟨by rw [fZ_o (by omega)]; exact h1, h3 i hi⟩
theorem zTok.at (h : zTok t e F I s N) (hi : i ≤ N) (hsr : s + 4 ≤ r) {k : Int} : zAt (fZ F s r i fl u) (upA I (r + 4) g) s k ↔ zK t e (zB t e i) = k := by
  obtain ⟨a1, a2, a3, a4⟩ := h.k (fl := fl) (u := u) (g := g) hi hsr
  unfold zAt
  rw [fZ_4, a1, a3]
  omega
/-- the next token is there, where this one isn't the end -/
theorem zTok.nx (h : zTok t e F I s N) (hi : i ≤ N) (hk : zB t e i < e) : i + 1 ≤ N ∧ zB t e (i + 1) = zX t e (zB t e i) := by
  obtain ⟨h1, h2, h3, h4, h5⟩ := h
  refine ⟨?_, by rw [zB, if_pos hk]⟩
  by_cases c : i = N
  · subst c; omega
  · omega
end CSC

theorem cs_is {E : xE} {z : Nat} {T : Nat → Nat × Int} {F : Nat → Nat → Int} {I : Nat → Int → Int} {P : Nat → Nat → Option Nat} {Y : Nat → Int → Option Nat} {s r N : Nat} {t : Int → Int} {e : Int} (hs : wScn T P s) (hk0 : zTok t e F I s N) (ht4 : ∀ j : Int, 0 ≤ j → j < 400 → 0 ≤ t j ∧ t j ≤ 255) (he : 0 ≤ e ∧ e ≤ 400) (hsr : s + 4 ≤ r) {i : Nat} {u q : Int} {g : Int → Int} (hi : i ≤ N) (hq : zB t e i = q) {k : Int} (hkk : -1000 ≤ k ∧ k ≤ 1000) : Ct E 0 mX7_is 0 0 [.ref s, J k] (z, T, fZ F s r (i) (-1) (u), upA I (r + 4) (g), P, Y) (xd (some (J (bI (decide (zK t e q = k))))) (z, T, fZ F s r (i) (-1) (u), upA I (r + 4) (g), P, Y)) := by
  subst hq
  have h := ct_X7_is (E := E) (z := z) (T := T) (P := P) (Y := Y) (F := fZ F s r i (-1) u) (I := upA I (r + 4) g) (s := s) (k := k) hs (hk0.ok (fl := -1) (u := u) (g := g) ht4 he hi (by omega) hsr) (by omega)
  obtain ⟨k1, k2, k3, k4⟩ := hk0.k (fl := -1) (u := u) (g := g) hi hsr
  by_cases c : zK t e (zB t e i) = k
  · have ha := (hk0.at (fl := -1) (u := u) (g := g) (k := k) hi hsr).mpr c
    rw [decide_eq_true ha] at h
    rw [decide_eq_true c]
    exact h
  · have ha : ¬ zAt (fZ F s r i (-1) u) (upA I (r + 4) g) s k := fun x => c ((hk0.at hi hsr).mp x)
    rw [decide_eq_false ha] at h
    rw [decide_eq_false c]
    exact h
theorem cs_takes {E : xE} {z : Nat} {T : Nat → Nat × Int} {F : Nat → Nat → Int} {I : Nat → Int → Int} {P : Nat → Nat → Option Nat} {Y : Nat → Int → Option Nat} {s r N : Nat} {t : Int → Int} {e : Int} (hs : wScn T P s) (hk0 : zTok t e F I s N) (ht4 : ∀ j : Int, 0 ≤ j → j < 400 → 0 ≤ t j ∧ t j ≤ 255) (he : 0 ≤ e ∧ e ≤ 400) (hsr : s + 4 ≤ r) {i : Nat} {u q : Int} {g : Int → Int} (hi : i ≤ N) (hq : zB t e i = q) {k : Int} (hkk : -1000 ≤ k ∧ k ≤ 1000) : Ct E 0 mX7_takes 0 0 [.ref s, J k] (z, T, fZ F s r (i) (-1) (u), upA I (r + 4) (g), P, Y) (xd (some (J (bI (decide (zK t e q = k))))) (z, T, fZ F s r (if zK t e q = k then i + 1 else i) (-1) (u), upA I (r + 4) (g), P, Y)) := by
  subst hq
  have h := ct_X7_takes (E := E) (z := z) (T := T) (P := P) (Y := Y) (F := fZ F s r i (-1) u) (I := upA I (r + 4) g) (s := s) (k := k) hs (hk0.ok (fl := -1) (u := u) (g := g) ht4 he hi (by omega) hsr) (by omega)
  obtain ⟨k1, k2, k3, k4⟩ := hk0.k (fl := -1) (u := u) (g := g) hi hsr
  by_cases c : zK t e (zB t e i) = k
  · have ha := (hk0.at (fl := -1) (u := u) (g := g) (k := k) hi hsr).mpr c
    rw [decide_eq_true ha] at h
    unfold zTk at h
    rw [if_pos ha, fZ_s4 (i2 := i + 1) (by rw [fZ_4]; omega)] at h
    rw [decide_eq_true c, if_pos c]
    exact h
  · have ha : ¬ zAt (fZ F s r i (-1) u) (upA I (r + 4) g) s k := fun x => c ((hk0.at hi hsr).mp x)
    rw [decide_eq_false ha] at h
    unfold zTk at h
    rw [if_neg ha] at h
    rw [decide_eq_false c, if_neg c]
    exact h
theorem cs_needs {E : xE} {z : Nat} {T : Nat → Nat × Int} {F : Nat → Nat → Int} {I : Nat → Int → Int} {P : Nat → Nat → Option Nat} {Y : Nat → Int → Option Nat} {s r N : Nat} {t : Int → Int} {e : Int} (hs : wScn T P s) (hk0 : zTok t e F I s N) (ht4 : ∀ j : Int, 0 ≤ j → j < 400 → 0 ≤ t j ∧ t j ≤ 255) (he : 0 ≤ e ∧ e ≤ 400) (hsr : s + 4 ≤ r) {i : Nat} {u q : Int} {g : Int → Int} (hi : i ≤ N) (hq : zB t e i = q) {k : Int} (hkk : -1000 ≤ k ∧ k ≤ 1000) : Ct E 1 mX7_needs 0 0 [.ref s, J k] (z, T, fZ F s r (i) (-1) (u), upA I (r + 4) (g), P, Y) (xd (some (J (bI (decide (zK t e q = k))))) (if zK t e q = k then (z, T, fZ F s r (i + 1) (-1) (u), upA I (r + 4) (g), P, Y) else (z, T, fZ F s r (i) (q) (u), upA I (r + 4) (g), P, Y))) := by
  subst hq
  have h := ct_X7_needs (E := E) (z := z) (T := T) (P := P) (Y := Y) (F := fZ F s r i (-1) u) (I := upA I (r + 4) g) (s := s) (k := k) hs (hk0.ok (fl := -1) (u := u) (g := g) ht4 he hi (by omega) hsr) (by omega)
  obtain ⟨k1, k2, k3, k4⟩ := hk0.k (fl := -1) (u := u) (g := g) hi hsr
  by_cases c : zK t e (zB t e i) = k
  · have ha := (hk0.at (fl := -1) (u := u) (g := g) (k := k) hi hsr).mpr c
    rw [decide_eq_true ha] at h
    unfold zNd at h
    rw [if_pos ha, fZ_s4 (i2 := i + 1) (by rw [fZ_4]; omega)] at h
    rw [decide_eq_true c, if_pos c]
    exact h
  · have ha : ¬ zAt (fZ F s r i (-1) u) (upA I (r + 4) g) s k := fun x => c ((hk0.at hi hsr).mp x)
    rw [decide_eq_false ha] at h
    unfold zNd at h
    rw [if_neg ha] at h
    unfold zFl at h
    rw [fZ_4, fZ_5, k1, if_pos (by omega), k2, fZ_s5] at h
    rw [decide_eq_false c, if_neg c]
    exact h
theorem cs_fail {E : xE} {z : Nat} {T : Nat → Nat × Int} {F : Nat → Nat → Int} {I : Nat → Int → Int} {P : Nat → Nat → Option Nat} {Y : Nat → Int → Option Nat} {s r N : Nat} {t : Int → Int} {e : Int} (hs : wScn T P s) (hk0 : zTok t e F I s N) (ht4 : ∀ j : Int, 0 ≤ j → j < 400 → 0 ≤ t j ∧ t j ≤ 255) (he : 0 ≤ e ∧ e ≤ 400) (hsr : s + 4 ≤ r) {i : Nat} {u q : Int} {g : Int → Int} (hi : i ≤ N) (hq : zB t e i = q) : Ct E 0 mX7_fail 0 0 [.ref s] (z, T, fZ F s r (i) (-1) (u), upA I (r + 4) (g), P, Y) (xd (some (J 0)) (z, T, fZ F s r (i) (q) (u), upA I (r + 4) (g), P, Y)) := by
  subst hq
  have h := ct_X7_fail (E := E) (z := z) (T := T) (P := P) (Y := Y) (F := fZ F s r i (-1) u) (I := upA I (r + 4) g) (s := s) hs (hk0.ok (fl := -1) (u := u) (g := g) ht4 he hi (by omega) hsr)
  obtain ⟨k1, k2, k3, k4⟩ := hk0.k (fl := -1) (u := u) (g := g) hi hsr
  unfold zFl at h
  rw [fZ_4, fZ_5, k1, if_pos (by omega), k2, fZ_s5] at h
  exact h
theorem cs_takesFrom {E : xE} {z : Nat} {T : Nat → Nat × Int} {F : Nat → Nat → Int} {I : Nat → Int → Int} {P : Nat → Nat → Option Nat} {Y : Nat → Int → Option Nat} {s r N : Nat} {t : Int → Int} {e : Int} (hs : wScn T P s) (hk0 : zTok t e F I s N) (ht4 : ∀ j : Int, 0 ≤ j → j < 400 → 0 ≤ t j ∧ t j ≤ 255) (he : 0 ≤ e ∧ e ≤ 400) (hsr : s + 4 ≤ r) {i : Nat} {u q : Int} {g : Int → Int} (hi : i ≤ N) (hq : zB t e i = q) {lo hi9 : Int} (hlh : 0 ≤ lo ∧ lo ≤ 1000 ∧ 0 ≤ hi9 ∧ hi9 ≤ 1000) : Ct E 0 mX7_takesFrom 0 0 [.ref s, J lo, J hi9] (z, T, fZ F s r (i) (-1) (u), upA I (r + 4) (g), P, Y) (xd (some (J (if lo ≤ zK t e q ∧ zK t e q ≤ hi9 then zK t e q else -1))) (z, T, fZ F s r (if lo ≤ zK t e q ∧ zK t e q ≤ hi9 then i + 1 else i) (-1) (u), upA I (r + 4) (g), P, Y)) := by
  subst hq
  have h := ct_X7_takesFrom (E := E) (z := z) (T := T) (P := P) (Y := Y) (F := fZ F s r i (-1) u) (I := upA I (r + 4) g) (s := s) (lo := lo) (hi := hi9) hs (hk0.ok (fl := -1) (u := u) (g := g) ht4 he hi (by omega) hsr) (by omega)
  obtain ⟨k1, k2, k3, k4⟩ := hk0.k (fl := -1) (u := u) (g := g) hi hsr
  by_cases c : lo ≤ zK t e (zB t e i) ∧ zK t e (zB t e i) ≤ hi9
  · have ha : zFr (fZ F s r i (-1) u) (upA I (r + 4) g) s lo hi9 := by unfold zFr; rw [fZ_4, k1, k3]; omega
    unfold zFrA zFrF at h
    rw [if_pos ha, if_pos ha, fZ_4, k3, fZ_s4 (i2 := i + 1) (by omega)] at h
    rw [if_pos c, if_pos c]
    exact h
  · have ha : ¬ zFr (fZ F s r i (-1) u) (upA I (r + 4) g) s lo hi9 := by unfold zFr; rw [fZ_4, k1, k3]; omega
    unfold zFrA zFrF at h
    rw [if_neg ha, if_neg ha] at h
    rw [if_neg c, if_neg c]
    exact h
theorem cs_needsNumber {E : xE} {z : Nat} {T : Nat → Nat × Int} {F : Nat → Nat → Int} {I : Nat → Int → Int} {P : Nat → Nat → Option Nat} {Y : Nat → Int → Option Nat} {s r N : Nat} {t : Int → Int} {e : Int} (hs : wScn T P s) (hk0 : zTok t e F I s N) (ht4 : ∀ j : Int, 0 ≤ j → j < 400 → 0 ≤ t j ∧ t j ≤ 255) (he : 0 ≤ e ∧ e ≤ 400) (hsr : s + 4 ≤ r) {i : Nat} {u q : Int} {g : Int → Int} (hi : i ≤ N) (hq : zB t e i = q) {lo hi9 : Int} (hlh : 0 ≤ lo ∧ lo ≤ 1000 ∧ 0 ≤ hi9 ∧ hi9 ≤ 1000) : Ct E 0 mX7_needsNumber 0 0 [.ref s, J lo, J hi9] (z, T, fZ F s r (i) (-1) (u), upA I (r + 4) (g), P, Y) (xd (some (J (zNb0 t e q lo hi9))) (if zK t e q = 51 ∧ lo ≤ zNm t e q ∧ zNm t e q ≤ hi9 then (z, T, fZ F s r (i + 1) (-1) (u), upA I (r + 4) (g), P, Y) else (z, T, fZ F s r (i) (q) (u), upA I (r + 4) (g), P, Y))) := by
  subst hq
  have h := ct_X7_needsNumber (E := E) (z := z) (T := T) (P := P) (Y := Y) (F := fZ F s r i (-1) u) (I := upA I (r + 4) g) (s := s) (lo := lo) (hi := hi9) hs (hk0.ok (fl := -1) (u := u) (g := g) ht4 he hi (by omega) hsr) (hk0.nm ht4 he hsr) (by omega)
  obtain ⟨k1, k2, k3, k4⟩ := hk0.k (fl := -1) (u := u) (g := g) hi hsr
  by_cases c : zK t e (zB t e i) = 51 ∧ lo ≤ zNm t e (zB t e i) ∧ zNm t e (zB t e i) ≤ hi9
  · have ha : zNb (fZ F s r i (-1) u) (upA I (r + 4) g) s lo hi9 := by unfold zNb; rw [fZ_4, k3, k4]; exact c
    unfold zNbA zNbF at h
    rw [if_neg (by rw [fZ_4, k1]; omega), if_pos ha, if_neg (by rw [fZ_4, k1]; omega), if_pos ha, fZ_4, k4, fZ_s4 (i2 := i + 1) (by omega)] at h
    unfold zNb0
    rw [if_pos c, if_pos c]
    exact h
  · have ha : ¬ zNb (fZ F s r i (-1) u) (upA I (r + 4) g) s lo hi9 := by unfold zNb; rw [fZ_4, k3, k4]; exact c
    unfold zNbA zNbF at h
    rw [if_neg (by rw [fZ_4, k1]; omega), if_neg ha, if_neg (by rw [fZ_4, k1]; omega), if_neg ha, fZ_4, k2, fZ_s5] at h
    unfold zNb0
    rw [if_neg c, if_neg c]
    exact h
theorem cs_emit {E : xE} {z : Nat} {T : Nat → Nat × Int} {F : Nat → Nat → Int} {I : Nat → Int → Int} {P : Nat → Nat → Option Nat} {Y : Nat → Int → Option Nat} {s r : Nat} (hr : wLrd T P r s) (hsr : s + 4 ≤ r) {i : Nat} {fl u v : Int} {g : Int → Int} (hu : 0 ≤ u ∧ u < 400) : Ct E 0 mX4_emit 0 0 [.ref r, J v] (z, T, fZ F s r (i) (fl) (u), upA I (r + 4) (g), P, Y) (xd none (z, T, fZ F s r (i) (fl) (u + 1), upA I (r + 4) (wS g u v), P, Y)) := by
  have h := ct_X4_emit (E := E) (z := z) (F := fZ F s r i fl u) (I := upA I (r + 4) g) (Y := Y) (v := v) hr (by rw [fZ_6 (by omega)]; omega)
  unfold lEmF lEmI at h
  rw [fZ_6 (by omega), if_pos hu.2, if_pos hu.2, fZ_s6 (by omega), upA_wS] at h
  exact h
