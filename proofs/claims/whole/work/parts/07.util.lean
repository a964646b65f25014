theorem xg_join2 {E : xE} {M : xM} {R : Room} {X : xX} {pc : Nat} {L : List (Option Value)} {a b : Value} {st : List Value} {h : xH} {c n : Nat} (q : Nat) (φ : Int → Prop) (hj : ∀ x : Int, φ x → xG E M R X q L (J x :: st) h c n) (body : (∀ x : Int, φ x → xG E M R X q L (J x :: st) h c n) → xG E M R X pc L (a :: b :: st) h c n) : xG E M R X pc L (a :: b :: st) h c n := body hj
theorem xg_join1 {E : xE} {M : xM} {R : Room} {X : xX} {pc : Nat} {L : List (Option Value)} {a : Value} {st : List Value} {h : xH} {c n : Nat} (q : Nat) (φ : Int → Prop) (hj : ∀ x : Int, φ x → xG E M R X q L (J x :: st) h c n) (body : (∀ x : Int, φ x → xG E M R X q L (J x :: st) h c n) → xG E M R X pc L (a :: st) h c n) : xG E M R X pc L (a :: st) h c n := body hj
theorem xg_join0 {E : xE} {M : xM} {R : Room} {X : xX} {pc : Nat} {L : List (Option Value)} {st : List Value} {h : xH} {c n : Nat} (q : Nat) (φ : Int → Prop) (hj : ∀ x : Int, φ x → xG E M R X q L (J x :: st) h c n) (body : (∀ x : Int, φ x → xG E M R X q L (J x :: st) h c n) → xG E M R X pc L st h c n) : xG E M R X pc L st h c n := body hj
theorem xle_0 {u : List (Option Value)} : xle [] u := by cases u <;> trivial
theorem xle_n {t u : List (Option Value)} {x : Option Value} (h : xle t u) : xle (none :: t) (x :: u) := h
theorem xle_s {t u : List (Option Value)} {v : Value} {w : Option Value} (e : w = some v) (h : xle t u) : xle (some v :: t) (w :: u) := ⟨e, h⟩
/-! many elements at once -/
def upR (I : Nat → Int → Int) (a : Nat) (lo hi v : Int) : Nat → Int → Int := fun b j => if b = a ∧ lo ≤ j ∧ j < hi then v else I b j
def upC (I : Nat → Int → Int) (a : Nat) (lo hi : Int) (f : Int → Int) : Nat → Int → Int := fun b j => if b = a ∧ lo ≤ j ∧ j < hi then f j else I b j
theorem upR_0 (I : Nat → Int → Int) (a : Nat) (lo v : Int) : upR I a lo lo v = I := by funext b j; exact if_neg (fun q => by omega)
theorem upR_s (I : Nat → Int → Int) (a : Nat) (lo hi v : Int) (h : lo ≤ hi) : upI (upR I a lo hi v) a hi v = upR I a lo (hi + 1) v := by
  funext b j
  unfold upI upR
  by_cases hb : b = a
  · by_cases hj : j = hi
    · subst hj; rw [if_pos ⟨hb, rfl⟩, if_pos ⟨hb, h, by omega⟩]
    · by_cases h1 : lo ≤ j ∧ j < hi
      · rw [if_neg (by omega), if_pos ⟨hb, h1⟩, if_pos ⟨hb, by omega⟩]
      · rw [if_neg (by omega), if_neg (by omega), if_neg (by omega)]
  · simp [hb]
theorem upR_na (I : Nat → Int → Int) (a : Nat) (lo hi v : Int) {b : Nat} (h : b ≠ a) : upR I a lo hi v b = I b := by funext j; exact if_neg (fun q => h q.1)
theorem upR_at (I : Nat → Int → Int) (a : Nat) (lo hi v : Int) {j : Int} (h : lo ≤ j ∧ j < hi) : upR I a lo hi v a j = v := if_pos ⟨rfl, h⟩
theorem upC_na (I : Nat → Int → Int) (a : Nat) (lo hi : Int) (f : Int → Int) {b : Nat} (h : b ≠ a) : upC I a lo hi f b = I b := by funext j; exact if_neg (fun q => h q.1)
theorem upC_at (I : Nat → Int → Int) (a : Nat) (lo hi : Int) (f : Int → Int) {j : Int} (h : lo ≤ j ∧ j < hi) : upC I a lo hi f a j = f j := if_pos ⟨rfl, h⟩
theorem upRI_comm (I : Nat → Int → Int) (a b : Nat) (lo hi v k w : Int) (h : a ≠ b) : upI (upR I a lo hi v) b k w = upR (upI I b k w) a lo hi v := by
  funext x j
  unfold upI upR
  by_cases hx : x = b
  · subst hx; simp [Ne.symm h]
  · simp [hx]
/-! the words of the rows -/
/-- how many keys from lo on, m of them, hold -/
def sCnt (p : Int → Bool) : Nat → Int → Int
  | 0, _ => 0
  | m + 1, lo => (if p lo = true then 1 else 0) + sCnt p m (lo + 1)
theorem sCnt_last (p : Int → Bool) : ∀ (m : Nat) (lo : Int), sCnt p (m + 1) lo = sCnt p m lo + (if p (lo + m) = true then 1 else 0)
  | 0, lo => by simp [sCnt]
  | m + 1, lo => by
    have h := sCnt_last p m (lo + 1)
    rw [sCnt, h, sCnt]
    rw [show lo + 1 + (m : Int) = lo + ((m + 1 : Nat) : Int) by omega]
    omega
theorem sCnt_bd (p : Int → Bool) : ∀ (m : Nat) (lo : Int), 0 ≤ sCnt p m lo ∧ sCnt p m lo ≤ m
  | 0, lo => by simp [sCnt]
  | m + 1, lo => by
    have h := sCnt_bd p m (lo + 1)
    rw [sCnt]
    split <;> omega
def sKey (f : Int → Int) : Nat → Int → Int → Int
  | 0, _, _ => -1
  | m + 1, key, left => if left < 0 then -1 else if f key = -1 then sKey f m (key + 1) left else if left = 0 then key else sKey f m (key + 1) (left - 1)
def sMost (f g : Int → Int) : Nat → Int → Int → Int
  | 0, _, acc => acc
  | m + 1, key, acc => sMost f g m (key + 1) (if f key ≠ -1 ∧ acc < g key then g key else acc)
def wRow (T : Nat → Nat × Int) (P : Nat → Nat → Option Nat) (a : Nat) : Prop := (T a).1 = 7 ∧ P a 0 = some (a + 1) ∧ P a 1 = some (a + 2) ∧ ((T (a + 1)).1 = 14 ∧ (T (a + 1)).2 = 60) ∧ (T (a + 2)).1 = 14 ∧ (T (a + 2)).2 = 60
