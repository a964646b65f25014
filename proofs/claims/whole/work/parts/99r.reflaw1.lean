/-! the reference reads a law -/
/-- the reader at p, its word's begin b, d deep, c codes so far -/
def fR (F : Nat → Nat → Int) (m : Nat) (p b d c : Int) : Nat → Nat → Int := fun a j => if a = m ∧ j = 10 then p else if a = m ∧ j = 12 then b else if a = m ∧ j = 13 then d else if a = m ∧ j = 16 then c else F a j
section FRR
variable {F : Nat → Nat → Int} {m : Nat} {p b d c x y : Int}
theorem fR_10 : fR F m p b d c m 10 = p := if_pos ⟨rfl, rfl⟩
theorem fR_12 : fR F m p b d c m 12 = b := by unfold fR; rw [if_neg (by omega), if_pos ⟨rfl, rfl⟩]
theorem fR_13 : fR F m p b d c m 13 = d := by unfold fR; rw [if_neg (by omega), if_neg (by omega), if_pos ⟨rfl, rfl⟩]
theorem fR_16 : fR F m p b d c m 16 = c := by unfold fR; rw [if_neg (by omega), if_neg (by omega), if_neg (by omega), if_pos ⟨rfl, rfl⟩]
theorem fR_o {a j : Nat} (h : a ≠ m ∨ (j ≠ 10 ∧ j ≠ 12 ∧ j ≠ 13 ∧ j ≠ 16)) : fR F m p b d c a j = F a j := by unfold fR; rw [if_neg (by omega), if_neg (by omega), if_neg (by omega), if_neg (by omega)]
theorem fR_pos : fPos (fR F m p b d c) m x y = fR F m x y d c := by
  funext a j; unfold fPos fR
  (repeat' split) <;> first | rfl | omega
theorem fR_s10 : upF (fR F m p b d c) m 10 x = fR F m x b d c := by
  funext a j; unfold upF fR
  (repeat' split) <;> first | rfl | omega
theorem fR_s12 : upF (fR F m p b d c) m 12 x = fR F m p x d c := by
  funext a j; unfold upF fR
  (repeat' split) <;> first | rfl | omega
theorem fR_s13 : upF (fR F m p b d c) m 13 x = fR F m p b x c := by
  funext a j; unfold upF fR
  (repeat' split) <;> first | rfl | omega
theorem fR_s16 : upF (fR F m p b d c) m 16 x = fR F m p b d x := by
  funext a j; unfold upF fR
  (repeat' split) <;> first | rfl | omega
theorem fR_id : fR F m (F m 10) (F m 12) (F m 13) (F m 16) = F := by
  funext a j; unfold fR
  (repeat' split) <;> first | rfl | (rename_i h; rw [h.1, h.2])
end FRR
/-! codes laid one behind another -/
def pW (w w' : Int → Int) (c : Int) (cs : List (Int × Int)) : Prop := (∀ j : Int, j < 2801 + 2 * c ∨ 3601 ≤ j → w' j = w j) ∧ ∀ i : Nat, i < cs.length → w' (2801 + 2 * (c + i)) = (cs.getD i (0, 0)).1 ∧ w' (2801 + 2 * (c + i) + 1) = (cs.getD i (0, 0)).2
section PWS
variable {w w1 w2 : Int → Int} {c x y : Int} {a b : List (Int × Int)}
theorem pW.nil : pW w w c [] := ⟨fun _ _ => rfl, fun i hi => absurd hi (Nat.not_lt_zero i)⟩
theorem getD_app {a b : List (Int × Int)} {i : Nat} : (a ++ b).getD i (0, 0) = if i < a.length then a.getD i (0, 0) else b.getD (i - a.length) (0, 0) := by
  split
  · rename_i h; rw [List.getD_eq_getElem?_getD, List.getD_eq_getElem?_getD, List.getElem?_append_left h]
  · rename_i h; rw [List.getD_eq_getElem?_getD, List.getD_eq_getElem?_getD, List.getElem?_append_right (by omega)]
theorem pW.app {c1 : Int} (h1 : pW w w1 c a) (h2 : pW w1 w2 c1 b) (hc : c1 = c + a.length) : pW w w2 c (a ++ b) := by
  subst hc
  refine ⟨fun j hj => (h2.1 j (by omega)).trans (h1.1 j hj), fun i hi => ?_⟩
  rw [getD_app]
  rw [List.length_append] at hi
  by_cases e : i < a.length
  · rw [if_pos e, h2.1 _ (by omega), h2.1 _ (by omega)]; exact h1.2 i e
  · rw [if_neg e]
    have h3 := h2.2 (i - a.length) (by omega)
    rw [show c + (a.length : Int) + ((i - a.length : Nat) : Int) = c + (i : Int) by omega] at h3
    exact h3
theorem pW.em (hc : 0 ≤ c ∧ c < 400) : pW w (wEm w c x y) c [(x, y)] := by
  refine ⟨fun j hj => ?_, fun i hi => ?_⟩
  · unfold wEm; rw [wS_ne _ _ _ (by omega), wS_ne _ _ _ (by omega)]
  · have : i = 0 := by simp only [List.length_cons, List.length_nil] at hi; omega
    subst this
    rw [show c + ((0 : Nat) : Int) = c by omega]
    unfold wEm
    exact ⟨by rw [wS_ne _ _ _ (by omega), wS_at]; rfl, by rw [wS_at]; rfl⟩
theorem pW.em2 {c1 : Int} (h1 : pW w w1 c a) (hc : c1 = c + a.length) (h0 : 0 ≤ c1 ∧ c1 < 400) : pW w (wEm w1 c1 x y) c (a ++ [(x, y)]) := h1.app (pW.em h0) hc
theorem pW.out (h : pW w w1 c a) (hc : 0 ≤ c) {j : Int} (hj : j < 2801 ∨ 3601 ≤ j) : w1 j = w j := h.1 j (by omega)
theorem w32_em (h : w32 w) (hx : -1000 ≤ x ∧ x ≤ 1000) (hy : -1000 ≤ y ∧ y ≤ 1000) : w32 (wEm w c x y) := w32_S (w32_S h _ _ (by omega)) _ _ (by omega)
end PWS
/-- a piece is read, or not -/
def rOk (m z : Nat) (T : Nat → Nat × Int) (F : Nat → Nat → Int) (I : Nat → Int → Int) (P : Nat → Nat → Option Nat) (Y : Nat → Int → Option Nat) (t : Int → Int) (e d c : Int) (w : Int → Int) (cs : List (Int × Int)) (q : Int) : Option Value → xH → Prop :=
  fun v h' => v = some (J 1) ∧ ∃ (p b c1 : Int) (w1 : Int → Int), zSk t e p = q ∧ (0 ≤ p ∧ p ≤ e) ∧ c1 = c + cs.length ∧ pW w w1 c cs ∧ w32 w1 ∧ h' = (z, T, fR F m p b d c1, upA I (m + 1) w1, P, Y)
def rNo (m z : Nat) (T : Nat → Nat × Int) (F : Nat → Nat → Int) (I : Nat → Int → Int) (P : Nat → Nat → Option Nat) (Y : Nat → Int → Option Nat) (w : Int → Int) (f : Int) : Option Value → xH → Prop :=
  fun v h' => v = some (J 0) ∧ ∃ (p d c1 : Int) (w1 : Int → Int), (∀ j : Int, j < 2801 ∨ 3601 ≤ j → w1 j = w j) ∧ w32 w1 ∧ h' = (z, T, fR F m p f d c1, upA I (m + 1) w1, P, Y)
def rRes (m z : Nat) (T : Nat → Nat × Int) (F : Nat → Nat → Int) (I : Nat → Int → Int) (P : Nat → Nat → Option Nat) (Y : Nat → Int → Option Nat) (t : Int → Int) (e d c : Int) (w : Int → Int) : gRz → Option Value → xH → Prop
  | .inl f => rNo m z T F I P Y w f
  | .inr (cs, q) => rOk m z T F I P Y t e d c w cs q
theorem zX_s {t : Int → Int} {e q c : Int} (ht : ∀ j : Int, 0 ≤ j → j < e → 0 ≤ t j ∧ t j ≤ 255) (h0 : 0 ≤ q) (hc : zCs c = 100 ∧ 0 ≤ c ∧ c < 128) (h : zK t e q = 100 + c) : q < e ∧ zSk t e (q + 1) = zX t e q := by
  have h1 := (zK_s ht h0 hc).mp h
  refine ⟨h1.1, ?_⟩
  unfold zX
  rw [zLen_s (by rw [h1.2]; exact hc.1)]
theorem zDg_51 {t : Int → Int} {e q : Int} (ht : ∀ j : Int, 0 ≤ j → j < e → 0 ≤ t j ∧ t j ≤ 255) (h0 : 0 ≤ q) (h : zK t e q = 51) : q < e ∧ zDg t e q = zLen t q e := by
  have h1 := (zK_51 ht h0).mp h
  exact ⟨h1.1, by unfold zDg; rw [if_pos h1]⟩
theorem zLt_q {t : Int → Int} {e q : Int} (h : zLt t e q = q) : ¬ (q < e ∧ zCs (t q) = 50) := by
  intro c
  have := zLen_b (t := t) c.1
  unfold zLt at h
  rw [if_pos c] at h
  omega
theorem zLt_n {t : Int → Int} {e q : Int} (h : zLt t e q ≠ q) : q < e ∧ zCs (t q) = 50 ∧ zLt t e q = zLen t q e := by
  unfold zLt at h ⊢
  by_cases c : q < e ∧ zCs (t q) = 50
  · rw [if_pos c]; exact ⟨c.1, c.2, rfl⟩
  · rw [if_neg c] at h; exact absurd rfl h
theorem zK_ge {t : Int → Int} {e q : Int} (ht : ∀ j : Int, 0 ≤ j → j < e → 0 ≤ t j ∧ t j ≤ 255) (h0 : 0 ≤ q) (h : ¬ (q < e ∧ zCs (t q) = 50)) : 51 ≤ zK t e q := by
  rcases zK_3 t e q with ⟨a, b, c⟩ | ⟨a, b, c⟩ | ⟨a, b, c⟩ | ⟨a, c⟩
  · exact absurd ⟨a, b⟩ h
  · omega
  · have := ht q h0 a; omega
  · omega
theorem zK_le {t : Int → Int} {e q : Int} (h : q < e ∧ zCs (t q) = 50) : zK t e q = 50 ∨ (0 ≤ zK t e q ∧ zK t e q < 21) := by
  have hw := zWrd_21 t q (zLen t q e)
  rcases zK_3 t e q with ⟨a, b, c⟩ | ⟨a, b, c⟩ | ⟨a, b, c⟩ | ⟨a, c⟩ <;> omega
theorem gTail_out {t : Int → Int} {e q : Int} {acc : List (Int × Int)} (h : zK t e q ≠ 143) : ∀ k : Nat, gTail t e k q acc = .inr (acc, q)
  | 0 => rfl
  | k + 1 => by rw [gTail, if_neg h]
theorem gMore_out {t : Int → Int} {e k c q : Int} {p : Int → gRz} {acc : List (Int × Int)} (h : zK t e q ≠ k) : ∀ n : Nat, gMore t e k c p n q acc = .inr (acc, q)
  | 0 => rfl
  | n + 1 => by rw [gMore, if_neg h]

theorem cr_blanks {E : xE} {z : Nat} {T : Nat → Nat × Int} {F : Nat → Nat → Int} {I : Nat → Int → Int} {P : Nat → Nat → Option Nat} {Y : Nat → Int → Option Nat} {m : Nat} {w : Int → Int} (hw : wM T P m) (hT : ∀ j : Int, -128 ≤ I (m + 6) j ∧ I (m + 6) j ≤ 127) {t : Int → Int} {e : Int} (ht : rTp t (I (m + 6)) e) (he : 0 ≤ e ∧ e ≤ 400) (h11 : F m 11 = e) {p b dp c q : Int} (hp : 0 ≤ p ∧ p ≤ e) (hq : zSk t e p = q) : Ct E 1 mX12_blanks 0 0 [.ref m] (z, T, fR F m (p) (b) (dp) (c), upA I (m + 1) (w), P, Y) (xd none (z, T, fR F m (q) (q) (dp) (c), upA I (m + 1) (w), P, Y)) := by
  have h := cz_blanks (E := E) (z := z) (F := fR F m p b dp c) (Y := Y) (w := w) (q := q) hw hT ht he (by rw [fR_o (by omega)]; exact h11) (by rw [fR_10]; exact hp) (by rw [fR_10]; exact hq)
  rw [fR_pos] at h
  exact h
theorem cr_letters {E : xE} {z : Nat} {T : Nat → Nat × Int} {F : Nat → Nat → Int} {I : Nat → Int → Int} {P : Nat → Nat → Option Nat} {Y : Nat → Int → Option Nat} {m : Nat} {w : Int → Int} (hw : wM T P m) (hT : ∀ j : Int, -128 ≤ I (m + 6) j ∧ I (m + 6) j ≤ 127) {t : Int → Int} {e : Int} (ht : rTp t (I (m + 6)) e) (he : 0 ≤ e ∧ e ≤ 400) (h11 : F m 11 = e) {p b dp c q : Int} (hp : 0 ≤ p ∧ p ≤ e) (hq : zSk t e p = q) : Ct E 2 mX12_letters 0 0 [.ref m] (z, T, fR F m (p) (b) (dp) (c), upA I (m + 1) (w), P, Y) (xd none (z, T, fR F m (zLt t e q) (q) (dp) (c), upA I (m + 1) (w), P, Y)) := by
  have h := cz_letters (E := E) (z := z) (F := fR F m p b dp c) (Y := Y) (w := w) (q := q) hw hT ht he (by rw [fR_o (by omega)]; exact h11) (by rw [fR_10]; exact hp) (by rw [fR_10]; exact hq)
  rw [fR_pos] at h
  exact h
theorem cr_number {E : xE} {z : Nat} {T : Nat → Nat × Int} {F : Nat → Nat → Int} {I : Nat → Int → Int} {P : Nat → Nat → Option Nat} {Y : Nat → Int → Option Nat} {m : Nat} {w : Int → Int} (hw : wM T P m) (hT : ∀ j : Int, -128 ≤ I (m + 6) j ∧ I (m + 6) j ≤ 127) {t : Int → Int} {e : Int} (ht : rTp t (I (m + 6)) e) (he : 0 ≤ e ∧ e ≤ 400) (h11 : F m 11 = e) {p b dp c q : Int} (hp : 0 ≤ p ∧ p ≤ e) (hq : zSk t e p = q) {lo hi : Int} (hlh : 0 ≤ lo ∧ lo ≤ 1000 ∧ -1000 ≤ hi ∧ hi ≤ 1000) : Ct E 2 mX12_number 0 0 [.ref m, J lo, J hi] (z, T, fR F m (p) (b) (dp) (c), upA I (m + 1) (w), P, Y) (xd (some (J (zNb0 t e q lo hi))) (z, T, fR F m (zDg t e q) (q) (dp) (c), upA I (m + 1) (w), P, Y)) := by
  have h := cz_number (E := E) (z := z) (F := fR F m p b dp c) (Y := Y) (w := w) (q := q) hw hT ht he (by rw [fR_o (by omega)]; exact h11) (by rw [fR_10]; exact hp) (by rw [fR_10]; exact hq) hlh
  rw [fR_pos] at h
  exact h
theorem cr_isFigure {E : xE} {z : Nat} {T : Nat → Nat × Int} {F : Nat → Nat → Int} {I : Nat → Int → Int} {P : Nat → Nat → Option Nat} {Y : Nat → Int → Option Nat} {m : Nat} {w : Int → Int} (hw : wM T P m) (hT : ∀ j : Int, -128 ≤ I (m + 6) j ∧ I (m + 6) j ≤ 127) {t : Int → Int} {e : Int} (ht : rTp t (I (m + 6)) e) (he : 0 ≤ e ∧ e ≤ 400) (h11 : F m 11 = e) {p b dp c q : Int} (hp : 0 ≤ p ∧ p ≤ e) (hq : zSk t e p = q) : Ct E 2 mX12_isFigure 0 0 [.ref m] (z, T, fR F m (p) (b) (dp) (c), upA I (m + 1) (w), P, Y) (xd (some (J (bI (decide (zK t e q = 51))))) (z, T, fR F m (q) (q) (dp) (c), upA I (m + 1) (w), P, Y)) := by
  have h := cz_isFigure (E := E) (z := z) (F := fR F m p b dp c) (Y := Y) (w := w) (q := q) hw hT ht he (by rw [fR_o (by omega)]; exact h11) (by rw [fR_10]; exact hp) (by rw [fR_10]; exact hq)
  rw [fR_pos] at h
  exact h
theorem cr_sign {E : xE} {z : Nat} {T : Nat → Nat × Int} {F : Nat → Nat → Int} {I : Nat → Int → Int} {P : Nat → Nat → Option Nat} {Y : Nat → Int → Option Nat} {m : Nat} {w : Int → Int} (hw : wM T P m) (hT : ∀ j : Int, -128 ≤ I (m + 6) j ∧ I (m + 6) j ≤ 127) {t : Int → Int} {e : Int} (ht : rTp t (I (m + 6)) e) (he : 0 ≤ e ∧ e ≤ 400) (h11 : F m 11 = e) {p b dp c q : Int} (hp : 0 ≤ p ∧ p ≤ e) (hq : zSk t e p = q) {ch : Int} (hc : zCs ch = 100 ∧ 0 ≤ ch ∧ ch < 128) : Ct E 2 mX12_sign 0 0 [.ref m, J ch] (z, T, fR F m (p) (b) (dp) (c), upA I (m + 1) (w), P, Y) (xd (some (J (bI (decide (zK t e q = 100 + ch))))) (z, T, fR F m (if zK t e q = 100 + ch then q + 1 else q) (q) (dp) (c), upA I (m + 1) (w), P, Y)) := by
  have h := cz_sign (E := E) (z := z) (F := fR F m p b dp c) (Y := Y) (w := w) (q := q) hw hT ht he (by rw [fR_o (by omega)]; exact h11) (by rw [fR_10]; exact hp) (by rw [fR_10]; exact hq) hc
  rw [fR_pos] at h
  exact h
theorem cr_isWord {E : xE} {z : Nat} {T : Nat → Nat × Int} {F : Nat → Nat → Int} {I : Nat → Int → Int} {P : Nat → Nat → Option Nat} {Y : Nat → Int → Option Nat} {m : Nat} {w : Int → Int} (hw : wM T P m) (hT : ∀ j : Int, -128 ≤ I (m + 6) j ∧ I (m + 6) j ≤ 127) {t : Int → Int} {e : Int} (ht : rTp t (I (m + 6)) e) (he : 0 ≤ e ∧ e ≤ 400) (h11 : F m 11 = e) {dp c q : Int} (hq : 0 ≤ q ∧ q ≤ e) {ad adv : Nat → Nat} {sio : Option Nat} (hW : ∀ u : State, E.2.2.2.2 u → oWs E.2.2.2.1 ad adv sio u) {i : Nat} (hi : i < 21) : Ct E 4 mX12_isWord 0 0 [.ref m, .ref (ad i)] (z, T, fR F m (zLt t e q) (q) (dp) (c), upA I (m + 1) (w), P, Y) (xd (some (J (bI (decide (zK t e q = (i : Int)))))) (z, T, fR F m (zLt t e q) (q) (dp) (c), upA I (m + 1) (w), P, Y)) :=
  cz_isWord (E := E) (z := z) (F := fR F m (zLt t e q) q dp c) (Y := Y) (w := w) hw hT ht he hq hW hi fR_10 fR_12
theorem cr_emits {E : xE} {z : Nat} {T : Nat → Nat × Int} {F : Nat → Nat → Int} {I : Nat → Int → Int} {P : Nat → Nat → Option Nat} {Y : Nat → Int → Option Nat} {m : Nat} {w : Int → Int} (hw : wM T P m) (hT : ∀ j : Int, -128 ≤ I (m + 6) j ∧ I (m + 6) j ≤ 127) {t : Int → Int} {e : Int} (ht : rTp t (I (m + 6)) e) (he : 0 ≤ e ∧ e ≤ 400) (h11 : F m 11 = e) {p b dp c x y : Int} (hc : 0 ≤ c ∧ c < 400) : Ct E 0 mX12_emits 0 0 [.ref m, J x, J y] (z, T, fR F m (p) (b) (dp) (c), upA I (m + 1) (w), P, Y) (xd none (z, T, fR F m (p) (b) (dp) (c + 1), upA I (m + 1) (wEm w c x y), P, Y)) := by
  have h := ct_X12_emits (E := E) (z := z) (F := fR F m p b dp c) (I := I) (Y := Y) (w := w) (a := x) (b := y) hw (by rw [fR_16]; exact hc)
  rw [fR_16, fR_s16] at h
  exact h
theorem dX12_passes_0 : decode cX12_passes 0 = .ok (.aload_n 0, 1) := by decide +kernel
theorem dX12_passes_1 : decode cX12_passes 1 = .ok (.invokevirtual 108, 3) := by decide +kernel
theorem dX12_passes_4 : decode cX12_passes 4 = .ok (.aload_n 0, 1) := by decide +kernel
theorem dX12_passes_5 : decode cX12_passes 5 = .ok (.aload_n 1, 1) := by decide +kernel
theorem dX12_passes_6 : decode cX12_passes 6 = .ok (.invokevirtual 111, 3) := by decide +kernel
theorem dX12_passes_9 : decode cX12_passes 9 = .ok (.ifCond .eq 5, 3) := by decide +kernel
theorem dX12_passes_12 : decode cX12_passes 12 = .ok (.iconst 1, 1) := by decide +kernel
theorem dX12_passes_13 : decode cX12_passes 13 = .ok (.ireturn, 1) := by decide +kernel
theorem dX12_passes_14 : decode cX12_passes 14 = .ok (.aload_n 0, 1) := by decide +kernel
theorem dX12_passes_15 : decode cX12_passes 15 = .ok (.aload_n 0, 1) := by decide +kernel
theorem dX12_passes_16 : decode cX12_passes 16 = .ok (.getfield 93, 3) := by decide +kernel
theorem dX12_passes_19 : decode cX12_passes 19 = .ok (.putfield 83, 3) := by decide +kernel
theorem dX12_passes_22 : decode cX12_passes 22 = .ok (.iconst 0, 1) := by decide +kernel
theorem dX12_passes_23 : decode cX12_passes 23 = .ok (.ireturn, 1) := by decide +kernel
theorem dX12_wordOfPart_0 : decode cX12_wordOfPart 0 = .ok (.aload_n 0, 1) := by decide +kernel
theorem dX12_wordOfPart_1 : decode cX12_wordOfPart 1 = .ok (.ldc 118, 2) := by decide +kernel
theorem dX12_wordOfPart_3 : decode cX12_wordOfPart 3 = .ok (.invokevirtual 111, 3) := by decide +kernel
theorem dX12_wordOfPart_6 : decode cX12_wordOfPart 6 = .ok (.ifCond .eq 5, 3) := by decide +kernel
theorem dX12_wordOfPart_9 : decode cX12_wordOfPart 9 = .ok (.iconst 0, 1) := by decide +kernel
theorem dX12_wordOfPart_10 : decode cX12_wordOfPart 10 = .ok (.ireturn, 1) := by decide +kernel
theorem dX12_wordOfPart_11 : decode cX12_wordOfPart 11 = .ok (.aload_n 0, 1) := by decide +kernel
theorem dX12_wordOfPart_12 : decode cX12_wordOfPart 12 = .ok (.ldc 178, 2) := by decide +kernel
theorem dX12_wordOfPart_14 : decode cX12_wordOfPart 14 = .ok (.invokevirtual 111, 3) := by decide +kernel
theorem dX12_wordOfPart_17 : decode cX12_wordOfPart 17 = .ok (.ifCond .eq 5, 3) := by decide +kernel
theorem dX12_wordOfPart_20 : decode cX12_wordOfPart 20 = .ok (.iconst 1, 1) := by decide +kernel
theorem dX12_wordOfPart_21 : decode cX12_wordOfPart 21 = .ok (.ireturn, 1) := by decide +kernel
theorem dX12_wordOfPart_22 : decode cX12_wordOfPart 22 = .ok (.aload_n 0, 1) := by decide +kernel
theorem dX12_wordOfPart_23 : decode cX12_wordOfPart 23 = .ok (.ldc 179, 2) := by decide +kernel
theorem dX12_wordOfPart_25 : decode cX12_wordOfPart 25 = .ok (.invokevirtual 111, 3) := by decide +kernel
theorem dX12_wordOfPart_28 : decode cX12_wordOfPart 28 = .ok (.ifCond .eq 5, 3) := by decide +kernel
theorem dX12_wordOfPart_31 : decode cX12_wordOfPart 31 = .ok (.iconst 2, 1) := by decide +kernel
theorem dX12_wordOfPart_32 : decode cX12_wordOfPart 32 = .ok (.ireturn, 1) := by decide +kernel
theorem dX12_wordOfPart_33 : decode cX12_wordOfPart 33 = .ok (.aload_n 0, 1) := by decide +kernel
theorem dX12_wordOfPart_34 : decode cX12_wordOfPart 34 = .ok (.ldc 181, 2) := by decide +kernel
theorem dX12_wordOfPart_36 : decode cX12_wordOfPart 36 = .ok (.invokevirtual 111, 3) := by decide +kernel
theorem dX12_wordOfPart_39 : decode cX12_wordOfPart 39 = .ok (.ifCond .eq 5, 3) := by decide +kernel
theorem dX12_wordOfPart_42 : decode cX12_wordOfPart 42 = .ok (.iconst 3, 1) := by decide +kernel
theorem dX12_wordOfPart_43 : decode cX12_wordOfPart 43 = .ok (.ireturn, 1) := by decide +kernel
theorem dX12_wordOfPart_44 : decode cX12_wordOfPart 44 = .ok (.aload_n 0, 1) := by decide +kernel
theorem dX12_wordOfPart_45 : decode cX12_wordOfPart 45 = .ok (.ldc 151, 2) := by decide +kernel
theorem dX12_wordOfPart_47 : decode cX12_wordOfPart 47 = .ok (.invokevirtual 111, 3) := by decide +kernel
theorem dX12_wordOfPart_50 : decode cX12_wordOfPart 50 = .ok (.ifCond .eq 5, 3) := by decide +kernel
theorem dX12_wordOfPart_53 : decode cX12_wordOfPart 53 = .ok (.iconst 4, 1) := by decide +kernel
theorem dX12_wordOfPart_54 : decode cX12_wordOfPart 54 = .ok (.ireturn, 1) := by decide +kernel
theorem dX12_wordOfPart_55 : decode cX12_wordOfPart 55 = .ok (.aload_n 0, 1) := by decide +kernel
theorem dX12_wordOfPart_56 : decode cX12_wordOfPart 56 = .ok (.ldc 161, 2) := by decide +kernel
theorem dX12_wordOfPart_58 : decode cX12_wordOfPart 58 = .ok (.invokevirtual 111, 3) := by decide +kernel
theorem dX12_wordOfPart_61 : decode cX12_wordOfPart 61 = .ok (.ifCond .eq 5, 3) := by decide +kernel
theorem dX12_wordOfPart_64 : decode cX12_wordOfPart 64 = .ok (.iconst 5, 1) := by decide +kernel
theorem dX12_wordOfPart_65 : decode cX12_wordOfPart 65 = .ok (.ireturn, 1) := by decide +kernel
theorem dX12_wordOfPart_66 : decode cX12_wordOfPart 66 = .ok (.aload_n 0, 1) := by decide +kernel
theorem dX12_wordOfPart_67 : decode cX12_wordOfPart 67 = .ok (.ldc 173, 2) := by decide +kernel
theorem dX12_wordOfPart_69 : decode cX12_wordOfPart 69 = .ok (.invokevirtual 111, 3) := by decide +kernel
theorem dX12_wordOfPart_72 : decode cX12_wordOfPart 72 = .ok (.ifCond .eq 8, 3) := by decide +kernel
theorem dX12_wordOfPart_75 : decode cX12_wordOfPart 75 = .ok (.bipush 6, 2) := by decide +kernel
theorem dX12_wordOfPart_77 : decode cX12_wordOfPart 77 = .ok (.goto 4, 3) := by decide +kernel
theorem dX12_wordOfPart_80 : decode cX12_wordOfPart 80 = .ok (.iconst (-1), 1) := by decide +kernel
theorem dX12_wordOfPart_81 : decode cX12_wordOfPart 81 = .ok (.ireturn, 1) := by decide +kernel
theorem dX12_readPart_0 : decode cX12_readPart 0 = .ok (.aload_n 0, 1) := by decide +kernel
theorem dX12_readPart_1 : decode cX12_readPart 1 = .ok (.invokevirtual 108, 3) := by decide +kernel
theorem dX12_readPart_4 : decode cX12_readPart 4 = .ok (.aload_n 0, 1) := by decide +kernel
theorem dX12_readPart_5 : decode cX12_readPart 5 = .ok (.getfield 83, 3) := by decide +kernel
theorem dX12_readPart_8 : decode cX12_readPart 8 = .ok (.aload_n 0, 1) := by decide +kernel
theorem dX12_readPart_9 : decode cX12_readPart 9 = .ok (.getfield 93, 3) := by decide +kernel
theorem dX12_readPart_12 : decode cX12_readPart 12 = .ok (.if_icmp .ne 7, 3) := by decide +kernel
theorem dX12_readPart_15 : decode cX12_readPart 15 = .ok (.iconst 1, 1) := by decide +kernel
theorem dX12_readPart_16 : decode cX12_readPart 16 = .ok (.goto 4, 3) := by decide +kernel
theorem dX12_readPart_19 : decode cX12_readPart 19 = .ok (.iconst 0, 1) := by decide +kernel
theorem dX12_readPart_20 : decode cX12_readPart 20 = .ok (.istore_n 1, 1) := by decide +kernel
theorem dX12_readPart_21 : decode cX12_readPart 21 = .ok (.iload_n 1, 1) := by decide +kernel
theorem dX12_readPart_22 : decode cX12_readPart 22 = .ok (.ifCond .eq 14, 3) := by decide +kernel
theorem dX12_readPart_25 : decode cX12_readPart 25 = .ok (.aload_n 0, 1) := by decide +kernel
theorem dX12_readPart_26 : decode cX12_readPart 26 = .ok (.iconst 0, 1) := by decide +kernel
theorem dX12_readPart_27 : decode cX12_readPart 27 = .ok (.sipush 999, 3) := by decide +kernel
theorem dX12_readPart_30 : decode cX12_readPart 30 = .ok (.invokevirtual 115, 3) := by decide +kernel
theorem dX12_readPart_33 : decode cX12_readPart 33 = .ok (.goto 7, 3) := by decide +kernel
theorem dX12_readPart_36 : decode cX12_readPart 36 = .ok (.aload_n 0, 1) := by decide +kernel
theorem dX12_readPart_37 : decode cX12_readPart 37 = .ok (.invokevirtual 183, 3) := by decide +kernel
theorem dX12_readPart_40 : decode cX12_readPart 40 = .ok (.istore_n 2, 1) := by decide +kernel
theorem dX12_readPart_41 : decode cX12_readPart 41 = .ok (.aload_n 0, 1) := by decide +kernel
theorem dX12_readPart_42 : decode cX12_readPart 42 = .ok (.iload_n 1, 1) := by decide +kernel
theorem dX12_readPart_43 : decode cX12_readPart 43 = .ok (.ifCond .eq 8, 3) := by decide +kernel
theorem dX12_readPart_46 : decode cX12_readPart 46 = .ok (.bipush 10, 2) := by decide +kernel
theorem dX12_readPart_48 : decode cX12_readPart 48 = .ok (.goto 4, 3) := by decide +kernel
theorem dX12_readPart_51 : decode cX12_readPart 51 = .ok (.iload_n 2, 1) := by decide +kernel
theorem dX12_readPart_52 : decode cX12_readPart 52 = .ok (.iload_n 1, 1) := by decide +kernel
theorem dX12_readPart_53 : decode cX12_readPart 53 = .ok (.ifCond .eq 7, 3) := by decide +kernel
theorem dX12_readPart_56 : decode cX12_readPart 56 = .ok (.iload_n 2, 1) := by decide +kernel
theorem dX12_readPart_57 : decode cX12_readPart 57 = .ok (.goto 4, 3) := by decide +kernel
theorem dX12_readPart_60 : decode cX12_readPart 60 = .ok (.iconst 0, 1) := by decide +kernel
theorem dX12_readPart_61 : decode cX12_readPart 61 = .ok (.invokevirtual 186, 3) := by decide +kernel
theorem dX12_readPart_64 : decode cX12_readPart 64 = .ok (.iload_n 2, 1) := by decide +kernel
theorem dX12_readPart_65 : decode cX12_readPart 65 = .ok (.ifCond .lt 7, 3) := by decide +kernel
theorem dX12_readPart_68 : decode cX12_readPart 68 = .ok (.iconst 1, 1) := by decide +kernel
theorem dX12_readPart_69 : decode cX12_readPart 69 = .ok (.goto 4, 3) := by decide +kernel
theorem dX12_readPart_72 : decode cX12_readPart 72 = .ok (.iconst 0, 1) := by decide +kernel
theorem dX12_readPart_73 : decode cX12_readPart 73 = .ok (.ireturn, 1) := by decide +kernel
theorem dX12_readTag_0 : decode cX12_readTag 0 = .ok (.aload_n 0, 1) := by decide +kernel
theorem dX12_readTag_1 : decode cX12_readTag 1 = .ok (.invokevirtual 108, 3) := by decide +kernel
theorem dX12_readTag_4 : decode cX12_readTag 4 = .ok (.aload_n 0, 1) := by decide +kernel
theorem dX12_readTag_5 : decode cX12_readTag 5 = .ok (.ldc 197, 2) := by decide +kernel
theorem dX12_readTag_7 : decode cX12_readTag 7 = .ok (.invokevirtual 111, 3) := by decide +kernel
theorem dX12_readTag_10 : decode cX12_readTag 10 = .ok (.ifCond .eq 8, 3) := by decide +kernel
theorem dX12_readTag_13 : decode cX12_readTag 13 = .ok (.bipush 7, 2) := by decide +kernel
theorem dX12_readTag_15 : decode cX12_readTag 15 = .ok (.goto 32, 3) := by decide +kernel
theorem dX12_readTag_18 : decode cX12_readTag 18 = .ok (.aload_n 0, 1) := by decide +kernel
theorem dX12_readTag_19 : decode cX12_readTag 19 = .ok (.ldc 165, 2) := by decide +kernel
theorem dX12_readTag_21 : decode cX12_readTag 21 = .ok (.invokevirtual 111, 3) := by decide +kernel
theorem dX12_readTag_24 : decode cX12_readTag 24 = .ok (.ifCond .eq 8, 3) := by decide +kernel
theorem dX12_readTag_27 : decode cX12_readTag 27 = .ok (.bipush 8, 2) := by decide +kernel
theorem dX12_readTag_29 : decode cX12_readTag 29 = .ok (.goto 18, 3) := by decide +kernel
theorem dX12_readTag_32 : decode cX12_readTag 32 = .ok (.aload_n 0, 1) := by decide +kernel
theorem dX12_readTag_33 : decode cX12_readTag 33 = .ok (.ldc 199, 2) := by decide +kernel
theorem dX12_readTag_35 : decode cX12_readTag 35 = .ok (.invokevirtual 111, 3) := by decide +kernel
theorem dX12_readTag_38 : decode cX12_readTag 38 = .ok (.ifCond .eq 8, 3) := by decide +kernel
theorem dX12_readTag_41 : decode cX12_readTag 41 = .ok (.bipush 9, 2) := by decide +kernel
theorem dX12_readTag_43 : decode cX12_readTag 43 = .ok (.goto 4, 3) := by decide +kernel
theorem dX12_readTag_46 : decode cX12_readTag 46 = .ok (.iconst (-1), 1) := by decide +kernel
theorem dX12_readTag_47 : decode cX12_readTag 47 = .ok (.istore_n 1, 1) := by decide +kernel
theorem dX12_readTag_48 : decode cX12_readTag 48 = .ok (.iload_n 1, 1) := by decide +kernel
theorem dX12_readTag_49 : decode cX12_readTag 49 = .ok (.ifCond .lt 12, 3) := by decide +kernel
theorem dX12_readTag_52 : decode cX12_readTag 52 = .ok (.aload_n 0, 1) := by decide +kernel
theorem dX12_readTag_53 : decode cX12_readTag 53 = .ok (.iload_n 1, 1) := by decide +kernel
theorem dX12_readTag_54 : decode cX12_readTag 54 = .ok (.iconst 0, 1) := by decide +kernel
theorem dX12_readTag_55 : decode cX12_readTag 55 = .ok (.invokevirtual 186, 3) := by decide +kernel
theorem dX12_readTag_58 : decode cX12_readTag 58 = .ok (.goto 11, 3) := by decide +kernel
theorem dX12_readTag_61 : decode cX12_readTag 61 = .ok (.aload_n 0, 1) := by decide +kernel
theorem dX12_readTag_62 : decode cX12_readTag 62 = .ok (.aload_n 0, 1) := by decide +kernel
theorem dX12_readTag_63 : decode cX12_readTag 63 = .ok (.getfield 93, 3) := by decide +kernel
theorem dX12_readTag_66 : decode cX12_readTag 66 = .ok (.putfield 83, 3) := by decide +kernel
theorem dX12_readTag_69 : decode cX12_readTag 69 = .ok (.iload_n 1, 1) := by decide +kernel
theorem dX12_readTag_70 : decode cX12_readTag 70 = .ok (.ifCond .lt 7, 3) := by decide +kernel
theorem dX12_readTag_73 : decode cX12_readTag 73 = .ok (.iconst 1, 1) := by decide +kernel
theorem dX12_readTag_74 : decode cX12_readTag 74 = .ok (.goto 4, 3) := by decide +kernel
theorem dX12_readTag_77 : decode cX12_readTag 77 = .ok (.iconst 0, 1) := by decide +kernel
theorem dX12_readTag_78 : decode cX12_readTag 78 = .ok (.ireturn, 1) := by decide +kernel
set_option maxHeartbeats 4000000 in
set_option maxRecDepth 100000 in
theorem ct_X12_passes {E : xE} {z : Nat} {T : Nat → Nat × Int} {F : Nat → Nat → Int} {I : Nat → Int → Int} {P : Nat → Nat → Option Nat} {Y : Nat → Int → Option Nat} {m : Nat} {w : Int → Int} (hw : wM T P m) (hT : ∀ j : Int, -128 ≤ I (m + 6) j ∧ I (m + 6) j ≤ 127) {t : Int → Int} {e : Int} (ht : rTp t (I (m + 6)) e) (he : 0 ≤ e ∧ e ≤ 400) (h11 : F m 11 = e) {p b dp c q : Int} (hp : 0 ≤ p ∧ p ≤ e) (hq : zSk t e p = q) {ad adv : Nat → Nat} {sio : Option Nat} (hW : ∀ u : State, E.2.2.2.2 u → oWs E.2.2.2.1 ad adv sio u) {i : Nat} (hi : i < 21) : Ct E 5 mX12_passes 0 0 [.ref m, .ref (ad i)] (z, T, fR F m (p) (b) (dp) (c), upA I (m + 1) (w), P, Y) (xd (some (J (bI (decide (zK t e q = (i : Int)))))) (z, T, fR F m (if zK t e q = (i : Int) then zLen t q e else q) (q) (dp) (c), upA I (m + 1) (w), P, Y)) := by
  obtain ⟨⟨q0, q1, q2, q3⟩, -⟩ := id hw
  have hqb := zSk_b (t := t) hp.2
  rw [hq] at hqb
  have htb : ∀ j : Int, 0 ≤ j → j < e → 0 ≤ t j ∧ t j ≤ 255 := fun j a b => (ht j a b).1
  refine Ct.of [some (.ref m), some (.ref (ad i))] kt_X12_passes rfl (Nat.le_of_ble_eq_true rfl) rfl (fun d hd => ?_)
  generalize hX : xN E _ _ _ = X
  refine xg_aloadn 1 dX12_passes_0 rfl rfl rfl ?_
  refine xg_callV 4 12 [] _ kv_X12_letters ⟨_, _, rfl⟩ kl_RX12_108 dX12_passes_1 rfl (by assumption) (by omega) rfl rfl (Nat.le_of_ble_eq_true rfl) (by omega) ⟨Nat.le_refl _, Nat.le_refl _⟩ (cr_letters hw hT ht he h11 hp hq) rfl ?_
  refine xg_aloadn 5 dX12_passes_4 rfl rfl rfl ?_
  refine xg_aloadn 6 dX12_passes_5 rfl rfl rfl ?_
  refine xg_callV 9 12 [_] _ kv_X12_isWord ⟨_, _, rfl⟩ kl_RX12_111 dX12_passes_6 rfl (by assumption) (by omega) rfl rfl (Nat.le_of_ble_eq_true rfl) (by omega) ⟨Nat.le_refl _, Nat.le_refl _⟩ (cr_isWord hw hT ht he h11 ⟨by omega, by omega⟩ hW hi) rfl ?_
  refine xg_deq 14 12 dX12_passes_9 rfl rfl (fun hb9 => ?_) (fun hb9 => ?_)
  · skip
    refine xg_aloadn 15 dX12_passes_14 rfl rfl rfl ?_
    refine xg_aloadn 16 dX12_passes_15 rfl rfl rfl ?_
    refine xg_getI 19 kf_RX12_93 dX12_passes_16 rfl (by assumption) ?_
    rw [fR_12]
    refine xg_putI 22 kf_RX12_83 dX12_passes_19 rfl (by assumption) ?_
    refine xg_iconst 23 dX12_passes_22 rfl ?_
    subst hX
    exact xg_zreturn dX12_passes_23 rfl (by first | exact bI_01 _ | omega) ⟨Nat.le_refl _, Nat.le_refl _⟩ ⟨by rw [decide_eq_false hb9]; rfl, by rw [if_neg hb9, fR_s10]⟩
  · skip
    refine xg_iconst 13 dX12_passes_12 rfl ?_
    subst hX
    exact xg_zreturn dX12_passes_13 rfl (by first | exact bI_01 _ | omega) ⟨Nat.le_refl _, Nat.le_refl _⟩ ⟨by rw [decide_eq_true hb9]; rfl, by rw [if_pos hb9, (zK_word hi (by omega) htb hb9).2]⟩

set_option maxHeartbeats 4000000 in
set_option maxRecDepth 100000 in
theorem ct_X12_wordOfPart {E : xE} {z : Nat} {T : Nat → Nat × Int} {F : Nat → Nat → Int} {I : Nat → Int → Int} {P : Nat → Nat → Option Nat} {Y : Nat → Int → Option Nat} {m : Nat} {w : Int → Int} (hw : wM T P m) (hT : ∀ j : Int, -128 ≤ I (m + 6) j ∧ I (m + 6) j ≤ 127) {t : Int → Int} {e : Int} (ht : rTp t (I (m + 6)) e) (he : 0 ≤ e ∧ e ≤ 400) (h11 : F m 11 = e) {dp c q : Int} (hqb : 0 ≤ q ∧ q ≤ e) {ad adv : Nat → Nat} {sio : Option Nat} (hW : ∀ u : State, E.2.2.2.2 u → oWs E.2.2.2.1 ad adv sio u) : Ct E 5 mX12_wordOfPart 0 0 [.ref m] (z, T, fR F m (zLt t e q) (q) (dp) (c), upA I (m + 1) (w), P, Y) (xd (some (J (if 0 ≤ zK t e q ∧ zK t e q ≤ 6 then zK t e q else -1))) (z, T, fR F m (zLt t e q) (q) (dp) (c), upA I (m + 1) (w), P, Y)) := by
  obtain ⟨⟨q0, q1, q2, q3⟩, -⟩ := id hw
  refine Ct.of [some (.ref m)] kt_X12_wordOfPart rfl (Nat.le_of_ble_eq_true rfl) rfl (fun d hd => ?_)
  generalize hX : xN E _ _ _ = X
  refine xg_aloadn 1 dX12_wordOfPart_0 rfl rfl rfl ?_
  refine xg_ldcS 3 rfl (fun u hu => oWs_118 (hW u hu)) dX12_wordOfPart_1 rfl ?_
  refine xg_callV 6 12 [_] _ kv_X12_isWord ⟨_, _, rfl⟩ kl_RX12_111 dX12_wordOfPart_3 rfl (by assumption) (by omega) rfl rfl (Nat.le_of_ble_eq_true rfl) (by omega) ⟨Nat.le_refl _, Nat.le_refl _⟩ (cr_isWord hw hT ht he h11 (by omega) hW (i := 0) (by omega)) rfl ?_
  refine xg_deq 11 9 dX12_wordOfPart_6 rfl rfl (fun hb6 => ?_) (fun hb6 => ?_)
  · skip
    refine xg_aloadn 12 dX12_wordOfPart_11 rfl rfl rfl ?_
    refine xg_ldcS 14 rfl (fun u hu => oWs_178 (hW u hu)) dX12_wordOfPart_12 rfl ?_
    refine xg_callV 17 12 [_] _ kv_X12_isWord ⟨_, _, rfl⟩ kl_RX12_111 dX12_wordOfPart_14 rfl (by assumption) (by omega) rfl rfl (Nat.le_of_ble_eq_true rfl) (by omega) ⟨Nat.le_refl _, Nat.le_refl _⟩ (cr_isWord hw hT ht he h11 (by omega) hW (i := 1) (by omega)) rfl ?_
    refine xg_deq 22 20 dX12_wordOfPart_17 rfl rfl (fun hb17 => ?_) (fun hb17 => ?_)
    · skip
      refine xg_aloadn 23 dX12_wordOfPart_22 rfl rfl rfl ?_
      refine xg_ldcS 25 rfl (fun u hu => oWs_179 (hW u hu)) dX12_wordOfPart_23 rfl ?_
      refine xg_callV 28 12 [_] _ kv_X12_isWord ⟨_, _, rfl⟩ kl_RX12_111 dX12_wordOfPart_25 rfl (by assumption) (by omega) rfl rfl (Nat.le_of_ble_eq_true rfl) (by omega) ⟨Nat.le_refl _, Nat.le_refl _⟩ (cr_isWord hw hT ht he h11 (by omega) hW (i := 2) (by omega)) rfl ?_
      refine xg_deq 33 31 dX12_wordOfPart_28 rfl rfl (fun hb28 => ?_) (fun hb28 => ?_)
      · skip
        refine xg_aloadn 34 dX12_wordOfPart_33 rfl rfl rfl ?_
        refine xg_ldcS 36 rfl (fun u hu => oWs_181 (hW u hu)) dX12_wordOfPart_34 rfl ?_
        refine xg_callV 39 12 [_] _ kv_X12_isWord ⟨_, _, rfl⟩ kl_RX12_111 dX12_wordOfPart_36 rfl (by assumption) (by omega) rfl rfl (Nat.le_of_ble_eq_true rfl) (by omega) ⟨Nat.le_refl _, Nat.le_refl _⟩ (cr_isWord hw hT ht he h11 (by omega) hW (i := 3) (by omega)) rfl ?_
        refine xg_deq 44 42 dX12_wordOfPart_39 rfl rfl (fun hb39 => ?_) (fun hb39 => ?_)
        · skip
          refine xg_aloadn 45 dX12_wordOfPart_44 rfl rfl rfl ?_
          refine xg_ldcS 47 rfl (fun u hu => oWs_151 (hW u hu)) dX12_wordOfPart_45 rfl ?_
          refine xg_callV 50 12 [_] _ kv_X12_isWord ⟨_, _, rfl⟩ kl_RX12_111 dX12_wordOfPart_47 rfl (by assumption) (by omega) rfl rfl (Nat.le_of_ble_eq_true rfl) (by omega) ⟨Nat.le_refl _, Nat.le_refl _⟩ (cr_isWord hw hT ht he h11 (by omega) hW (i := 4) (by omega)) rfl ?_
          refine xg_deq 55 53 dX12_wordOfPart_50 rfl rfl (fun hb50 => ?_) (fun hb50 => ?_)
          · skip
            refine xg_aloadn 56 dX12_wordOfPart_55 rfl rfl rfl ?_
            refine xg_ldcS 58 rfl (fun u hu => oWs_161 (hW u hu)) dX12_wordOfPart_56 rfl ?_
            refine xg_callV 61 12 [_] _ kv_X12_isWord ⟨_, _, rfl⟩ kl_RX12_111 dX12_wordOfPart_58 rfl (by assumption) (by omega) rfl rfl (Nat.le_of_ble_eq_true rfl) (by omega) ⟨Nat.le_refl _, Nat.le_refl _⟩ (cr_isWord hw hT ht he h11 (by omega) hW (i := 5) (by omega)) rfl ?_
            refine xg_deq 66 64 dX12_wordOfPart_61 rfl rfl (fun hb61 => ?_) (fun hb61 => ?_)
            · skip
              refine xg_aloadn 67 dX12_wordOfPart_66 rfl rfl rfl ?_
              refine xg_ldcS 69 rfl (fun u hu => oWs_173 (hW u hu)) dX12_wordOfPart_67 rfl ?_
              refine xg_callV 72 12 [_] _ kv_X12_isWord ⟨_, _, rfl⟩ kl_RX12_111 dX12_wordOfPart_69 rfl (by assumption) (by omega) rfl rfl (Nat.le_of_ble_eq_true rfl) (by omega) ⟨Nat.le_refl _, Nat.le_refl _⟩ (cr_isWord hw hT ht he h11 (by omega) hW (i := 6) (by omega)) rfl ?_
              refine xg_deq 80 75 dX12_wordOfPart_72 rfl rfl (fun hb72 => ?_) (fun hb72 => ?_)
              · skip
                refine xg_iconst 81 dX12_wordOfPart_80 rfl ?_
                subst hX
                exact xg_ireturn dX12_wordOfPart_81 rfl ⟨Nat.le_refl _, Nat.le_refl _⟩ ⟨congrArg (fun v => some (J v)) (by first | (rw [if_pos (by omega)]; omega) | rw [if_neg (by omega)]), rfl⟩
              · skip
                refine xg_bipush 77 dX12_wordOfPart_75 rfl (by decide) ?_
                refine xg_goto 81 dX12_wordOfPart_77 rfl ?_
                subst hX
                exact xg_ireturn dX12_wordOfPart_81 rfl ⟨Nat.le_refl _, Nat.le_refl _⟩ ⟨congrArg (fun v => some (J v)) (by first | (rw [if_pos (by omega)]; omega) | rw [if_neg (by omega)]), rfl⟩
            · skip
              refine xg_iconst 65 dX12_wordOfPart_64 rfl ?_
              subst hX
              exact xg_ireturn dX12_wordOfPart_65 rfl ⟨Nat.le_refl _, Nat.le_refl _⟩ ⟨congrArg (fun v => some (J v)) (by first | (rw [if_pos (by omega)]; omega) | rw [if_neg (by omega)]), rfl⟩
          · skip
            refine xg_iconst 54 dX12_wordOfPart_53 rfl ?_
            subst hX
            exact xg_ireturn dX12_wordOfPart_54 rfl ⟨Nat.le_refl _, Nat.le_refl _⟩ ⟨congrArg (fun v => some (J v)) (by first | (rw [if_pos (by omega)]; omega) | rw [if_neg (by omega)]), rfl⟩
        · skip
          refine xg_iconst 43 dX12_wordOfPart_42 rfl ?_
          subst hX
          exact xg_ireturn dX12_wordOfPart_43 rfl ⟨Nat.le_refl _, Nat.le_refl _⟩ ⟨congrArg (fun v => some (J v)) (by first | (rw [if_pos (by omega)]; omega) | rw [if_neg (by omega)]), rfl⟩
      · skip
        refine xg_iconst 32 dX12_wordOfPart_31 rfl ?_
        subst hX
        exact xg_ireturn dX12_wordOfPart_32 rfl ⟨Nat.le_refl _, Nat.le_refl _⟩ ⟨congrArg (fun v => some (J v)) (by first | (rw [if_pos (by omega)]; omega) | rw [if_neg (by omega)]), rfl⟩
    · skip
      refine xg_iconst 21 dX12_wordOfPart_20 rfl ?_
      subst hX
      exact xg_ireturn dX12_wordOfPart_21 rfl ⟨Nat.le_refl _, Nat.le_refl _⟩ ⟨congrArg (fun v => some (J v)) (by first | (rw [if_pos (by omega)]; omega) | rw [if_neg (by omega)]), rfl⟩
  · skip
    refine xg_iconst 10 dX12_wordOfPart_9 rfl ?_
    subst hX
    exact xg_ireturn dX12_wordOfPart_10 rfl ⟨Nat.le_refl _, Nat.le_refl _⟩ ⟨congrArg (fun v => some (J v)) (by first | (rw [if_pos (by omega)]; omega) | rw [if_neg (by omega)]), rfl⟩

/-- a part -/
def gPt (t : Int → Int) (e q : Int) : gRz := match gPart t e q with
  | none => .inl q
  | some cn => .inr ([cn], zX t e q)
theorem gPt_w {t : Int → Int} {e q : Int} (h : 0 ≤ zK t e q ∧ zK t e q ≤ 6) : gPt t e q = .inr ([(zK t e q, 0)], zX t e q) := by unfold gPt gPart; rw [if_pos h]
theorem gPt_n {t : Int → Int} {e q : Int} (h : zK t e q = 51 ∧ 0 ≤ zNm t e q ∧ zNm t e q ≤ 999) : gPt t e q = .inr ([(10, zNm t e q)], zX t e q) := by unfold gPt gPart; rw [if_neg (by omega), if_pos h]
theorem gPt_f {t : Int → Int} {e q : Int} (h : ¬ (0 ≤ zK t e q ∧ zK t e q ≤ 6)) (h2 : ¬ (zK t e q = 51 ∧ 0 ≤ zNm t e q ∧ zNm t e q ≤ 999)) : gPt t e q = .inl q := by unfold gPt gPart; rw [if_neg h, if_neg h2]
theorem zSk_at {t : Int → Int} {e p q : Int} (hp : 0 ≤ p ∧ p ≤ e) (he : e ≤ 400) (hq : zSk t e p = q) : zSk t e q = q := by subst hq; exact zSk_sk hp.2 ⟨hp.1, he⟩
set_option maxHeartbeats 4000000 in
set_option maxRecDepth 100000 in
theorem ct_X12_readPart {E : xE} {z : Nat} {T : Nat → Nat × Int} {F : Nat → Nat → Int} {I : Nat → Int → Int} {P : Nat → Nat → Option Nat} {Y : Nat → Int → Option Nat} {m : Nat} {w : Int → Int} (hw : wM T P m) (hT : ∀ j : Int, -128 ≤ I (m + 6) j ∧ I (m + 6) j ≤ 127) {t : Int → Int} {e : Int} (ht : rTp t (I (m + 6)) e) (he : 0 ≤ e ∧ e ≤ 400) (h11 : F m 11 = e) {p b dp c q : Int} (hp : 0 ≤ p ∧ p ≤ e) (hq : zSk t e p = q) {ad adv : Nat → Nat} {sio : Option Nat} (hW : ∀ u : State, E.2.2.2.2 u → oWs E.2.2.2.1 ad adv sio u) (hR : w32 w) (hc : 0 ≤ c ∧ c < 400) : Ct E 6 mX12_readPart 0 0 [.ref m] (z, T, fR F m (p) (b) (dp) (c), upA I (m + 1) (w), P, Y) (rRes m z T F I P Y t e (dp) c w (gPt t e q)) := by
  obtain ⟨⟨q0, q1, q2, q3⟩, -⟩ := id hw
  have hqb := zSk_b (t := t) hp.2
  rw [hq] at hqb
  have htb : ∀ j : Int, 0 ≤ j → j < e → 0 ≤ t j ∧ t j ≤ 255 := fun j a b => (ht j a b).1
  have hqq := zSk_at hp he.2 hq
  have hlb := zLt_b (t := t) hqb.2
  refine Ct.of [some (.ref m), none, none] kt_X12_readPart rfl (Nat.le_of_ble_eq_true rfl) rfl (fun d hd => ?_)
  generalize hX : xN E _ _ _ = X
  refine xg_aloadn 1 dX12_readPart_0 rfl rfl rfl ?_
  refine xg_callV 4 12 [] _ kv_X12_letters ⟨_, _, rfl⟩ kl_RX12_108 dX12_readPart_1 rfl (by assumption) (by omega) rfl rfl (Nat.le_of_ble_eq_true rfl) (by omega) ⟨Nat.le_refl _, Nat.le_refl _⟩ (cr_letters hw hT ht he h11 hp hq) rfl ?_
  refine xg_aloadn 5 dX12_readPart_4 rfl rfl rfl ?_
  refine xg_getI 8 kf_RX12_83 dX12_readPart_5 rfl (by assumption) ?_
  rw [fR_10]
  refine xg_aloadn 9 dX12_readPart_8 rfl rfl rfl ?_
  refine xg_getI 12 kf_RX12_93 dX12_readPart_9 rfl (by assumption) ?_
  rw [fR_12]
  refine xg_icne 19 15 dX12_readPart_12 rfl rfl (by omega) (fun hb12 => ?_) (fun hb12 => ?_)
  · skip
    have hln := zLt_n hb12
    have hkl := zK_le (t := t) ⟨hln.1, hln.2.1⟩
    refine xg_iconst 20 dX12_readPart_19 rfl ?_
    refine xg_istoren 21 _ dX12_readPart_20 rfl rfl rfl (by decide) (Or.inr rfl) ?_
    refine xg_iloadn 22 dX12_readPart_21 rfl rfl rfl ?_
    refine xg_ifeq 36 25 dX12_readPart_22 rfl rfl (by omega) (fun hb22 => ?_) (fun hb22 => ?_)
    · skip
      refine xg_aloadn 37 dX12_readPart_36 rfl rfl rfl ?_
      refine xg_callV 40 12 [] _ kv_X12_wordOfPart ⟨_, _, rfl⟩ kl_RX12_183 dX12_readPart_37 rfl (by assumption) (by omega) rfl rfl (Nat.le_of_ble_eq_true rfl) (by omega) ⟨Nat.le_refl _, Nat.le_refl _⟩ (ct_X12_wordOfPart hw hT ht he h11 (by omega) hW) rfl ?_
      generalize hv9 : (if 0 ≤ zK t e q ∧ zK t e q ≤ 6 then zK t e q else -1) = v9
      have hv8 : (0 ≤ zK t e q ∧ zK t e q ≤ 6 ∧ v9 = zK t e q) ∨ (¬ (0 ≤ zK t e q ∧ zK t e q ≤ 6) ∧ v9 = -1) := by subst hv9; split <;> omega
      clear hv9
      refine xg_istoren 41 _ dX12_readPart_40 rfl rfl rfl (by decide) (Or.inr rfl) ?_
      refine xg_aloadn 42 dX12_readPart_41 rfl rfl rfl ?_
      refine xg_iloadn 43 dX12_readPart_42 rfl rfl rfl ?_
      refine xg_ifeq 51 46 dX12_readPart_43 rfl rfl (by omega) (fun hb43 => ?_) (fun hb43 => ?_)
      · skip
        refine xg_iloadn 52 dX12_readPart_51 rfl rfl rfl ?_
        refine xg_iloadn 53 dX12_readPart_52 rfl rfl rfl ?_
        refine xg_ifeq 60 56 dX12_readPart_53 rfl rfl (by omega) (fun hb53 => ?_) (fun hb53 => ?_)
        · skip
          refine xg_iconst 61 dX12_readPart_60 rfl ?_
          refine xg_callV 64 12 [_, _] _ kv_X12_emits ⟨_, _, rfl⟩ kl_RX12_186 dX12_readPart_61 rfl (by assumption) (by omega) rfl rfl (Nat.le_of_ble_eq_true rfl) (by omega) ⟨Nat.le_refl _, Nat.le_refl _⟩ (cr_emits hw hT ht he h11 hc) rfl ?_
          refine xg_iloadn 65 dX12_readPart_64 rfl rfl rfl ?_
          refine xg_iflt 72 68 dX12_readPart_65 rfl rfl (by omega) (fun hb65 => ?_) (fun hb65 => ?_)
          · first
            | (exfalso; omega)
            | skip
              refine xg_iconst 73 dX12_readPart_72 rfl ?_
              subst hX
              refine xg_zreturn dX12_readPart_73 rfl (by first | exact bI_01 _ | omega) ⟨Nat.le_refl _, Nat.le_refl _⟩ ?_
              first
                | (rw [gPt_n (by omega)]; exact ⟨rfl, _, _, _, _, by rw [(zDg_51 htb (by omega) (by omega)).2]; rfl, (by have := zDg_b (t := t) hqb.2; omega), rfl, by (rw [show zNb0 t e q 0 999 = zNm t e q by omega]; exact pW.em hc), w32_em hR (by omega) (by omega), rfl⟩)
                | (rw [gPt_f (by omega) (by omega)]; exact ⟨rfl, _, _, _, _, fun j hj => (pW.em hc).out hc.1 hj, w32_em hR (by omega) (by omega), rfl⟩)
                | (rw [gPt_w (by omega)]; exact ⟨rfl, _, _, _, _, by rw [hln.2.2]; rfl, (by omega), rfl, by (rw [show v9 = zK t e q by omega]; exact pW.em hc), w32_em hR (by omega) (by omega), rfl⟩)
          · first
            | (exfalso; omega)
            | skip
              refine xg_iconst 69 dX12_readPart_68 rfl ?_
              refine xg_goto 73 dX12_readPart_69 rfl ?_
              subst hX
              refine xg_zreturn dX12_readPart_73 rfl (by first | exact bI_01 _ | omega) ⟨Nat.le_refl _, Nat.le_refl _⟩ ?_
              first
                | (rw [gPt_n (by omega)]; exact ⟨rfl, _, _, _, _, by rw [(zDg_51 htb (by omega) (by omega)).2]; rfl, (by have := zDg_b (t := t) hqb.2; omega), rfl, by (rw [show zNb0 t e q 0 999 = zNm t e q by omega]; exact pW.em hc), w32_em hR (by omega) (by omega), rfl⟩)
                | (rw [gPt_f (by omega) (by omega)]; exact ⟨rfl, _, _, _, _, fun j hj => (pW.em hc).out hc.1 hj, w32_em hR (by omega) (by omega), rfl⟩)
                | (rw [gPt_w (by omega)]; exact ⟨rfl, _, _, _, _, by rw [hln.2.2]; rfl, (by omega), rfl, by (rw [show v9 = zK t e q by omega]; exact pW.em hc), w32_em hR (by omega) (by omega), rfl⟩)
        · exfalso; omega
      · exfalso; omega
    · exfalso; omega
  · skip
    have hlq := zK_ge htb (by omega) (zLt_q hb12)
    refine xg_iconst 16 dX12_readPart_15 rfl ?_
    refine xg_goto 20 dX12_readPart_16 rfl ?_
    refine xg_istoren 21 _ dX12_readPart_20 rfl rfl rfl (by decide) (Or.inr rfl) ?_
    refine xg_iloadn 22 dX12_readPart_21 rfl rfl rfl ?_
    refine xg_ifeq 36 25 dX12_readPart_22 rfl rfl (by omega) (fun hb22 => ?_) (fun hb22 => ?_)
    · exfalso; omega
    · skip
      rw [hb12]
      refine xg_aloadn 26 dX12_readPart_25 rfl rfl rfl ?_
      refine xg_iconst 27 dX12_readPart_26 rfl ?_
      refine xg_sipush 30 dX12_readPart_27 rfl (by decide) ?_
      refine xg_callV 33 12 [_, _] _ kv_X12_number ⟨_, _, rfl⟩ kl_RX12_115 dX12_readPart_30 rfl (by assumption) (by omega) rfl rfl (Nat.le_of_ble_eq_true rfl) (by omega) ⟨Nat.le_refl _, Nat.le_refl _⟩ (cr_number hw hT ht he h11 (p := q) (by omega) hqq (by omega)) rfl ?_
      have hnb := zNb0_b (t := t) (e := e) (q := q) (lo := 0) (hi := 999) (by omega)
      refine xg_goto 40 dX12_readPart_33 rfl ?_
      refine xg_istoren 41 _ dX12_readPart_40 rfl rfl rfl (by decide) (Or.inr rfl) ?_
      refine xg_aloadn 42 dX12_readPart_41 rfl rfl rfl ?_
      refine xg_iloadn 43 dX12_readPart_42 rfl rfl rfl ?_
      refine xg_ifeq 51 46 dX12_readPart_43 rfl rfl (by omega) (fun hb43 => ?_) (fun hb43 => ?_)
      · exfalso; omega
      · skip
        refine xg_bipush 48 dX12_readPart_46 rfl (by decide) ?_
        refine xg_goto 52 dX12_readPart_48 rfl ?_
        refine xg_iloadn 53 dX12_readPart_52 rfl rfl rfl ?_
        refine xg_ifeq 60 56 dX12_readPart_53 rfl rfl (by omega) (fun hb53 => ?_) (fun hb53 => ?_)
        · exfalso; omega
        · skip
          refine xg_iloadn 57 dX12_readPart_56 rfl rfl rfl ?_
          refine xg_goto 61 dX12_readPart_57 rfl ?_
          refine xg_callV 64 12 [_, _] _ kv_X12_emits ⟨_, _, rfl⟩ kl_RX12_186 dX12_readPart_61 rfl (by assumption) (by omega) rfl rfl (Nat.le_of_ble_eq_true rfl) (by omega) ⟨Nat.le_refl _, Nat.le_refl _⟩ (cr_emits hw hT ht he h11 hc) rfl ?_
          refine xg_iloadn 65 dX12_readPart_64 rfl rfl rfl ?_
          refine xg_iflt 72 68 dX12_readPart_65 rfl rfl (by omega) (fun hb65 => ?_) (fun hb65 => ?_)
          · first
            | (exfalso; omega)
            | skip
              refine xg_iconst 73 dX12_readPart_72 rfl ?_
              subst hX
              refine xg_zreturn dX12_readPart_73 rfl (by first | exact bI_01 _ | omega) ⟨Nat.le_refl _, Nat.le_refl _⟩ ?_
              first
                | (rw [gPt_n (by omega)]; exact ⟨rfl, _, _, _, _, by rw [(zDg_51 htb (by omega) (by omega)).2]; rfl, (by have := zDg_b (t := t) hqb.2; omega), rfl, by (rw [show zNb0 t e q 0 999 = zNm t e q by omega]; exact pW.em hc), w32_em hR (by omega) (by omega), rfl⟩)
                | (rw [gPt_f (by omega) (by omega)]; exact ⟨rfl, _, _, _, _, fun j hj => (pW.em hc).out hc.1 hj, w32_em hR (by omega) (by omega), rfl⟩)
                | (rw [gPt_w (by omega)]; exact ⟨rfl, _, _, _, _, by rw [hln.2.2]; rfl, (by omega), rfl, by (rw [show v9 = zK t e q by omega]; exact pW.em hc), w32_em hR (by omega) (by omega), rfl⟩)
          · first
            | (exfalso; omega)
            | skip
              refine xg_iconst 69 dX12_readPart_68 rfl ?_
              refine xg_goto 73 dX12_readPart_69 rfl ?_
              subst hX
              refine xg_zreturn dX12_readPart_73 rfl (by first | exact bI_01 _ | omega) ⟨Nat.le_refl _, Nat.le_refl _⟩ ?_
              first
                | (rw [gPt_n (by omega)]; exact ⟨rfl, _, _, _, _, by rw [(zDg_51 htb (by omega) (by omega)).2]; rfl, (by have := zDg_b (t := t) hqb.2; omega), rfl, by (rw [show zNb0 t e q 0 999 = zNm t e q by omega]; exact pW.em hc), w32_em hR (by omega) (by omega), rfl⟩)
                | (rw [gPt_f (by omega) (by omega)]; exact ⟨rfl, _, _, _, _, fun j hj => (pW.em hc).out hc.1 hj, w32_em hR (by omega) (by omega), rfl⟩)
                | (rw [gPt_w (by omega)]; exact ⟨rfl, _, _, _, _, by rw [hln.2.2]; rfl, (by omega), rfl, by (rw [show v9 = zK t e q by omega]; exact pW.em hc), w32_em hR (by omega) (by omega), rfl⟩)

