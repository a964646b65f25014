/-- the texts of the class files -/
def oRf (ad : Nat → Nat) (u : State) : Prop := vk_R RX12 146 "run" (ad 13) u ∧ vk_R RX12 118 "level" (ad 0) u ∧ vk_R RX12 128 "of" (ad 14) u ∧ vk_R RX12 151 "table" (ad 4) u ∧ vk_R RX12 156 "size" (ad 15) u ∧ vk_R RX12 161 "fan" (ad 5) u ∧ vk_R RX12 163 "pace" (ad 10) u ∧ vk_R RX12 165 "tiered" (ad 8) u ∧ vk_R RX12 171 "levelled" (ad 16) u ∧ vk_R RX12 173 "tick" (ad 6) u ∧ vk_R RX12 228 "cost" (ad 11) u ∧ vk_R RX12 230 "worth" (ad 12) u ∧ vk_R RX12 232 "if" (ad 17) u ∧ vk_R RX12 207 "not" (ad 20) u ∧ vk_R RX12 197 "busy" (ad 7) u ∧ vk_R RX12 199 "full" (ad 9) u ∧ vk_R RX12 178 "runs" (ad 1) u ∧ vk_R RX12 179 "entries" (ad 2) u ∧ vk_R RX12 181 "debt" (ad 3) u ∧ vk_R RX12 221 "and" (ad 19) u ∧ vk_R RX12 226 "or" (ad 18) u ∧ vk_R RX7 52 "level runs entries debt table fan tick busy tiered full pace cost worth run of size levelled if or and not " (ad 21) u
def oWs (B : Nat) (ad adv : Nat → Nat) (sio : Option Nat) (u : State) : Prop := oSts B sio u ∧ (∀ i : Nat, i < 21 → oStr B (ad i) (adv i) (zWs.getD i []) u) ∧ oStr B (ad 21) (adv 21) zTx u ∧ oRf ad u
section OWS
variable {B : Nat} {ad adv : Nat → Nat} {sio : Option Nat} {u : State}
theorem oWs_146 (h : oWs B ad adv sio u) : vk_R RX12 146 "run" (ad 13) u := h.2.2.2.1
theorem oWs_118 (h : oWs B ad adv sio u) : vk_R RX12 118 "level" (ad 0) u := h.2.2.2.2.1
theorem oWs_128 (h : oWs B ad adv sio u) : vk_R RX12 128 "of" (ad 14) u := h.2.2.2.2.2.1
theorem oWs_151 (h : oWs B ad adv sio u) : vk_R RX12 151 "table" (ad 4) u := h.2.2.2.2.2.2.1
theorem oWs_156 (h : oWs B ad adv sio u) : vk_R RX12 156 "size" (ad 15) u := h.2.2.2.2.2.2.2.1
theorem oWs_161 (h : oWs B ad adv sio u) : vk_R RX12 161 "fan" (ad 5) u := h.2.2.2.2.2.2.2.2.1
theorem oWs_163 (h : oWs B ad adv sio u) : vk_R RX12 163 "pace" (ad 10) u := h.2.2.2.2.2.2.2.2.2.1
theorem oWs_165 (h : oWs B ad adv sio u) : vk_R RX12 165 "tiered" (ad 8) u := h.2.2.2.2.2.2.2.2.2.2.1
theorem oWs_171 (h : oWs B ad adv sio u) : vk_R RX12 171 "levelled" (ad 16) u := h.2.2.2.2.2.2.2.2.2.2.2.1
theorem oWs_173 (h : oWs B ad adv sio u) : vk_R RX12 173 "tick" (ad 6) u := h.2.2.2.2.2.2.2.2.2.2.2.2.1
theorem oWs_228 (h : oWs B ad adv sio u) : vk_R RX12 228 "cost" (ad 11) u := h.2.2.2.2.2.2.2.2.2.2.2.2.2.1
theorem oWs_230 (h : oWs B ad adv sio u) : vk_R RX12 230 "worth" (ad 12) u := h.2.2.2.2.2.2.2.2.2.2.2.2.2.2.1
theorem oWs_232 (h : oWs B ad adv sio u) : vk_R RX12 232 "if" (ad 17) u := h.2.2.2.2.2.2.2.2.2.2.2.2.2.2.2.1
theorem oWs_207 (h : oWs B ad adv sio u) : vk_R RX12 207 "not" (ad 20) u := h.2.2.2.2.2.2.2.2.2.2.2.2.2.2.2.2.1
theorem oWs_197 (h : oWs B ad adv sio u) : vk_R RX12 197 "busy" (ad 7) u := h.2.2.2.2.2.2.2.2.2.2.2.2.2.2.2.2.2.1
theorem oWs_199 (h : oWs B ad adv sio u) : vk_R RX12 199 "full" (ad 9) u := h.2.2.2.2.2.2.2.2.2.2.2.2.2.2.2.2.2.2.1
theorem oWs_178 (h : oWs B ad adv sio u) : vk_R RX12 178 "runs" (ad 1) u := h.2.2.2.2.2.2.2.2.2.2.2.2.2.2.2.2.2.2.2.1
theorem oWs_179 (h : oWs B ad adv sio u) : vk_R RX12 179 "entries" (ad 2) u := h.2.2.2.2.2.2.2.2.2.2.2.2.2.2.2.2.2.2.2.2.1
theorem oWs_181 (h : oWs B ad adv sio u) : vk_R RX12 181 "debt" (ad 3) u := h.2.2.2.2.2.2.2.2.2.2.2.2.2.2.2.2.2.2.2.2.2.1
theorem oWs_221 (h : oWs B ad adv sio u) : vk_R RX12 221 "and" (ad 19) u := h.2.2.2.2.2.2.2.2.2.2.2.2.2.2.2.2.2.2.2.2.2.2.1
theorem oWs_226 (h : oWs B ad adv sio u) : vk_R RX12 226 "or" (ad 18) u := h.2.2.2.2.2.2.2.2.2.2.2.2.2.2.2.2.2.2.2.2.2.2.2.1
theorem oWs_52 (h : oWs B ad adv sio u) : vk_R RX7 52 "level runs entries debt table fan tick busy tiered full pace cost worth run of size levelled if or and not " (ad 21) u := h.2.2.2.2.2.2.2.2.2.2.2.2.2.2.2.2.2.2.2.2.2.2.2.2
theorem zWs_b (i : Nat) (hi : i < 21) : (zWs.getD i []).length < 1000 ∧ (∀ j : Nat, 0 ≤ (zWs.getD i []).getD j 0 ∧ (zWs.getD i []).getD j 0 < 128) ∧ ∀ c ∈ zWs.getD i [], 0 ≤ c ∧ c < 128 := by
  have h1 : ∀ i : Fin 21, (zWs.getD i.val []).length < 10 ∧ ∀ j : Fin 10, 0 ≤ (zWs.getD i.val []).getD j.val 0 ∧ (zWs.getD i.val []).getD j.val 0 < 128 := by decide +kernel
  have h2 : ∀ i : Fin 21, ∀ c ∈ zWs.getD i.val [], 0 ≤ c ∧ c < 128 := by decide +kernel
  obtain ⟨a, b⟩ := h1 ⟨i, hi⟩
  refine ⟨by have : (zWs.getD i []).length < 10 := a; omega, fun j => ?_, h2 ⟨i, hi⟩⟩
  by_cases hj : j < 10
  · exact b ⟨j, hj⟩
  · have a2 : (zWs.getD i []).length < 10 := a
    rw [List.getD_eq_getElem?_getD (l := zWs.getD i []), List.getElem?_eq_none (by omega)]
    decide
end OWS
theorem cz_blanks {E : xE} {z : Nat} {T : Nat → Nat × Int} {F : Nat → Nat → Int} {I : Nat → Int → Int} {P : Nat → Nat → Option Nat} {Y : Nat → Int → Option Nat} {m : Nat} {w : Int → Int} (hw : wM T P m) {t : Int → Int} {e q : Int} (hT : ∀ j : Int, -128 ≤ I (m + 6) j ∧ I (m + 6) j ≤ 127) (ht : rTp t (I (m + 6)) e) (he : 0 ≤ e ∧ e ≤ 400) (h11 : F m 11 = e) (hp : 0 ≤ F m 10 ∧ F m 10 ≤ e) (hq : zSk t e (F m 10) = q) : Ct E 1 mX12_blanks 0 0 [.ref m] (z, T, F, upA I (m + 1) w, P, Y) (xd none (z, T, fPos F m q q, upA I (m + 1) w, P, Y)) := by
  have h := ct_X12_blanks (E := E) (z := z) (F := F) (Y := Y) (w := w) hw hT (by omega)
  rw [h11, sSkp_z ht ⟨hp.1, hp.2, he.2⟩, hq] at h
  exact h
theorem cz_letters {E : xE} {z : Nat} {T : Nat → Nat × Int} {F : Nat → Nat → Int} {I : Nat → Int → Int} {P : Nat → Nat → Option Nat} {Y : Nat → Int → Option Nat} {m : Nat} {w : Int → Int} (hw : wM T P m) {t : Int → Int} {e q : Int} (hT : ∀ j : Int, -128 ≤ I (m + 6) j ∧ I (m + 6) j ≤ 127) (ht : rTp t (I (m + 6)) e) (he : 0 ≤ e ∧ e ≤ 400) (h11 : F m 11 = e) (hp : 0 ≤ F m 10 ∧ F m 10 ≤ e) (hq : zSk t e (F m 10) = q) : Ct E 2 mX12_letters 0 0 [.ref m] (z, T, F, upA I (m + 1) w, P, Y) (xd none (z, T, fPos F m (zLt t e q) q, upA I (m + 1) w, P, Y)) := by
  have hqb := zSk_b (t := t) hp.2
  rw [hq] at hqb
  have h := ct_X12_letters (E := E) (z := z) (F := F) (Y := Y) (w := w) hw hT (by omega)
  rw [h11, sSkp_z ht ⟨hp.1, hp.2, he.2⟩, hq, sSkp_a ht (by omega)] at h
  exact h
theorem cz_number {E : xE} {z : Nat} {T : Nat → Nat × Int} {F : Nat → Nat → Int} {I : Nat → Int → Int} {P : Nat → Nat → Option Nat} {Y : Nat → Int → Option Nat} {m : Nat} {w : Int → Int} (hw : wM T P m) {t : Int → Int} {e q : Int} (hT : ∀ j : Int, -128 ≤ I (m + 6) j ∧ I (m + 6) j ≤ 127) (ht : rTp t (I (m + 6)) e) (he : 0 ≤ e ∧ e ≤ 400) (h11 : F m 11 = e) (hp : 0 ≤ F m 10 ∧ F m 10 ≤ e) (hq : zSk t e (F m 10) = q) {lo hi : Int} (hlh : 0 ≤ lo ∧ lo ≤ 1000 ∧ -1000 ≤ hi ∧ hi ≤ 1000) : Ct E 2 mX12_number 0 0 [.ref m, J lo, J hi] (z, T, F, upA I (m + 1) w, P, Y) (xd (some (J (zNb0 t e q lo hi))) (z, T, fPos F m (zDg t e q) q, upA I (m + 1) w, P, Y)) := by
  have hqb := zSk_b (t := t) hp.2
  rw [hq] at hqb
  have h := ct_X12_number (E := E) (z := z) (F := F) (Y := Y) (w := w) (lo := lo) (hi := hi) hw hT (by omega) (by omega)
  rw [h11, sSkp_z ht ⟨hp.1, hp.2, he.2⟩, hq, sSkp_9 ht (by omega), sNum_z ht (by omega) hlh.1] at h
  exact h
theorem cz_isFigure {E : xE} {z : Nat} {T : Nat → Nat × Int} {F : Nat → Nat → Int} {I : Nat → Int → Int} {P : Nat → Nat → Option Nat} {Y : Nat → Int → Option Nat} {m : Nat} {w : Int → Int} (hw : wM T P m) {t : Int → Int} {e q : Int} (hT : ∀ j : Int, -128 ≤ I (m + 6) j ∧ I (m + 6) j ≤ 127) (ht : rTp t (I (m + 6)) e) (he : 0 ≤ e ∧ e ≤ 400) (h11 : F m 11 = e) (hp : 0 ≤ F m 10 ∧ F m 10 ≤ e) (hq : zSk t e (F m 10) = q) : Ct E 2 mX12_isFigure 0 0 [.ref m] (z, T, F, upA I (m + 1) w, P, Y) (xd (some (J (bI (decide (zK t e q = 51))))) (z, T, fPos F m q q, upA I (m + 1) w, P, Y)) := by
  have hqb := zSk_b (t := t) hp.2
  rw [hq] at hqb
  have h := ct_X12_isFigure (E := E) (z := z) (F := F) (Y := Y) (w := w) hw hT (by omega)
  have hk := zK_51 (t := t) (e := e) (q := q) (fun j a b => (ht j a b).1) (by omega)
  rw [h11, sSkp_z ht ⟨hp.1, hp.2, he.2⟩, hq, show sAt (I (m + 6)) q e 48 57 = decide (zK t e q = 51) from by
    unfold sAt
    by_cases c : q < e ∧ zCs (t q) = 51
    · rw [decide_eq_true (hk.mpr c), decide_eq_true ⟨c.1, (ht.btw ⟨by omega, c.1⟩ (by omega)).mpr ((zCs_51 _).mp c.2)⟩]
    · rw [decide_eq_false (fun x => c (hk.mp x)), decide_eq_false (fun x => c ⟨x.1, (zCs_51 _).mpr ((ht.btw ⟨by omega, x.1⟩ (by omega)).mp x.2)⟩)]] at h
  exact h
theorem cz_sign {E : xE} {z : Nat} {T : Nat → Nat × Int} {F : Nat → Nat → Int} {I : Nat → Int → Int} {P : Nat → Nat → Option Nat} {Y : Nat → Int → Option Nat} {m : Nat} {w : Int → Int} (hw : wM T P m) {t : Int → Int} {e q : Int} (hT : ∀ j : Int, -128 ≤ I (m + 6) j ∧ I (m + 6) j ≤ 127) (ht : rTp t (I (m + 6)) e) (he : 0 ≤ e ∧ e ≤ 400) (h11 : F m 11 = e) (hp : 0 ≤ F m 10 ∧ F m 10 ≤ e) (hq : zSk t e (F m 10) = q) {c : Int} (hc : zCs c = 100 ∧ 0 ≤ c ∧ c < 128) : Ct E 2 mX12_sign 0 0 [.ref m, J c] (z, T, F, upA I (m + 1) w, P, Y) (xd (some (J (bI (decide (zK t e q = 100 + c))))) (z, T, fPos F m (if zK t e q = 100 + c then q + 1 else q) q, upA I (m + 1) w, P, Y)) := by
  have hqb := zSk_b (t := t) hp.2
  rw [hq] at hqb
  have hk := zK_s (t := t) (e := e) (q := q) (c := c) (fun j a b => (ht j a b).1) (by omega) hc
  have hb : sAt (I (m + 6)) q e c c = decide (zK t e q = 100 + c) := by
    unfold sAt
    by_cases x : q < e ∧ t q = c
    · have := (ht.at ⟨by omega, x.1⟩ hc.2).mpr x.2
      rw [decide_eq_true (hk.mpr x), decide_eq_true ⟨x.1, by omega, by omega⟩]
    · rw [decide_eq_false (fun y => x (hk.mp y)), decide_eq_false (fun y => x ⟨y.1, (ht.at ⟨by omega, y.1⟩ hc.2).mp (by omega)⟩)]
  by_cases x : zK t e q = 100 + c
  · have h := ct_X12_sign_t (E := E) (z := z) (F := F) (Y := Y) (w := w) (c := c) hw hT (by omega) (by omega) (by rw [h11, sSkp_z ht ⟨hp.1, hp.2, he.2⟩, hq, hb]; exact decide_eq_true x)
    rw [h11, sSkp_z ht ⟨hp.1, hp.2, he.2⟩, hq] at h
    rw [decide_eq_true x, if_pos x]; exact h
  · have h := ct_X12_sign_f (E := E) (z := z) (F := F) (Y := Y) (w := w) (c := c) hw hT (by omega) (by omega) (by rw [h11, sSkp_z ht ⟨hp.1, hp.2, he.2⟩, hq, hb]; exact decide_eq_false x)
    rw [h11, sSkp_z ht ⟨hp.1, hp.2, he.2⟩, hq] at h
    rw [decide_eq_false x, if_neg x]; exact h
theorem zLt_b {t : Int → Int} {e q : Int} (h : q ≤ e) : q ≤ zLt t e q ∧ zLt t e q ≤ e := by
  unfold zLt
  split
  · rename_i h2
    have := zLen_b (t := t) h2.1
    omega
  · omega
theorem zDg_b {t : Int → Int} {e q : Int} (h : q ≤ e) : q ≤ zDg t e q ∧ zDg t e q ≤ e := by
  unfold zDg
  split
  · rename_i h2
    have := zLen_b (t := t) h2.1
    omega
  · omega
/-- the word at the begin, behind letters -/
theorem cz_isWord {E : xE} {z : Nat} {T : Nat → Nat × Int} {F : Nat → Nat → Int} {I : Nat → Int → Int} {P : Nat → Nat → Option Nat} {Y : Nat → Int → Option Nat} {m : Nat} {w : Int → Int} (hw : wM T P m) {t : Int → Int} {e q : Int} (hT : ∀ j : Int, -128 ≤ I (m + 6) j ∧ I (m + 6) j ≤ 127) (ht : rTp t (I (m + 6)) e) (he : 0 ≤ e ∧ e ≤ 400) (hq : 0 ≤ q ∧ q ≤ e) {ad adv : Nat → Nat} {sio : Option Nat} (hW : ∀ u : State, E.2.2.2.2 u → oWs E.2.2.2.1 ad adv sio u) {i : Nat} (hi : i < 21) (h10 : F m 10 = zLt t e q) (h12 : F m 12 = q) : Ct E 4 mX12_isWord 0 0 [.ref m, .ref (ad i)] (z, T, F, upA I (m + 1) w, P, Y) (xd (some (J (bI (decide (zK t e q = (i : Int)))))) (z, T, F, upA I (m + 1) w, P, Y)) := by
  have hlb := zLt_b (t := t) hq.2
  obtain ⟨b1, b2, b3⟩ := zWs_b i hi
  have h := ct_X12_isWord (E := E) (z := z) (F := F) (Y := Y) (w := w) hw hT (by omega) (fun u hu => (hW u hu).2.1 i hi) (fun u hu => (hW u hu).1) b1 b2
  rw [h10, h12, zIsB_m ht (zWs.getD i []) q hq.1 hlb.2 b3, show zMp t (zLt t e q) q (zWs.getD i []) = decide (zK t e q = (i : Int)) from by
    have hk := zK_w (t := t) (e := e) (q := q) (fun j a b => (ht j a b).1) hq.1 hi
    by_cases c : zK t e q = (i : Int)
    · rw [decide_eq_true c]; exact hk.mp c
    · rw [decide_eq_false c]
      cases x : zMp t (zLt t e q) q (zWs.getD i []) with
      | false => rfl
      | true => exact absurd (hk.mpr x) c] at h
  exact h
