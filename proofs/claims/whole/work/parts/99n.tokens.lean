/-! what the reference's reader sees at a token -/
section TKN
variable {t u : Int → Int} {e : Int}
/-- the reference's tape of signed bytes -/
def rTp (t u : Int → Int) (e : Int) : Prop := ∀ j : Int, 0 ≤ j → j < e → (0 ≤ t j ∧ t j ≤ 255) ∧ u j = if t j < 128 then t j else t j - 256
theorem rTp.at (h : rTp t u e) {j c : Int} (hj : 0 ≤ j ∧ j < e) (hc : 0 ≤ c ∧ c < 128) : u j = c ↔ t j = c := by
  obtain ⟨h1, h2⟩ := h j hj.1 hj.2
  rw [h2]; split <;> omega
theorem rTp.btw (h : rTp t u e) {j lo hi : Int} (hj : 0 ≤ j ∧ j < e) (hc : 0 ≤ lo ∧ hi < 128) : (lo ≤ u j ∧ u j ≤ hi) ↔ (lo ≤ t j ∧ t j ≤ hi) := by
  obtain ⟨h1, h2⟩ := h j hj.1 hj.2
  rw [h2]; split <;> omega
theorem sSk_z (h : rTp t u e) : ∀ (k : Nat) (p : Int), 0 ≤ p → sSk u e 32 32 k p = zSkF t e k p
  | 0, p, _ => rfl
  | k + 1, p, hp => by
    rw [sSk, zSkF]
    by_cases q : p < e ∧ t p = 32
    · rw [if_pos q, if_pos (by unfold sAt; have := (h.btw (lo := 32) (hi := 32) ⟨hp, q.1⟩ (by omega)).mpr (by omega); exact decide_eq_true ⟨q.1, this⟩)]
      exact sSk_z h k (p + 1) (by omega)
    · rw [if_neg q, if_neg (fun z => by
        have z1 := sAt_t z
        have := (h.btw (lo := 32) (hi := 32) ⟨hp, z1.1⟩ (by omega)).mp ⟨z1.2.1, z1.2.2⟩
        omega)]
theorem sSkp_z (h : rTp t u e) {p : Int} (hp : 0 ≤ p ∧ p ≤ e ∧ e ≤ 400) : sSkp u e 32 32 p = zSk t e p := by
  unfold sSkp zSk
  rw [sSk_z h _ _ hp.1]
  exact zSkF_m _ _ _ (by omega) (by omega)
theorem zCs_50 (c : Int) : zCs c = 50 ↔ 97 ≤ c ∧ c ≤ 122 := by
  unfold zCs
  by_cases h1 : 97 ≤ c ∧ c ≤ 122
  · rw [if_pos h1]; omega
  · rw [if_neg h1]; split <;> omega
theorem zCs_51 (c : Int) : zCs c = 51 ↔ 48 ≤ c ∧ c ≤ 57 := by
  unfold zCs
  by_cases h1 : 97 ≤ c ∧ c ≤ 122
  · rw [if_pos h1]; omega
  · rw [if_neg h1]; split <;> omega
theorem zCs_3 (c : Int) : zCs c = 50 ∨ zCs c = 51 ∨ zCs c = 100 := by
  unfold zCs; split
  · omega
  · split <;> omega
theorem zLe_m {k : Int} : ∀ (n m : Nat) (p : Int), e - p ≤ n → e - p ≤ m → zLe t k n p e = zLe t k m p e
  | 0, m, p, h, h2 => by rw [zLe, zLe_out (by omega)]
  | n + 1, 0, p, h, h2 => by rw [zLe_out (t := t) (k := k) (e := e) (p := p) (n := n + 1) (by omega), zLe]
  | n + 1, m + 1, p, h, h2 => by
    rw [zLe, zLe]
    split
    · exact zLe_m n m (p + 1) (by omega) (by omega)
    · rfl
theorem sSk_l (h : rTp t u e) {k lo hi : Int} (hk : ∀ c : Int, zCs c = k ↔ lo ≤ c ∧ c ≤ hi) (hl : 0 ≤ lo ∧ hi < 128) : ∀ (n : Nat) (p : Int), 0 ≤ p → sSk u e lo hi n p = zLe t k n p e
  | 0, p, _ => rfl
  | n + 1, p, hp => by
    rw [sSk, zLe]
    by_cases q : p < e ∧ zCs (t p) = k
    · rw [if_pos q, if_pos (by unfold sAt; have := (h.btw ⟨hp, q.1⟩ hl).mpr ((hk _).mp q.2); exact decide_eq_true ⟨q.1, this⟩)]
      exact sSk_l h hk hl n (p + 1) (by omega)
    · rw [if_neg q, if_neg (fun z => by
        have z1 := sAt_t z
        have := (h.btw ⟨hp, z1.1⟩ hl).mp ⟨z1.2.1, z1.2.2⟩
        exact q ⟨z1.1, (hk _).mpr this⟩)]
/-- behind the letters, behind the figures -/
def zLt (t : Int → Int) (e q : Int) : Int := if q < e ∧ zCs (t q) = 50 then zLen t q e else q
def zDg (t : Int → Int) (e q : Int) : Int := if q < e ∧ zCs (t q) = 51 then zLen t q e else q
theorem sSkp_l (h : rTp t u e) {k lo hi q : Int} (hk : ∀ c : Int, zCs c = k ↔ lo ≤ c ∧ c ≤ hi) (hl : 0 ≤ lo ∧ hi < 128) (hk9 : k ≠ 100) (hq : 0 ≤ q ∧ q ≤ e ∧ e ≤ 400) : sSkp u e lo hi q = if q < e ∧ zCs (t q) = k then zLen t q e else q := by
  unfold sSkp
  rw [sSk_l h hk hl _ _ hq.1]
  by_cases c : q < e ∧ zCs (t q) = k
  · rw [if_pos c, zLe_m (e - q).toNat ((e - (q + 1)).toNat + 1) q (by omega) (by omega), zLe, if_pos c]
    unfold zLen
    rw [c.2, if_neg hk9]
    exact zLe_m _ _ _ (by omega) (by omega)
  · rw [if_neg c, zLe_out c]
theorem sSkp_a (h : rTp t u e) {q : Int} (hq : 0 ≤ q ∧ q ≤ e ∧ e ≤ 400) : sSkp u e 97 122 q = zLt t e q := sSkp_l h zCs_50 (by omega) (by omega) hq
theorem sSkp_9 (h : rTp t u e) {q : Int} (hq : 0 ≤ q ∧ q ≤ e ∧ e ≤ 400) : sSkp u e 48 57 q = zDg t e q := sSkp_l h zCs_51 (by omega) (by omega) hq
/-! words -/
/-- the list stands from q to e -/
def zMp (t : Int → Int) (e : Int) : Int → List Int → Bool
  | q, [] => decide (q = e)
  | q, ch :: cs => decide (q < e ∧ t q = ch) && zMp t e (q + 1) cs
theorem zMp_one : ∀ (l l' : List Int) (q : Int), zMp t e q l = true → zMp t e q l' = true → l = l'
  | [], [], _, _, _ => rfl
  | [], ch :: cs, q, h1, h2 => by
    rw [zMp] at h1
    rw [zMp] at h2
    have a := of_decide_eq_true h1
    have b := of_decide_eq_true (Bool.and_eq_true_iff.mp h2).1
    omega
  | ch :: cs, [], q, h1, h2 => by
    rw [zMp] at h1
    rw [zMp] at h2
    have a := of_decide_eq_true h2
    have b := of_decide_eq_true (Bool.and_eq_true_iff.mp h1).1
    omega
  | ch :: cs, ch' :: cs', q, h1, h2 => by
    rw [zMp] at h1 h2
    have a := of_decide_eq_true (Bool.and_eq_true_iff.mp h1).1
    have b := of_decide_eq_true (Bool.and_eq_true_iff.mp h2).1
    rw [show ch = ch' by omega, zMp_one cs cs' (q + 1) (Bool.and_eq_true_iff.mp h1).2 (Bool.and_eq_true_iff.mp h2).2]
theorem zWd_w {p : Int} : ∀ (ws rest : List Int) (word same : Int) (al : Bool), (∀ c ∈ ws, c ≠ 32) → zWd t p e (ws ++ 32 :: rest) word same al = if al = true ∧ zMp t e (p + same) ws = true then word else zWd t p e rest (word + 1) 0 true
  | [], rest, word, same, al, _ => by
    rw [List.nil_append, zWd, if_pos rfl, zMp]
    by_cases h : al = true ∧ p + same = e
    · rw [if_pos h, if_pos ⟨h.1, decide_eq_true h.2⟩]
    · rw [if_neg h, if_neg (fun z => h ⟨z.1, of_decide_eq_true z.2⟩)]
  | ch :: cs, rest, word, same, al, hc => by
    rw [List.cons_append, zWd, if_neg (hc ch List.mem_cons_self), zWd_w cs rest word (same + 1) _ (fun c h => hc c (List.mem_cons_of_mem _ h)), zMp, show p + (same + 1) = p + same + 1 by omega]
    by_cases h1 : p + same < e ∧ t (p + same) = ch
    · rw [decide_eq_true h1, Bool.and_true, Bool.true_and]
    · rw [decide_eq_false h1, Bool.and_false, Bool.false_and, if_neg (fun z => by cases z.1), if_neg (fun z => by cases z.2)]
def zIxM (t : Int → Int) (e q : Int) : List (List Int) → Int → Int
  | [], _ => 50
  | w :: ws, k => if zMp t e q w = true then k else zIxM t e q ws (k + 1)
def zWs : List (List Int) := [[108, 101, 118, 101, 108], [114, 117, 110, 115], [101, 110, 116, 114, 105, 101, 115], [100, 101, 98, 116], [116, 97, 98, 108, 101], [102, 97, 110], [116, 105, 99, 107], [98, 117, 115, 121], [116, 105, 101, 114, 101, 100], [102, 117, 108, 108], [112, 97, 99, 101], [99, 111, 115, 116], [119, 111, 114, 116, 104], [114, 117, 110], [111, 102], [115, 105, 122, 101], [108, 101, 118, 101, 108, 108, 101, 100], [105, 102], [111, 114], [97, 110, 100], [110, 111, 116]]
def zJn : List (List Int) → List Int
  | [] => []
  | w :: ws => w ++ 32 :: zJn ws
theorem zTx_jn : zTx = zJn zWs := by decide +kernel
theorem zWd_ix {p : Int} : ∀ (ws : List (List Int)) (k : Int), (∀ w ∈ ws, ∀ c ∈ w, c ≠ 32) → zWd t p e (zJn ws) k 0 true = zIxM t e p ws k
  | [], k, _ => rfl
  | w :: ws, k, h => by
    rw [zJn, zWd_w w (zJn ws) k 0 true (h w List.mem_cons_self), zIxM, show p + 0 = p by omega, zWd_ix ws (k + 1) (fun x hx => h x (List.mem_cons_of_mem _ hx))]
    by_cases c : zMp t e p w = true
    · rw [if_pos ⟨rfl, c⟩, if_pos c]
    · rw [if_neg (fun z => c z.2), if_neg c]
theorem zWs_32 : ∀ w ∈ zWs, ∀ c ∈ w, c ≠ 32 := by decide +kernel
theorem zWrd_ix (t : Int → Int) (p e : Int) : zWrd t p e = zIxM t e p zWs 0 := by
  unfold zWrd
  rw [zTx_jn]; exact zWd_ix zWs 0 zWs_32
theorem zIxM_b {q : Int} : ∀ (ws : List (List Int)) (k : Int), zIxM t e q ws k = 50 ∨ (k ≤ zIxM t e q ws k ∧ zIxM t e q ws k < k + ws.length)
  | [], k => Or.inl rfl
  | w :: ws, k => by
    rw [zIxM]
    split
    · exact Or.inr ⟨by omega, by rw [List.length_cons]; omega⟩
    · rcases zIxM_b (q := q) ws (k + 1) with h | h
      · exact Or.inl h
      · exact Or.inr ⟨by omega, by rw [List.length_cons]; omega⟩
theorem zWrd_21 (t : Int → Int) (p e : Int) : zWrd t p e = 50 ∨ (0 ≤ zWrd t p e ∧ zWrd t p e < 21) := by
  rw [zWrd_ix]
  rcases zIxM_b (t := t) (e := e) (q := p) zWs 0 with h | h
  · exact Or.inl h
  · have h9 : zWs.length = 21 := by decide +kernel
    rw [h9] at h; exact Or.inr ⟨h.1, by omega⟩
theorem zIxM_t {q : Int} : ∀ (ws : List (List Int)) (k : Int) (i : Nat), i < ws.length → (∀ a b : Nat, a < ws.length → b < ws.length → ws.getD a [] = ws.getD b [] → a = b) → zMp t e q (ws.getD i []) = true → zIxM t e q ws k = k + i
  | w :: ws, k, 0, _, _, h => by
    rw [zIxM, if_pos (by simpa using h)]; omega
  | w :: ws, k, i + 1, hi, hd, h => by
    rw [List.length_cons] at hi hd
    have h1 : zMp t e q (ws.getD i []) = true := by simpa using h
    rw [zIxM, if_neg (fun z => by
      have e1 := zMp_one _ _ _ z h1
      have := hd 0 (i + 1) (by omega) (by omega) (by simpa using e1)
      omega), zIxM_t ws (k + 1) i (by omega) (fun a b ha hb hab => by
      have := hd (a + 1) (b + 1) (by omega) (by omega) (by simpa using hab)
      omega) h1]
    omega
theorem zIxM_f {q : Int} : ∀ (ws : List (List Int)) (k : Int) (i : Nat), i < ws.length → k + ws.length ≤ 50 → zIxM t e q ws k = k + i → zMp t e q (ws.getD i []) = true
  | w :: ws, k, i, hi, hk, h => by
    rw [List.length_cons] at hi hk
    rw [zIxM] at h
    by_cases c : zMp t e q w = true
    · rw [if_pos c] at h
      rw [show i = 0 by omega]; simpa using c
    · rw [if_neg c] at h
      have hb := zIxM_b (t := t) (e := e) (q := q) ws (k + 1)
      cases i with
      | zero => omega
      | succ i =>
        have := zIxM_f (q := q) ws (k + 1) i (by omega) (by omega) (by omega)
        simpa using this
theorem zWs_nd : ∀ a b : Fin 21, zWs.getD a.val [] = zWs.getD b.val [] → a = b := by decide +kernel
theorem zWrd_is {p : Int} {i : Nat} (hi : i < 21) : zWrd t p e = (i : Int) ↔ zMp t e p (zWs.getD i []) = true := by
  rw [zWrd_ix]
  have h9 : zWs.length = 21 := by decide +kernel
  constructor
  · intro h; exact zIxM_f zWs 0 i (by omega) (by rw [h9]; decide) (by omega)
  · intro h
    have := zIxM_t zWs 0 i (by omega) (fun a b ha hb hab => by
      have := zWs_nd ⟨a, by omega⟩ ⟨b, by omega⟩ hab
      exact congrArg Fin.val this) h
    omega
/-! sorts -/
theorem zK_e {q : Int} (h : ¬ q < e) : zK t e q = 52 := if_neg h
theorem zK_3 (t : Int → Int) (e q : Int) : (q < e ∧ zCs (t q) = 50 ∧ zK t e q = zWrd t q (zLen t q e)) ∨ (q < e ∧ zCs (t q) = 51 ∧ zK t e q = 51) ∨ (q < e ∧ zCs (t q) = 100 ∧ zK t e q = 100 + t q) ∨ (¬ q < e ∧ zK t e q = 52) := by
  by_cases h : q < e
  · unfold zK zSrt
    rw [if_pos h]
    rcases zCs_3 (t q) with c | c | c
    · rw [c, if_neg (by omega), if_neg (by omega)]; exact Or.inl ⟨h, rfl, rfl⟩
    · rw [c, if_neg (by omega), if_pos rfl]; exact Or.inr (Or.inl ⟨h, rfl, rfl⟩)
    · rw [c, if_pos rfl]; exact Or.inr (Or.inr (Or.inl ⟨h, rfl, rfl⟩))
  · exact Or.inr (Or.inr (Or.inr ⟨h, zK_e h⟩))
theorem zK_51 {q : Int} (ht : ∀ j : Int, 0 ≤ j → j < e → 0 ≤ t j ∧ t j ≤ 255) (h0 : 0 ≤ q) : zK t e q = 51 ↔ q < e ∧ zCs (t q) = 51 := by
  rcases zK_3 t e q with ⟨a, b, c⟩ | ⟨a, b, c⟩ | ⟨a, b, c⟩ | ⟨a, c⟩
  · have := zWrd_21 t q (zLen t q e); omega
  · omega
  · have := ht q h0 a; omega
  · omega
theorem zK_w {q : Int} (ht : ∀ j : Int, 0 ≤ j → j < e → 0 ≤ t j ∧ t j ≤ 255) (h0 : 0 ≤ q) {i : Nat} (hi : i < 21) : zK t e q = (i : Int) ↔ zMp t (zLt t e q) q (zWs.getD i []) = true := by
  have hne : ∀ l : List Int, l ≠ [] → zMp t q q l = false := by
    intro l hl
    cases l with
    | nil => exact absurd rfl hl
    | cons ch cs => rw [zMp, decide_eq_false (by omega), Bool.false_and]
  have hnn : zWs.getD i [] ≠ [] := by
    have h8 : ∀ a : Fin 21, zWs.getD a.val [] ≠ [] := by decide +kernel
    exact h8 ⟨i, hi⟩
  unfold zLt
  rcases zK_3 t e q with ⟨a, b, c⟩ | ⟨a, b, c⟩ | ⟨a, b, c⟩ | ⟨a, c⟩
  · rw [c, if_pos ⟨a, b⟩]; exact zWrd_is hi
  · rw [c, if_neg (by omega), hne _ hnn]
    exact ⟨fun z => by omega, fun z => by cases z⟩
  · rw [c, if_neg (by omega), hne _ hnn]
    have := ht q h0 a
    exact ⟨fun z => by omega, fun z => by cases z⟩
  · rw [c, if_neg (by omega), hne _ hnn]
    exact ⟨fun z => by omega, fun z => by cases z⟩
theorem zK_s {q c : Int} (ht : ∀ j : Int, 0 ≤ j → j < e → 0 ≤ t j ∧ t j ≤ 255) (h0 : 0 ≤ q) (hc : zCs c = 100 ∧ 0 ≤ c ∧ c < 128) : zK t e q = 100 + c ↔ q < e ∧ t q = c := by
  rcases zK_3 t e q with ⟨a, b, d⟩ | ⟨a, b, d⟩ | ⟨a, b, d⟩ | ⟨a, d⟩
  · have := zWrd_21 t q (zLen t q e)
    rw [d]
    refine ⟨fun z => by omega, fun z => ?_⟩
    rw [z.2] at b; omega
  · rw [d]
    refine ⟨fun z => by omega, fun z => ?_⟩
    rw [z.2] at b; omega
  · rw [d]; omega
  · rw [d]; omega
theorem zLen_s {q : Int} (h : zCs (t q) = 100) : zLen t q e = q + 1 := if_pos h
theorem zK_word {q : Int} {i : Nat} (hi : i < 21) (h0 : 0 ≤ q) (ht : ∀ j : Int, 0 ≤ j → j < e → 0 ≤ t j ∧ t j ≤ 255) (h : zK t e q = (i : Int)) : q < e ∧ zLt t e q = zLen t q e := by
  rcases zK_3 t e q with ⟨a, b, d⟩ | ⟨a, b, d⟩ | ⟨a, b, d⟩ | ⟨a, d⟩
  · exact ⟨a, by unfold zLt; rw [if_pos ⟨a, b⟩]⟩
  · omega
  · have := ht q h0 a; omega
  · omega
/-! numbers -/
theorem sDig_z {q : Int} (h : rTp t u e) : ∀ n : Nat, 0 ≤ q → (∀ j : Nat, j < n → q + j < e ∧ zCs (t (q + j)) = 51) → sDig u q n = zNu t q n
  | 0, _, _ => rfl
  | n + 1, hq, hd => by
    have h1 := hd n (by omega)
    have h2 := (h (q + n) (by omega) h1.1).2
    have h3 := (zCs_51 _).mp h1.2
    rw [if_pos (by omega)] at h2
    rw [sDig, sDig_z h n hq (fun j hj => hd j (by omega)), h2, zNu]
    omega
theorem zLe_in {k : Int} : ∀ (n : Nat) (p : Int) (j : Int), p ≤ j → j < zLe t k n p e → j < e ∧ zCs (t j) = k
  | 0, p, j, h1, h2 => by rw [zLe] at h2; omega
  | n + 1, p, j, h1, h2 => by
    rw [zLe] at h2
    split at h2
    · rename_i c
      by_cases e1 : j = p
      · subst e1; exact c
      · exact zLe_in n (p + 1) j (by omega) h2
    · omega
/-- the number at a token, if it lies between the bounds -/
def zNb0 (t : Int → Int) (e q lo hi : Int) : Int := if zK t e q = 51 ∧ lo ≤ zNm t e q ∧ zNm t e q ≤ hi then zNm t e q else -1
theorem sNum_z (h : rTp t u e) {q lo hi : Int} (hq : 0 ≤ q ∧ q ≤ e ∧ e ≤ 400) (hl : 0 ≤ lo) : sNum u q (zDg t e q) lo hi = zNb0 t e q lo hi := by
  have hk := zK_51 (t := t) (e := e) (q := q) (fun j a b => (h j a b).1) hq.1
  unfold sNum zNb0 zDg
  by_cases c : q < e ∧ zCs (t q) = 51
  · rw [if_pos c]
    have hL := zLen_b (t := t) c.1
    have hd : ∀ j : Nat, j < (zLen t q e - q).toNat → q + j < e ∧ zCs (t (q + j)) = 51 := by
      intro j hj
      by_cases e1 : j = 0
      · subst e1; rw [show q + ((0 : Nat) : Int) = q by omega]; exact c
      · have h5 : zLen t q e = zLe t 51 400 (q + 1) e := by unfold zLen; rw [c.2, if_neg (by omega)]
        exact zLe_in 400 (q + 1) (q + j) (by omega) (by omega)
    have hN : zNm t e q = zNum t q (zLen t q e) := if_pos c.1
    rw [hN]
    unfold zNum
    by_cases h3 : 3 < zLen t q e - q
    · rw [if_pos (by omega), if_pos h3, if_neg (by omega)]
    · rw [if_neg h3, show min 3 (zLen t q e - q).toNat = (zLen t q e - q).toNat by omega, sDig_z h _ hq.1 hd]
      by_cases h4 : zNu t q (zLen t q e - q).toNat < lo ∨ hi < zNu t q (zLen t q e - q).toNat
      · rw [if_pos (by omega), if_neg (by omega)]
      · rw [if_neg (by omega), if_pos ⟨hk.mpr c, by omega, by omega⟩]
  · rw [if_neg c, if_pos (Or.inl rfl), if_neg (fun z => c (hk.mp z.1))]
theorem zNb0_b {q lo hi : Int} (hl : 0 ≤ lo) : (zNb0 t e q lo hi = -1 ∧ ¬ (zK t e q = 51 ∧ lo ≤ zNm t e q ∧ zNm t e q ≤ hi)) ∨ (lo ≤ zNb0 t e q lo hi ∧ zNb0 t e q lo hi ≤ hi ∧ zK t e q = 51 ∧ zNb0 t e q lo hi = zNm t e q) := by
  unfold zNb0
  by_cases c : zK t e q = 51 ∧ lo ≤ zNm t e q ∧ zNm t e q ≤ hi
  · rw [if_pos c]; exact Or.inr ⟨c.2.1, c.2.2, c.1, rfl⟩
  · rw [if_neg c]; exact Or.inl ⟨rfl, c⟩
end TKN

