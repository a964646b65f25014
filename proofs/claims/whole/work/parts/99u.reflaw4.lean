/-! lines of a law -/
abbrev gLn : Type := Int × Int × Int × Int
def gLine (t : Int → Int) (e q : Int) : Int ⊕ ((Int × Int) × List (Int × Int) × Int) :=
  if 10 ≤ zK t e q ∧ zK t e q ≤ 12 then
    (if zK t e (zX t e q) = 51 ∧ 0 ≤ zNm t e (zX t e q) ∧ zNm t e (zX t e q) ≤ 40 then
      (if zK t e (zX t e (zX t e q)) = 17 then
        (match gCond t e (zX t e (zX t e (zX t e q))) with
          | .inl f => .inl f
          | .inr (cs, q') => .inr ((zK t e q - 10, zNm t e (zX t e q)), cs, q'))
      else .inr ((zK t e q - 10, zNm t e (zX t e q)), [], zX t e (zX t e q)))
    else .inl (zX t e q))
  else .inl q
def gLawL (t : Int → Int) (e : Int) : Nat → Int → List (Int × Int) → List gLn → Int ⊕ (List gLn × List (Int × Int))
  | 0, q, _, _ => .inl q
  | k + 1, q, cs, ls => match gLine t e q with
    | .inl f => .inl f
    | .inr (ka, c, q') => if zK t e q' = 52 then .inr (ls ++ [(ka.1, ka.2, (cs.length : Int), ((cs ++ c).length : Int))], cs ++ c) else if zK t e q' = 159 then gLawL t e k (zX t e q') (cs ++ c) (ls ++ [(ka.1, ka.2, (cs.length : Int), ((cs ++ c).length : Int))]) else .inl q'
/-- the law that a text tells, or where it is wrong -/
def gLaw (t : Int → Int) (e : Int) : Int ⊕ (List gLn × List (Int × Int)) := if zK t e (zSk t e 0) = 52 then .inr ([], []) else gLawL t e 12 (zSk t e 0) [] []
section GLW
variable {t : Int → Int} {e q : Int}
theorem gLine_1 (h : ¬ (10 ≤ zK t e q ∧ zK t e q ≤ 12)) : gLine t e q = .inl q := if_neg h
theorem gLine_2 (h : 10 ≤ zK t e q ∧ zK t e q ≤ 12) (h2 : ¬ (zK t e (zX t e q) = 51 ∧ 0 ≤ zNm t e (zX t e q) ∧ zNm t e (zX t e q) ≤ 40)) : gLine t e q = .inl (zX t e q) := by unfold gLine; rw [if_pos h, if_neg h2]
theorem gLine_3 (h : 10 ≤ zK t e q ∧ zK t e q ≤ 12) (h2 : zK t e (zX t e q) = 51 ∧ 0 ≤ zNm t e (zX t e q) ∧ zNm t e (zX t e q) ≤ 40) (h3 : zK t e (zX t e (zX t e q)) ≠ 17) : gLine t e q = .inr ((zK t e q - 10, zNm t e (zX t e q)), [], zX t e (zX t e q)) := by unfold gLine; rw [if_pos h, if_pos h2, if_neg h3]
theorem gLine_4 (h : 10 ≤ zK t e q ∧ zK t e q ≤ 12) (h2 : zK t e (zX t e q) = 51 ∧ 0 ≤ zNm t e (zX t e q) ∧ zNm t e (zX t e q) ≤ 40) (h3 : zK t e (zX t e (zX t e q)) = 17) {f : Int} (h4 : gCond t e (zX t e (zX t e (zX t e q))) = .inl f) : gLine t e q = .inl f := by unfold gLine; rw [if_pos h, if_pos h2, if_pos h3, h4]
theorem gLine_5 (h : 10 ≤ zK t e q ∧ zK t e q ≤ 12) (h2 : zK t e (zX t e q) = 51 ∧ 0 ≤ zNm t e (zX t e q) ∧ zNm t e (zX t e q) ≤ 40) (h3 : zK t e (zX t e (zX t e q)) = 17) {cs : List (Int × Int)} {q' : Int} (h4 : gCond t e (zX t e (zX t e (zX t e q))) = .inr (cs, q')) : gLine t e q = .inr ((zK t e q - 10, zNm t e (zX t e q)), cs, q') := by unfold gLine; rw [if_pos h, if_pos h2, if_pos h3, h4]
/-- a line that is right: how far it goes, its codes, its types -/
theorem gLine_ok {ka : Int × Int} {cs : List (Int × Int)} {q' : Int} (h : gLine t e q = .inr (ka, cs, q')) : q + 1 < q' ∧ q' ≤ e ∧ ((cs.length : Int) + 2 ≤ q' - q) ∧ (∀ c ∈ cs, cOk c) ∧ ((0 ≤ ka.1 ∧ ka.1 ≤ 2) ∧ 0 ≤ ka.2 ∧ ka.2 ≤ 40) ∧ (cs = [] ∨ cTy cs [] = some [true]) := by
  unfold gLine at h
  split at h
  · rename_i h1
    have b1 := zX_b (t := t) (zK_lt (t := t) (e := e) (q := q) (by omega))
    split at h
    · rename_i h2
      have b2 := zX_b (t := t) (zK_lt (t := t) (e := e) (q := zX t e q) (by omega))
      split at h
      · rename_i h3
        have b3 := zX_b (t := t) (zK_lt (t := t) (e := e) (q := zX t e (zX t e q)) (by omega))
        have h5 := gCond_ok (t := t) b3.2
        have h6 := gCond_ty (t := t) (e := e) (zX t e (zX t e (zX t e q)))
        cases h4 : gCond t e (zX t e (zX t e (zX t e q))) with
        | inl f => rw [h4] at h; cases h
        | inr y =>
          obtain ⟨c2, q2⟩ := y
          rw [h4] at h h5 h6
          cases h
          obtain ⟨d1, d2, d3, d4⟩ := h5
          exact ⟨by omega, d2, by omega, d4, ⟨⟨by show 0 ≤ zK t e q - 10; omega, by show zK t e q - 10 ≤ 2; omega⟩, h2.2⟩, Or.inr (h6 [] (by decide))⟩
      · cases h
        exact ⟨by omega, b2.2, by show ((0 : Nat) : Int) + 2 ≤ _; omega, fun c hc => absurd hc List.not_mem_nil, ⟨⟨by show 0 ≤ zK t e q - 10; omega, by show zK t e q - 10 ≤ 2; omega⟩, h2.2⟩, Or.inl rfl⟩
    · cases h
  · cases h
end GLW
/-! the lines as they lie behind the codes -/
def pLn (w w' : Int → Int) (c : Int) (cs : List (Int × Int)) (n k a : Int) : Prop := (∀ j : Int, (j < 2801 + 2 * c ∨ 3601 ≤ j) → ¬ (2753 + 4 * n ≤ j ∧ j < 2757 + 4 * n) → w' j = w j) ∧ (∀ i : Nat, i < cs.length → w' (2801 + 2 * (c + i)) = (cs.getD i (0, 0)).1 ∧ w' (2801 + 2 * (c + i) + 1) = (cs.getD i (0, 0)).2) ∧ w' (2753 + 4 * n) = k ∧ w' (2753 + 4 * n + 1) = a ∧ w' (2753 + 4 * n + 2) = c ∧ w' (2753 + 4 * n + 3) = c + cs.length
def pDr (w0 w : Int → Int) (ls : List gLn) (cs : List (Int × Int)) : Prop := (∀ j : Int, j < 2753 ∨ 3601 ≤ j → w j = w0 j) ∧ (∀ n : Nat, n < ls.length → w (2753 + 4 * (n : Int)) = (ls.getD n (0, 0, 0, 0)).1 ∧ w (2753 + 4 * (n : Int) + 1) = (ls.getD n (0, 0, 0, 0)).2.1 ∧ w (2753 + 4 * (n : Int) + 2) = (ls.getD n (0, 0, 0, 0)).2.2.1 ∧ w (2753 + 4 * (n : Int) + 3) = (ls.getD n (0, 0, 0, 0)).2.2.2) ∧ ∀ i : Nat, i < cs.length → w (2801 + 2 * (i : Int)) = (cs.getD i (0, 0)).1 ∧ w (2801 + 2 * (i : Int) + 1) = (cs.getD i (0, 0)).2
theorem getD_app4 {a b : List gLn} {i : Nat} : (a ++ b).getD i (0, 0, 0, 0) = if i < a.length then a.getD i (0, 0, 0, 0) else b.getD (i - a.length) (0, 0, 0, 0) := by
  split
  · rename_i h; rw [List.getD_eq_getElem?_getD, List.getD_eq_getElem?_getD, List.getElem?_append_left h]
  · rename_i h; rw [List.getD_eq_getElem?_getD, List.getD_eq_getElem?_getD, List.getElem?_append_right (by omega)]
theorem pDr.nil {w : Int → Int} : pDr w w [] [] := ⟨fun _ _ => rfl, fun n hn => absurd hn (Nat.not_lt_zero n), fun i hi => absurd hi (Nat.not_lt_zero i)⟩
theorem pDr.S {w0 w w' : Int → Int} {ls : List gLn} {cs c : List (Int × Int)} {k a : Int} (h : pDr w0 w ls cs) (h2 : pLn w w' cs.length c ls.length k a) (hl : ls.length < 12) : pDr w0 w' (ls ++ [(k, a, (cs.length : Int), ((cs ++ c).length : Int))]) (cs ++ c) := by
  obtain ⟨a1, a2, a3⟩ := h
  obtain ⟨b1, b2, b3, b4, b5, b6⟩ := h2
  refine ⟨fun j hj => (b1 j (by omega) (by omega)).trans (a1 j hj), fun n hn => ?_, fun i hi => ?_⟩
  · rw [List.length_append] at hn
    have hn2 : n < ls.length + 1 := hn
    rw [getD_app4]
    by_cases e : n < ls.length
    · rw [if_pos e, b1 _ (by omega) (by omega), b1 _ (by omega) (by omega), b1 _ (by omega) (by omega), b1 _ (by omega) (by omega)]; exact a2 n e
    · have : n = ls.length := by omega
      subst this
      rw [if_neg e, Nat.sub_self, List.length_append]
      exact ⟨b3, b4, b5, by rw [b6]; show _ = ((cs.length + c.length : Nat) : Int); omega⟩
  · rw [List.length_append] at hi
    rw [getD_app]
    by_cases e : i < cs.length
    · rw [if_pos e, b1 _ (by omega) (by omega), b1 _ (by omega) (by omega)]; exact a3 i e
    · rw [if_neg e]
      have h3 := b2 (i - cs.length) (by omega)
      rw [show (cs.length : Int) + ((i - cs.length : Nat) : Int) = (i : Int) by omega] at h3
      exact h3
theorem zK_52 {t : Int → Int} {e q : Int} (ht : ∀ j : Int, 0 ≤ j → j < e → 0 ≤ t j ∧ t j ≤ 255) (h0 : 0 ≤ q) (hq : q ≤ e) : zK t e q = 52 ↔ q = e := by
  constructor
  · intro h
    refine Classical.byContradiction fun c => ?_
    rcases zK_3 t e q with ⟨a, b, d⟩ | ⟨a, b, d⟩ | ⟨a, b, d⟩ | ⟨a, d⟩
    · have := zWrd_21 t q (zLen t q e); omega
    · omega
    · have := ht q h0 a; omega
    · omega
  · intro h; exact zK_e (by omega)
/-- behind a law's line, behind all lines -/
def rLine (m z : Nat) (T : Nat → Nat × Int) (F : Nat → Nat → Int) (I : Nat → Int → Int) (P : Nat → Nat → Option Nat) (Y : Nat → Int → Option Nat) (t : Int → Int) (e c n : Int) (w : Int → Int) : (Int ⊕ ((Int × Int) × List (Int × Int) × Int)) → Option Value → xH → Prop
  | .inl f => fun v h' => v = some (J 0) ∧ ∃ (p d c1 : Int) (w1 : Int → Int), (∀ j : Int, j < 2753 ∨ 3601 ≤ j → w1 j = w j) ∧ w32 w1 ∧ h' = (z, T, fR F m p f d c1, upA I (m + 1) w1, P, Y)
  | .inr (ka, cs, q) => fun v h' => v = some (J 1) ∧ ∃ (p b d c1 : Int) (w1 : Int → Int), zSk t e p = q ∧ (0 ≤ p ∧ p ≤ e) ∧ c1 = c + cs.length ∧ pLn w w1 c cs n ka.1 ka.2 ∧ w32 w1 ∧ h' = (z, T, fR F m p b d c1, upA I (m + 1) w1, P, Y)
def rLaws (m z : Nat) (T : Nat → Nat × Int) (F : Nat → Nat → Int) (I : Nat → Int → Int) (P : Nat → Nat → Option Nat) (Y : Nat → Int → Option Nat) (w : Int → Int) : (Int ⊕ (List gLn × List (Int × Int))) → Option Value → xH → Prop
  | .inl f => fun v h' => v = some (J (-1)) ∧ ∃ (p d c1 : Int) (w1 : Int → Int), (∀ j : Int, j < 2753 ∨ 3601 ≤ j → w1 j = w j) ∧ w32 w1 ∧ h' = (z, T, fR F m p f d c1, upA I (m + 1) w1, P, Y)
  | .inr (ls, cs) => fun v h' => v = some (J ls.length) ∧ ∃ (p b d c1 : Int) (w1 : Int → Int), pDr w w1 ls cs ∧ w32 w1 ∧ h' = (z, T, fR F m p b d c1, upA I (m + 1) w1, P, Y)

theorem rLine.cg {E : xE} {m z kk : Nat} {T : Nat → Nat × Int} {F : Nat → Nat → Int} {I : Nat → Int → Int} {P : Nat → Nat → Option Nat} {Y : Nat → Int → Option Nat} {t : Int → Int} {e c n : Int} {w : Int → Int} {M : xM} {As : List Value} {hh : xH} {x y : (Int ⊕ ((Int × Int) × List (Int × Int) × Int))} (h : x = y) (ct : Ct E kk M 0 0 As hh (rLine m z T F I P Y t e c n w x)) : Ct E kk M 0 0 As hh (rLine m z T F I P Y t e c n w y) := h ▸ ct
theorem dX12_readLawLine_0 : decode cX12_readLawLine 0 = .ok (.sipush 2753, 3) := by decide +kernel
theorem dX12_readLawLine_3 : decode cX12_readLawLine 3 = .ok (.iconst 4, 1) := by decide +kernel
theorem dX12_readLawLine_4 : decode cX12_readLawLine 4 = .ok (.iload_n 1, 1) := by decide +kernel
theorem dX12_readLawLine_5 : decode cX12_readLawLine 5 = .ok (.imul, 1) := by decide +kernel
theorem dX12_readLawLine_6 : decode cX12_readLawLine 6 = .ok (.iadd, 1) := by decide +kernel
theorem dX12_readLawLine_7 : decode cX12_readLawLine 7 = .ok (.istore_n 2, 1) := by decide +kernel
theorem dX12_readLawLine_8 : decode cX12_readLawLine 8 = .ok (.aload_n 0, 1) := by decide +kernel
theorem dX12_readLawLine_9 : decode cX12_readLawLine 9 = .ok (.getfield 13, 3) := by decide +kernel
theorem dX12_readLawLine_12 : decode cX12_readLawLine 12 = .ok (.iload_n 2, 1) := by decide +kernel
theorem dX12_readLawLine_13 : decode cX12_readLawLine 13 = .ok (.aload_n 0, 1) := by decide +kernel
theorem dX12_readLawLine_14 : decode cX12_readLawLine 14 = .ok (.ldc 163, 2) := by decide +kernel
theorem dX12_readLawLine_16 : decode cX12_readLawLine 16 = .ok (.invokevirtual 111, 3) := by decide +kernel
theorem dX12_readLawLine_19 : decode cX12_readLawLine 19 = .ok (.ifCond .eq 7, 3) := by decide +kernel
theorem dX12_readLawLine_22 : decode cX12_readLawLine 22 = .ok (.iconst 0, 1) := by decide +kernel
theorem dX12_readLawLine_23 : decode cX12_readLawLine 23 = .ok (.goto 30, 3) := by decide +kernel
theorem dX12_readLawLine_26 : decode cX12_readLawLine 26 = .ok (.aload_n 0, 1) := by decide +kernel
theorem dX12_readLawLine_27 : decode cX12_readLawLine 27 = .ok (.ldc 228, 2) := by decide +kernel
theorem dX12_readLawLine_29 : decode cX12_readLawLine 29 = .ok (.invokevirtual 111, 3) := by decide +kernel
theorem dX12_readLawLine_32 : decode cX12_readLawLine 32 = .ok (.ifCond .eq 7, 3) := by decide +kernel
theorem dX12_readLawLine_35 : decode cX12_readLawLine 35 = .ok (.iconst 1, 1) := by decide +kernel
theorem dX12_readLawLine_36 : decode cX12_readLawLine 36 = .ok (.goto 17, 3) := by decide +kernel
theorem dX12_readLawLine_39 : decode cX12_readLawLine 39 = .ok (.aload_n 0, 1) := by decide +kernel
theorem dX12_readLawLine_40 : decode cX12_readLawLine 40 = .ok (.ldc 230, 2) := by decide +kernel
theorem dX12_readLawLine_42 : decode cX12_readLawLine 42 = .ok (.invokevirtual 111, 3) := by decide +kernel
theorem dX12_readLawLine_45 : decode cX12_readLawLine 45 = .ok (.ifCond .eq 7, 3) := by decide +kernel
theorem dX12_readLawLine_48 : decode cX12_readLawLine 48 = .ok (.iconst 2, 1) := by decide +kernel
theorem dX12_readLawLine_49 : decode cX12_readLawLine 49 = .ok (.goto 4, 3) := by decide +kernel
theorem dX12_readLawLine_52 : decode cX12_readLawLine 52 = .ok (.iconst (-1), 1) := by decide +kernel
theorem dX12_readLawLine_53 : decode cX12_readLawLine 53 = .ok (.iastore, 1) := by decide +kernel
theorem dX12_readLawLine_54 : decode cX12_readLawLine 54 = .ok (.aload_n 0, 1) := by decide +kernel
theorem dX12_readLawLine_55 : decode cX12_readLawLine 55 = .ok (.getfield 13, 3) := by decide +kernel
theorem dX12_readLawLine_58 : decode cX12_readLawLine 58 = .ok (.iload_n 2, 1) := by decide +kernel
theorem dX12_readLawLine_59 : decode cX12_readLawLine 59 = .ok (.iaload, 1) := by decide +kernel
theorem dX12_readLawLine_60 : decode cX12_readLawLine 60 = .ok (.ifCond .ge 5, 3) := by decide +kernel
theorem dX12_readLawLine_63 : decode cX12_readLawLine 63 = .ok (.iconst 0, 1) := by decide +kernel
theorem dX12_readLawLine_64 : decode cX12_readLawLine 64 = .ok (.ireturn, 1) := by decide +kernel
theorem dX12_readLawLine_65 : decode cX12_readLawLine 65 = .ok (.aload_n 0, 1) := by decide +kernel
theorem dX12_readLawLine_66 : decode cX12_readLawLine 66 = .ok (.getfield 13, 3) := by decide +kernel
theorem dX12_readLawLine_69 : decode cX12_readLawLine 69 = .ok (.iload_n 2, 1) := by decide +kernel
theorem dX12_readLawLine_70 : decode cX12_readLawLine 70 = .ok (.iconst 1, 1) := by decide +kernel
theorem dX12_readLawLine_71 : decode cX12_readLawLine 71 = .ok (.iadd, 1) := by decide +kernel
theorem dX12_readLawLine_72 : decode cX12_readLawLine 72 = .ok (.aload_n 0, 1) := by decide +kernel
theorem dX12_readLawLine_73 : decode cX12_readLawLine 73 = .ok (.iconst 0, 1) := by decide +kernel
theorem dX12_readLawLine_74 : decode cX12_readLawLine 74 = .ok (.bipush 40, 2) := by decide +kernel
theorem dX12_readLawLine_76 : decode cX12_readLawLine 76 = .ok (.invokevirtual 115, 3) := by decide +kernel
theorem dX12_readLawLine_79 : decode cX12_readLawLine 79 = .ok (.iastore, 1) := by decide +kernel
theorem dX12_readLawLine_80 : decode cX12_readLawLine 80 = .ok (.aload_n 0, 1) := by decide +kernel
theorem dX12_readLawLine_81 : decode cX12_readLawLine 81 = .ok (.getfield 13, 3) := by decide +kernel
theorem dX12_readLawLine_84 : decode cX12_readLawLine 84 = .ok (.iload_n 2, 1) := by decide +kernel
theorem dX12_readLawLine_85 : decode cX12_readLawLine 85 = .ok (.iconst 1, 1) := by decide +kernel
theorem dX12_readLawLine_86 : decode cX12_readLawLine 86 = .ok (.iadd, 1) := by decide +kernel
theorem dX12_readLawLine_87 : decode cX12_readLawLine 87 = .ok (.iaload, 1) := by decide +kernel
theorem dX12_readLawLine_88 : decode cX12_readLawLine 88 = .ok (.ifCond .ge 5, 3) := by decide +kernel
theorem dX12_readLawLine_91 : decode cX12_readLawLine 91 = .ok (.iconst 0, 1) := by decide +kernel
theorem dX12_readLawLine_92 : decode cX12_readLawLine 92 = .ok (.ireturn, 1) := by decide +kernel
theorem dX12_readLawLine_93 : decode cX12_readLawLine 93 = .ok (.aload_n 0, 1) := by decide +kernel
theorem dX12_readLawLine_94 : decode cX12_readLawLine 94 = .ok (.getfield 13, 3) := by decide +kernel
theorem dX12_readLawLine_97 : decode cX12_readLawLine 97 = .ok (.iload_n 2, 1) := by decide +kernel
theorem dX12_readLawLine_98 : decode cX12_readLawLine 98 = .ok (.iconst 2, 1) := by decide +kernel
theorem dX12_readLawLine_99 : decode cX12_readLawLine 99 = .ok (.iadd, 1) := by decide +kernel
theorem dX12_readLawLine_100 : decode cX12_readLawLine 100 = .ok (.aload_n 0, 1) := by decide +kernel
theorem dX12_readLawLine_101 : decode cX12_readLawLine 101 = .ok (.getfield 175, 3) := by decide +kernel
theorem dX12_readLawLine_104 : decode cX12_readLawLine 104 = .ok (.iastore, 1) := by decide +kernel
theorem dX12_readLawLine_105 : decode cX12_readLawLine 105 = .ok (.aload_n 0, 1) := by decide +kernel
theorem dX12_readLawLine_106 : decode cX12_readLawLine 106 = .ok (.iconst 0, 1) := by decide +kernel
theorem dX12_readLawLine_107 : decode cX12_readLawLine 107 = .ok (.putfield 201, 3) := by decide +kernel
theorem dX12_readLawLine_110 : decode cX12_readLawLine 110 = .ok (.aload_n 0, 1) := by decide +kernel
theorem dX12_readLawLine_111 : decode cX12_readLawLine 111 = .ok (.ldc 232, 2) := by decide +kernel
theorem dX12_readLawLine_113 : decode cX12_readLawLine 113 = .ok (.invokevirtual 209, 3) := by decide +kernel
theorem dX12_readLawLine_116 : decode cX12_readLawLine 116 = .ok (.ifCond .eq 12, 3) := by decide +kernel
theorem dX12_readLawLine_119 : decode cX12_readLawLine 119 = .ok (.aload_n 0, 1) := by decide +kernel
theorem dX12_readLawLine_120 : decode cX12_readLawLine 120 = .ok (.invokevirtual 204, 3) := by decide +kernel
theorem dX12_readLawLine_123 : decode cX12_readLawLine 123 = .ok (.ifCond .ne 5, 3) := by decide +kernel
theorem dX12_readLawLine_126 : decode cX12_readLawLine 126 = .ok (.iconst 0, 1) := by decide +kernel
theorem dX12_readLawLine_127 : decode cX12_readLawLine 127 = .ok (.ireturn, 1) := by decide +kernel
theorem dX12_readLawLine_128 : decode cX12_readLawLine 128 = .ok (.aload_n 0, 1) := by decide +kernel
theorem dX12_readLawLine_129 : decode cX12_readLawLine 129 = .ok (.getfield 13, 3) := by decide +kernel
theorem dX12_readLawLine_132 : decode cX12_readLawLine 132 = .ok (.iload_n 2, 1) := by decide +kernel
theorem dX12_readLawLine_133 : decode cX12_readLawLine 133 = .ok (.iconst 3, 1) := by decide +kernel
theorem dX12_readLawLine_134 : decode cX12_readLawLine 134 = .ok (.iadd, 1) := by decide +kernel
theorem dX12_readLawLine_135 : decode cX12_readLawLine 135 = .ok (.aload_n 0, 1) := by decide +kernel
theorem dX12_readLawLine_136 : decode cX12_readLawLine 136 = .ok (.getfield 175, 3) := by decide +kernel
theorem dX12_readLawLine_139 : decode cX12_readLawLine 139 = .ok (.iastore, 1) := by decide +kernel
theorem dX12_readLawLine_140 : decode cX12_readLawLine 140 = .ok (.iconst 1, 1) := by decide +kernel
theorem dX12_readLawLine_141 : decode cX12_readLawLine 141 = .ok (.ireturn, 1) := by decide +kernel
theorem dX12_readLine_0 : decode cX12_readLine 0 = .ok (.aload_n 0, 1) := by decide +kernel
theorem dX12_readLine_1 : decode cX12_readLine 1 = .ok (.invokevirtual 108, 3) := by decide +kernel
theorem dX12_readLine_4 : decode cX12_readLine 4 = .ok (.iload_n 2, 1) := by decide +kernel
theorem dX12_readLine_5 : decode cX12_readLine 5 = .ok (.iload_n 1, 1) := by decide +kernel
theorem dX12_readLine_6 : decode cX12_readLine 6 = .ok (.ifCond .eq 8, 3) := by decide +kernel
theorem dX12_readLine_9 : decode cX12_readLine 9 = .ok (.bipush 14, 2) := by decide +kernel
theorem dX12_readLine_11 : decode cX12_readLine 11 = .ok (.goto 5, 3) := by decide +kernel
theorem dX12_readLine_14 : decode cX12_readLine 14 = .ok (.bipush 12, 2) := by decide +kernel
theorem dX12_readLine_16 : decode cX12_readLine 16 = .ok (.if_icmp .ge 29, 3) := by decide +kernel
theorem dX12_readLine_19 : decode cX12_readLine 19 = .ok (.iload_n 1, 1) := by decide +kernel
theorem dX12_readLine_20 : decode cX12_readLine 20 = .ok (.ifCond .eq 13, 3) := by decide +kernel
theorem dX12_readLine_23 : decode cX12_readLine 23 = .ok (.aload_n 0, 1) := by decide +kernel
theorem dX12_readLine_24 : decode cX12_readLine 24 = .ok (.invokevirtual 234, 3) := by decide +kernel
theorem dX12_readLine_27 : decode cX12_readLine 27 = .ok (.ifCond .eq 18, 3) := by decide +kernel
theorem dX12_readLine_30 : decode cX12_readLine 30 = .ok (.goto 11, 3) := by decide +kernel
theorem dX12_readLine_33 : decode cX12_readLine 33 = .ok (.aload_n 0, 1) := by decide +kernel
theorem dX12_readLine_34 : decode cX12_readLine 34 = .ok (.iload_n 2, 1) := by decide +kernel
theorem dX12_readLine_35 : decode cX12_readLine 35 = .ok (.invokevirtual 237, 3) := by decide +kernel
theorem dX12_readLine_38 : decode cX12_readLine 38 = .ok (.ifCond .eq 7, 3) := by decide +kernel
theorem dX12_readLine_41 : decode cX12_readLine 41 = .ok (.iconst 1, 1) := by decide +kernel
theorem dX12_readLine_42 : decode cX12_readLine 42 = .ok (.goto 4, 3) := by decide +kernel
theorem dX12_readLine_45 : decode cX12_readLine 45 = .ok (.iconst 0, 1) := by decide +kernel
theorem dX12_readLine_46 : decode cX12_readLine 46 = .ok (.ireturn, 1) := by decide +kernel
theorem dX12_readAll_0 : decode cX12_readAll 0 = .ok (.aload_n 0, 1) := by decide +kernel
theorem dX12_readAll_1 : decode cX12_readAll 1 = .ok (.invokevirtual 240, 3) := by decide +kernel
theorem dX12_readAll_4 : decode cX12_readAll 4 = .ok (.aload_n 0, 1) := by decide +kernel
theorem dX12_readAll_5 : decode cX12_readAll 5 = .ok (.iconst 0, 1) := by decide +kernel
theorem dX12_readAll_6 : decode cX12_readAll 6 = .ok (.putfield 175, 3) := by decide +kernel
theorem dX12_readAll_9 : decode cX12_readAll 9 = .ok (.aload_n 0, 1) := by decide +kernel
theorem dX12_readAll_10 : decode cX12_readAll 10 = .ok (.invokevirtual 96, 3) := by decide +kernel
theorem dX12_readAll_13 : decode cX12_readAll 13 = .ok (.aload_n 0, 1) := by decide +kernel
theorem dX12_readAll_14 : decode cX12_readAll 14 = .ok (.getfield 83, 3) := by decide +kernel
theorem dX12_readAll_17 : decode cX12_readAll 17 = .ok (.aload_n 0, 1) := by decide +kernel
theorem dX12_readAll_18 : decode cX12_readAll 18 = .ok (.getfield 86, 3) := by decide +kernel
theorem dX12_readAll_21 : decode cX12_readAll 21 = .ok (.if_icmp .ne 5, 3) := by decide +kernel
theorem dX12_readAll_24 : decode cX12_readAll 24 = .ok (.iconst 0, 1) := by decide +kernel
theorem dX12_readAll_25 : decode cX12_readAll 25 = .ok (.ireturn, 1) := by decide +kernel
theorem dX12_readAll_26 : decode cX12_readAll 26 = .ok (.iconst 0, 1) := by decide +kernel
theorem dX12_readAll_27 : decode cX12_readAll 27 = .ok (.istore_n 2, 1) := by decide +kernel
theorem dX12_readAll_28 : decode cX12_readAll 28 = .ok (.aload_n 0, 1) := by decide +kernel
theorem dX12_readAll_29 : decode cX12_readAll 29 = .ok (.iload_n 1, 1) := by decide +kernel
theorem dX12_readAll_30 : decode cX12_readAll 30 = .ok (.iload_n 2, 1) := by decide +kernel
theorem dX12_readAll_31 : decode cX12_readAll 31 = .ok (.invokevirtual 243, 3) := by decide +kernel
theorem dX12_readAll_34 : decode cX12_readAll 34 = .ok (.ifCond .ne 5, 3) := by decide +kernel
theorem dX12_readAll_37 : decode cX12_readAll 37 = .ok (.iconst (-1), 1) := by decide +kernel
theorem dX12_readAll_38 : decode cX12_readAll 38 = .ok (.ireturn, 1) := by decide +kernel
theorem dX12_readAll_39 : decode cX12_readAll 39 = .ok (.aload_n 0, 1) := by decide +kernel
theorem dX12_readAll_40 : decode cX12_readAll 40 = .ok (.invokevirtual 96, 3) := by decide +kernel
theorem dX12_readAll_43 : decode cX12_readAll 43 = .ok (.aload_n 0, 1) := by decide +kernel
theorem dX12_readAll_44 : decode cX12_readAll 44 = .ok (.getfield 83, 3) := by decide +kernel
theorem dX12_readAll_47 : decode cX12_readAll 47 = .ok (.aload_n 0, 1) := by decide +kernel
theorem dX12_readAll_48 : decode cX12_readAll 48 = .ok (.getfield 86, 3) := by decide +kernel
theorem dX12_readAll_51 : decode cX12_readAll 51 = .ok (.if_icmp .ne 7, 3) := by decide +kernel
theorem dX12_readAll_54 : decode cX12_readAll 54 = .ok (.iload_n 2, 1) := by decide +kernel
theorem dX12_readAll_55 : decode cX12_readAll 55 = .ok (.iconst 1, 1) := by decide +kernel
theorem dX12_readAll_56 : decode cX12_readAll 56 = .ok (.iadd, 1) := by decide +kernel
theorem dX12_readAll_57 : decode cX12_readAll 57 = .ok (.ireturn, 1) := by decide +kernel
theorem dX12_readAll_58 : decode cX12_readAll 58 = .ok (.aload_n 0, 1) := by decide +kernel
theorem dX12_readAll_59 : decode cX12_readAll 59 = .ok (.bipush 59, 2) := by decide +kernel
theorem dX12_readAll_61 : decode cX12_readAll 61 = .ok (.bipush 59, 2) := by decide +kernel
theorem dX12_readAll_63 : decode cX12_readAll 63 = .ok (.invokevirtual 89, 3) := by decide +kernel
theorem dX12_readAll_66 : decode cX12_readAll 66 = .ok (.ifCond .ne 5, 3) := by decide +kernel
theorem dX12_readAll_69 : decode cX12_readAll 69 = .ok (.iconst (-1), 1) := by decide +kernel
theorem dX12_readAll_70 : decode cX12_readAll 70 = .ok (.ireturn, 1) := by decide +kernel
theorem dX12_readAll_71 : decode cX12_readAll 71 = .ok (.aload_n 0, 1) := by decide +kernel
theorem dX12_readAll_72 : decode cX12_readAll 72 = .ok (.dup, 1) := by decide +kernel
theorem dX12_readAll_73 : decode cX12_readAll 73 = .ok (.getfield 83, 3) := by decide +kernel
theorem dX12_readAll_76 : decode cX12_readAll 76 = .ok (.iconst 1, 1) := by decide +kernel
theorem dX12_readAll_77 : decode cX12_readAll 77 = .ok (.iadd, 1) := by decide +kernel
theorem dX12_readAll_78 : decode cX12_readAll 78 = .ok (.putfield 83, 3) := by decide +kernel
theorem dX12_readAll_81 : decode cX12_readAll 81 = .ok (.iinc 2 1, 3) := by decide +kernel
theorem dX12_readAll_84 : decode cX12_readAll 84 = .ok (.goto (-56), 3) := by decide +kernel
set_option maxHeartbeats 4000000 in
set_option maxRecDepth 100000 in
theorem ct_X12_readLawLine {E : xE} {z : Nat} {T : Nat → Nat × Int} {F : Nat → Nat → Int} {I : Nat → Int → Int} {P : Nat → Nat → Option Nat} {Y : Nat → Int → Option Nat} {m : Nat} {w : Int → Int} (hw : wM T P m) (hT : ∀ j : Int, -128 ≤ I (m + 6) j ∧ I (m + 6) j ≤ 127) {t : Int → Int} {e : Int} (ht : rTp t (I (m + 6)) e) (he : 0 ≤ e ∧ e ≤ 400) (h11 : F m 11 = e) {dp c q n : Int} (hqb : 0 ≤ q ∧ q ≤ e) (hqq : zSk t e q = q) {ad adv : Nat → Nat} {sio : Option Nat} (hW : ∀ u : State, E.2.2.2.2 u → oWs E.2.2.2.1 ad adv sio u) (hR : w32 w) (hc : 0 ≤ c ∧ c + 1 ≤ q + 1) (hn : 0 ≤ n ∧ n < 12) : Ct E 47 mX12_readLawLine 0 0 [.ref m, J n] (z, T, fR F m (zLt t e q) (q) (dp) (c), upA I (m + 1) (w), P, Y) (rLine m z T F I P Y t e c n w (gLine t e q)) := by
  obtain ⟨⟨q0, q1, q2, q3⟩, -⟩ := id hw
  have htb : ∀ j : Int, 0 ≤ j → j < e → 0 ≤ t j ∧ t j ≤ 255 := fun j a b => (ht j a b).1
  have hlb := zLt_b (t := t) hqb.2
  refine Ct.of [some (.ref m), some (J n), none] kt_X12_readLawLine rfl (Nat.le_of_ble_eq_true rfl) rfl (fun d hd => ?_)
  generalize hX : xN E _ _ _ = X
  refine xg_sipush 3 dX12_readLawLine_0 rfl (by decide) ?_
  refine xg_iconst 4 dX12_readLawLine_3 rfl ?_
  refine xg_iloadn 5 dX12_readLawLine_4 rfl rfl rfl ?_
  refine xg_imul 6 dX12_readLawLine_5 rfl ?_
  refine xg_iadd 7 dX12_readLawLine_6 rfl ?_
  refine xg_istoren 8 _ dX12_readLawLine_7 rfl rfl rfl (by decide) (Or.inr rfl) ?_
  refine xg_aloadn 9 dX12_readLawLine_8 rfl rfl rfl ?_
  refine xg_getP 12 kf_RX12_13 dX12_readLawLine_9 rfl (by assumption) (by assumption) ?_
  refine xg_iloadn 13 dX12_readLawLine_12 rfl rfl rfl ?_
  refine xg_aloadn 14 dX12_readLawLine_13 rfl rfl rfl ?_
  refine xg_ldcS 16 rfl (fun u hu => oWs_163 (hW u hu)) dX12_readLawLine_14 rfl ?_
  refine xg_callV 19 12 [_] _ kv_X12_isWord ⟨_, _, rfl⟩ kl_RX12_111 dX12_readLawLine_16 rfl (by assumption) (by omega) rfl rfl (Nat.le_of_ble_eq_true rfl) (by omega) ⟨Nat.le_refl _, Nat.le_refl _⟩ (cr_isWord hw hT ht he h11 (by omega) hW (i := 10) (by omega)) rfl ?_
  refine xg_join1 53 (fun x => (10 ≤ zK t e q ∧ zK t e q ≤ 12 ∧ x = zK t e q - 10) ∨ (¬ (10 ≤ zK t e q ∧ zK t e q ≤ 12) ∧ x = -1)) ?_ ?_
  · intro x hx
    refine xg_iastW 54 dX12_readLawLine_53 rfl q2 (by rw [q3]; omega) ?_
    refine xg_aloadn 55 dX12_readLawLine_54 rfl rfl rfl ?_
    refine xg_getP 58 kf_RX12_13 dX12_readLawLine_55 rfl (by assumption) (by assumption) ?_
    refine xg_iloadn 59 dX12_readLawLine_58 rfl rfl rfl ?_
    refine xg_ialdW 60 dX12_readLawLine_59 rfl q2 (by rw [q3]; omega) ?_
    rw [wS_at]
    refine xg_ifge 65 63 dX12_readLawLine_60 rfl rfl (by omega) (fun hb60 => ?_) (fun hb60 => ?_)
    · have h1 : 10 ≤ zK t e q ∧ zK t e q ≤ 12 := by omega
      have hxe : x = zK t e q - 10 := by omega
      subst hxe
      have hkl := zK_word (i := (zK t e q).toNat) (by omega) hqb.1 htb (by omega)
      have hx1 := zX_b (t := t) hkl.1
      have hz1 : zSk t e (zLt t e q) = zX t e q := by rw [hkl.2]; rfl
      refine xg_aloadn 66 dX12_readLawLine_65 rfl rfl rfl ?_
      refine xg_getP 69 kf_RX12_13 dX12_readLawLine_66 rfl (by assumption) (by assumption) ?_
      refine xg_iloadn 70 dX12_readLawLine_69 rfl rfl rfl ?_
      refine xg_iconst 71 dX12_readLawLine_70 rfl ?_
      refine xg_iadd 72 dX12_readLawLine_71 rfl ?_
      refine xg_aloadn 73 dX12_readLawLine_72 rfl rfl rfl ?_
      refine xg_iconst 74 dX12_readLawLine_73 rfl ?_
      refine xg_bipush 76 dX12_readLawLine_74 rfl (by decide) ?_
      refine xg_callV 79 12 [_, _] _ kv_X12_number ⟨_, _, rfl⟩ kl_RX12_115 dX12_readLawLine_76 rfl (by assumption) (by omega) rfl rfl (Nat.le_of_ble_eq_true rfl) (by omega) ⟨Nat.le_refl _, Nat.le_refl _⟩ (cr_number hw hT ht he h11 (p := zLt t e q) (q := zX t e q) (by omega) hz1 (by omega)) rfl ?_
      have hnb := zNb0_b (t := t) (e := e) (q := zX t e q) (lo := 0) (hi := 40) (by omega)
      refine xg_iastW 80 dX12_readLawLine_79 rfl q2 (by rw [q3]; omega) ?_
      refine xg_aloadn 81 dX12_readLawLine_80 rfl rfl rfl ?_
      refine xg_getP 84 kf_RX12_13 dX12_readLawLine_81 rfl (by assumption) (by assumption) ?_
      refine xg_iloadn 85 dX12_readLawLine_84 rfl rfl rfl ?_
      refine xg_iconst 86 dX12_readLawLine_85 rfl ?_
      refine xg_iadd 87 dX12_readLawLine_86 rfl ?_
      refine xg_ialdW 88 dX12_readLawLine_87 rfl q2 (by rw [q3]; omega) ?_
      rw [wS_at]
      refine xg_ifge 93 91 dX12_readLawLine_88 rfl rfl (by omega) (fun hb88 => ?_) (fun hb88 => ?_)
      · have h2 : zK t e (zX t e q) = 51 ∧ 0 ≤ zNm t e (zX t e q) ∧ zNm t e (zX t e q) ≤ 40 := by omega
        have hd2 := zDg_51 htb (by omega) h2.1
        have hx2 := zX_b (t := t) hd2.1
        have hz2 : zSk t e (zDg t e (zX t e q)) = zX t e (zX t e q) := by rw [hd2.2]; rfl
        have hL2 := zLen_b (t := t) hd2.1
        have hne : zNb0 t e (zX t e q) 0 40 = zNm t e (zX t e q) := by omega
        have hqx : zSk t e (zX t e (zX t e q)) = zX t e (zX t e q) := zSk_sk hL2.2 ⟨by omega, he.2⟩
        rw [hne]
        have hR3 : w32 (wS (wS (wS w (2753 + 4 * n) (zK t e q - 10)) (2753 + 4 * n + 1) (zNm t e (zX t e q))) (2753 + 4 * n + 2) c) := w32_S (w32_S (w32_S hR _ _ (by omega)) _ _ (by omega)) _ _ (by omega)
        refine xg_aloadn 94 dX12_readLawLine_93 rfl rfl rfl ?_
        refine xg_getP 97 kf_RX12_13 dX12_readLawLine_94 rfl (by assumption) (by assumption) ?_
        refine xg_iloadn 98 dX12_readLawLine_97 rfl rfl rfl ?_
        refine xg_iconst 99 dX12_readLawLine_98 rfl ?_
        refine xg_iadd 100 dX12_readLawLine_99 rfl ?_
        refine xg_aloadn 101 dX12_readLawLine_100 rfl rfl rfl ?_
        refine xg_getI 104 kf_RX12_175 dX12_readLawLine_101 rfl (by assumption) ?_
        rw [fR_16]
        refine xg_iastW 105 dX12_readLawLine_104 rfl q2 (by rw [q3]; omega) ?_
        refine xg_aloadn 106 dX12_readLawLine_105 rfl rfl rfl ?_
        refine xg_iconst 107 dX12_readLawLine_106 rfl ?_
        refine xg_putI 110 kf_RX12_201 dX12_readLawLine_107 rfl (by assumption) ?_
        rw [fR_s13]
        refine xg_aloadn 111 dX12_readLawLine_110 rfl rfl rfl ?_
        refine xg_ldcS 113 rfl (fun u hu => oWs_232 (hW u hu)) dX12_readLawLine_111 rfl ?_
        refine xg_callV 116 12 [_] _ kv_X12_passes ⟨_, _, rfl⟩ kl_RX12_209 dX12_readLawLine_113 rfl (by assumption) (by omega) rfl rfl (Nat.le_of_ble_eq_true rfl) (by omega) ⟨Nat.le_refl _, Nat.le_refl _⟩ (ct_X12_passes hw hT ht he h11 (p := zDg t e (zX t e q)) (q := zX t e (zX t e q)) (by omega) hz2 hW (i := 17) (by omega)) rfl ?_
        refine xg_deq 128 119 dX12_readLawLine_116 rfl rfl (fun hb116 => ?_) (fun hb116 => ?_)
        · rw [if_neg hb116]
          refine xg_aloadn 129 dX12_readLawLine_128 rfl rfl rfl ?_
          refine xg_getP 132 kf_RX12_13 dX12_readLawLine_129 rfl (by assumption) (by assumption) ?_
          refine xg_iloadn 133 dX12_readLawLine_132 rfl rfl rfl ?_
          refine xg_iconst 134 dX12_readLawLine_133 rfl ?_
          refine xg_iadd 135 dX12_readLawLine_134 rfl ?_
          refine xg_aloadn 136 dX12_readLawLine_135 rfl rfl rfl ?_
          refine xg_getI 139 kf_RX12_175 dX12_readLawLine_136 rfl (by assumption) ?_
          rw [fR_16]
          refine xg_iastW 140 dX12_readLawLine_139 rfl q2 (by rw [q3]; omega) ?_
          refine xg_iconst 141 dX12_readLawLine_140 rfl ?_
          subst hX
          refine xg_zreturn dX12_readLawLine_141 rfl (by first | exact bI_01 _ | omega) ⟨Nat.le_refl _, Nat.le_refl _⟩ ?_
          rw [gLine_3 h1 h2 hb116]
          refine ⟨rfl, _, _, _, _, _, hqx, ⟨by omega, by omega⟩, by show c = c + ((0 : Nat) : Int); omega, ⟨fun j hj hj2 => by rw [wS_ne _ _ _ (by omega), wS_ne _ _ _ (by omega), wS_ne _ _ _ (by omega), wS_ne _ _ _ (by omega)], fun i hi => absurd hi (Nat.not_lt_zero i), ?_, ?_, ?_, ?_⟩, w32_S hR3 _ _ (by omega), rfl⟩
          · rw [wS_ne _ _ _ (by omega), wS_ne _ _ _ (by omega), wS_ne _ _ _ (by omega), wS_at]
          · rw [wS_ne _ _ _ (by omega), wS_ne _ _ _ (by omega), wS_at]
          · rw [wS_ne _ _ _ (by omega), wS_at]
          · rw [wS_at]; show c = c + ((0 : Nat) : Int); omega
        · rw [if_pos hb116]
          have hw3 := zK_word (i := 17) (by omega) (by omega) htb hb116
          have hx3 := zX_b (t := t) hw3.1
          have hL3 := zLen_b (t := t) hw3.1
          refine xg_aloadn 120 dX12_readLawLine_119 rfl rfl rfl ?_
          have hok6 := gCond_ok (t := t) hx3.2
          rcases hs6 : gCond t e (zX t e (zX t e (zX t e q))) with f6 | ⟨cs6, q6⟩
          · rw [hs6] at hok6
            refine xg_callVe 123 12 [] _ kv_X12_readCond ⟨_, _, rfl⟩ kl_RX12_204 dX12_readLawLine_120 rfl (by assumption) (by omega) rfl rfl (Nat.le_of_ble_eq_true rfl) (by omega) ⟨Nat.le_refl _, Nat.le_refl _⟩ (rRes.cg hs6 (ct_X12_cond hw hT ht he h11 (p := zLen t (zX t e (zX t e q)) e) (q := zX t e (zX t e (zX t e q))) (by omega) rfl hW hR3 (by omega))) rfl (fun v9 h9 e9 => ?_)
            obtain ⟨rfl, p6, d6, c6, w6, hw6, hR6, rfl⟩ := e9
            refine xg_ifne 128 126 dX12_readLawLine_123 rfl rfl (by omega) (fun hb123 => ?_) (fun hb123 => ?_)
            · exfalso; omega
            · skip
              refine xg_iconst 127 dX12_readLawLine_126 rfl ?_
              subst hX
              refine xg_zreturn dX12_readLawLine_127 rfl (by first | exact bI_01 _ | omega) ⟨Nat.le_refl _, Nat.le_refl _⟩ ?_
              rw [gLine_4 h1 h2 hb116 hs6]
              exact ⟨rfl, _, _, _, _, fun j hj => by rw [hw6 j (by omega), wS_ne _ _ _ (by omega), wS_ne _ _ _ (by omega), wS_ne _ _ _ (by omega)], hR6, rfl⟩
          · rw [hs6] at hok6
            obtain ⟨ho6, hoe6, hol6, hoc6⟩ := hok6
            refine xg_callVe 123 12 [] _ kv_X12_readCond ⟨_, _, rfl⟩ kl_RX12_204 dX12_readLawLine_120 rfl (by assumption) (by omega) rfl rfl (Nat.le_of_ble_eq_true rfl) (by omega) ⟨Nat.le_refl _, Nat.le_refl _⟩ (rRes.cg hs6 (ct_X12_cond hw hT ht he h11 (p := zLen t (zX t e (zX t e q)) e) (q := zX t e (zX t e (zX t e q))) (by omega) rfl hW hR3 (by omega))) rfl (fun v9 h9 e9 => ?_)
            obtain ⟨rfl, p6, b6, c6, w6, hz6, hp6, hc6, hW6, hR6, rfl⟩ := e9
            refine xg_ifne 128 126 dX12_readLawLine_123 rfl rfl (by omega) (fun hb123 => ?_) (fun hb123 => ?_)
            · skip
              refine xg_aloadn 129 dX12_readLawLine_128 rfl rfl rfl ?_
              refine xg_getP 132 kf_RX12_13 dX12_readLawLine_129 rfl (by assumption) (by assumption) ?_
              refine xg_iloadn 133 dX12_readLawLine_132 rfl rfl rfl ?_
              refine xg_iconst 134 dX12_readLawLine_133 rfl ?_
              refine xg_iadd 135 dX12_readLawLine_134 rfl ?_
              refine xg_aloadn 136 dX12_readLawLine_135 rfl rfl rfl ?_
              refine xg_getI 139 kf_RX12_175 dX12_readLawLine_136 rfl (by assumption) ?_
              rw [fR_16]
              refine xg_iastW 140 dX12_readLawLine_139 rfl q2 (by rw [q3]; omega) ?_
              refine xg_iconst 141 dX12_readLawLine_140 rfl ?_
              subst hX
              refine xg_zreturn dX12_readLawLine_141 rfl (by first | exact bI_01 _ | omega) ⟨Nat.le_refl _, Nat.le_refl _⟩ ?_
              rw [gLine_5 h1 h2 hb116 hs6]
              refine ⟨rfl, _, _, _, _, _, hz6, hp6, hc6, ⟨fun j hj hj2 => by rw [wS_ne _ _ _ (by omega), hW6.1 j (by omega), wS_ne _ _ _ (by omega), wS_ne _ _ _ (by omega), wS_ne _ _ _ (by omega)], fun i hi => ⟨by rw [wS_ne _ _ _ (by omega)]; exact (hW6.2 i hi).1, by rw [wS_ne _ _ _ (by omega)]; exact (hW6.2 i hi).2⟩, ?_, ?_, ?_, ?_⟩, w32_S hR6 _ _ (by omega), rfl⟩
              · rw [wS_ne _ _ _ (by omega), hW6.1 _ (by omega), wS_ne _ _ _ (by omega), wS_ne _ _ _ (by omega), wS_at]
              · rw [wS_ne _ _ _ (by omega), hW6.1 _ (by omega), wS_ne _ _ _ (by omega), wS_at]
              · rw [wS_ne _ _ _ (by omega), hW6.1 _ (by omega), wS_at]
              · rw [wS_at]; exact hc6
            · exfalso; omega
      · skip
        refine xg_iconst 92 dX12_readLawLine_91 rfl ?_
        subst hX
        refine xg_zreturn dX12_readLawLine_92 rfl (by first | exact bI_01 _ | omega) ⟨Nat.le_refl _, Nat.le_refl _⟩ ?_
        rw [gLine_2 h1 (by omega)]
        exact ⟨rfl, _, _, _, _, fun j hj => by rw [wS_ne _ _ _ (by omega), wS_ne _ _ _ (by omega)], w32_S (w32_S hR _ _ (by omega)) _ _ (by omega), rfl⟩
    · skip
      refine xg_iconst 64 dX12_readLawLine_63 rfl ?_
      subst hX
      refine xg_zreturn dX12_readLawLine_64 rfl (by first | exact bI_01 _ | omega) ⟨Nat.le_refl _, Nat.le_refl _⟩ ?_
      rw [gLine_1 (by omega)]
      exact ⟨rfl, _, _, _, _, fun j hj => by rw [wS_ne _ _ _ (by omega)], w32_S hR _ _ (by omega), rfl⟩
  · intro hj
    refine xg_deq 26 22 dX12_readLawLine_19 rfl rfl (fun hb19 => ?_) (fun hb19 => ?_)
    · skip
      refine xg_aloadn 27 dX12_readLawLine_26 rfl rfl rfl ?_
      refine xg_ldcS 29 rfl (fun u hu => oWs_228 (hW u hu)) dX12_readLawLine_27 rfl ?_
      refine xg_callV 32 12 [_] _ kv_X12_isWord ⟨_, _, rfl⟩ kl_RX12_111 dX12_readLawLine_29 rfl (by assumption) (by omega) rfl rfl (Nat.le_of_ble_eq_true rfl) (by omega) ⟨Nat.le_refl _, Nat.le_refl _⟩ (cr_isWord hw hT ht he h11 (by omega) hW (i := 11) (by omega)) rfl ?_
      refine xg_deq 39 35 dX12_readLawLine_32 rfl rfl (fun hb32 => ?_) (fun hb32 => ?_)
      · skip
        refine xg_aloadn 40 dX12_readLawLine_39 rfl rfl rfl ?_
        refine xg_ldcS 42 rfl (fun u hu => oWs_230 (hW u hu)) dX12_readLawLine_40 rfl ?_
        refine xg_callV 45 12 [_] _ kv_X12_isWord ⟨_, _, rfl⟩ kl_RX12_111 dX12_readLawLine_42 rfl (by assumption) (by omega) rfl rfl (Nat.le_of_ble_eq_true rfl) (by omega) ⟨Nat.le_refl _, Nat.le_refl _⟩ (cr_isWord hw hT ht he h11 (by omega) hW (i := 12) (by omega)) rfl ?_
        refine xg_deq 52 48 dX12_readLawLine_45 rfl rfl (fun hb45 => ?_) (fun hb45 => ?_)
        · skip
          refine xg_iconst 53 dX12_readLawLine_52 rfl ?_
          exact hj _ (by omega)
        · skip
          refine xg_iconst 49 dX12_readLawLine_48 rfl ?_
          refine xg_goto 53 dX12_readLawLine_49 rfl ?_
          exact hj _ (by omega)
      · skip
        refine xg_iconst 36 dX12_readLawLine_35 rfl ?_
        refine xg_goto 53 dX12_readLawLine_36 rfl ?_
        exact hj _ (by omega)
    · skip
      refine xg_iconst 23 dX12_readLawLine_22 rfl ?_
      refine xg_goto 53 dX12_readLawLine_23 rfl ?_
      exact hj _ (by omega)

set_option maxHeartbeats 4000000 in
set_option maxRecDepth 100000 in
theorem ct_X12_readLine_law {E : xE} {z : Nat} {T : Nat → Nat × Int} {F : Nat → Nat → Int} {I : Nat → Int → Int} {P : Nat → Nat → Option Nat} {Y : Nat → Int → Option Nat} {m : Nat} {w : Int → Int} (hw : wM T P m) (hT : ∀ j : Int, -128 ≤ I (m + 6) j ∧ I (m + 6) j ≤ 127) {t : Int → Int} {e : Int} (ht : rTp t (I (m + 6)) e) (he : 0 ≤ e ∧ e ≤ 400) (h11 : F m 11 = e) {p b dp c q : Int} (hp : 0 ≤ p ∧ p ≤ e) (hq : zSk t e p = q) {ad adv : Nat → Nat} {sio : Option Nat} (hW : ∀ u : State, E.2.2.2.2 u → oWs E.2.2.2.1 ad adv sio u) (hR : w32 w) (hc : 0 ≤ c ∧ c + 1 ≤ q + 1) {n : Int} (hn : 0 ≤ n ∧ n < 12) : Ct E 48 mX12_readLine 0 0 [.ref m, J 0, J n] (z, T, fR F m (p) (b) (dp) (c), upA I (m + 1) (w), P, Y) (rLine m z T F I P Y t e c n w (gLine t e q)) := by
  obtain ⟨⟨q0, q1, q2, q3⟩, -⟩ := id hw
  have hqb := zSk_b (t := t) hp.2
  rw [hq] at hqb
  have htb : ∀ j : Int, 0 ≤ j → j < e → 0 ≤ t j ∧ t j ≤ 255 := fun j a b => (ht j a b).1
  have hqq := zSk_at hp he.2 hq
  refine Ct.of [some (.ref m), some (J 0), some (J n)] kt_X12_readLine rfl (Nat.le_of_ble_eq_true rfl) rfl (fun d hd => ?_)
  generalize hX : xN E _ _ _ = X
  refine xg_aloadn 1 dX12_readLine_0 rfl rfl rfl ?_
  refine xg_callV 4 12 [] _ kv_X12_letters ⟨_, _, rfl⟩ kl_RX12_108 dX12_readLine_1 rfl (by assumption) (by omega) rfl rfl (Nat.le_of_ble_eq_true rfl) (by omega) ⟨Nat.le_refl _, Nat.le_refl _⟩ (cr_letters hw hT ht he h11 hp hq) rfl ?_
  refine xg_iloadn 5 dX12_readLine_4 rfl rfl rfl ?_
  refine xg_iloadn 6 dX12_readLine_5 rfl rfl rfl ?_
  refine xg_ifeq 14 9 dX12_readLine_6 rfl rfl (by omega) (fun hb6 => ?_) (fun hb6 => ?_)
  · skip
    refine xg_bipush 16 dX12_readLine_14 rfl (by decide) ?_
    refine xg_icge 45 19 dX12_readLine_16 rfl rfl (by omega) (fun hb16 => ?_) (fun hb16 => ?_)
    · exfalso; omega
    · skip
      refine xg_iloadn 20 dX12_readLine_19 rfl rfl rfl ?_
      refine xg_ifeq 33 23 dX12_readLine_20 rfl rfl (by omega) (fun hb20 => ?_) (fun hb20 => ?_)
      · skip
        refine xg_aloadn 34 dX12_readLine_33 rfl rfl rfl ?_
        refine xg_iloadn 35 dX12_readLine_34 rfl rfl rfl ?_
        rcases hs3 : gLine t e q with f3 | ⟨ka3, cs3, q3⟩
        · skip
          refine xg_callVe 38 12 [_] _ kv_X12_readLawLine ⟨_, _, rfl⟩ kl_RX12_237 dX12_readLine_35 rfl (by assumption) (by omega) rfl rfl (Nat.le_of_ble_eq_true rfl) (by omega) ⟨Nat.le_refl _, Nat.le_refl _⟩ ((rLine.cg hs3 (ct_X12_readLawLine hw hT ht he h11 (by omega) hqq hW hR hc hn))) rfl (fun v9 h9 e9 => ?_)
          obtain ⟨rfl, p3, d3, c3, w3, hw3, hR3, rfl⟩ := e9
          refine xg_ifeq 45 41 dX12_readLine_38 rfl rfl (by omega) (fun hb38 => ?_) (fun hb38 => ?_)
          · skip
            refine xg_iconst 46 dX12_readLine_45 rfl ?_
            subst hX
            refine xg_zreturn dX12_readLine_46 rfl (by first | exact bI_01 _ | omega) ⟨Nat.le_refl _, Nat.le_refl _⟩ ?_
            rw [hs3]
            exact ⟨rfl, _, _, _, _, hw3, hR3, rfl⟩
          · exfalso; omega
        · skip
          refine xg_callVe 38 12 [_] _ kv_X12_readLawLine ⟨_, _, rfl⟩ kl_RX12_237 dX12_readLine_35 rfl (by assumption) (by omega) rfl rfl (Nat.le_of_ble_eq_true rfl) (by omega) ⟨Nat.le_refl _, Nat.le_refl _⟩ ((rLine.cg hs3 (ct_X12_readLawLine hw hT ht he h11 (by omega) hqq hW hR hc hn))) rfl (fun v9 h9 e9 => ?_)
          obtain ⟨rfl, p3, b3, d3, c3, w3, hz3, hp3, hc3, hW3, hR3, rfl⟩ := e9
          refine xg_ifeq 45 41 dX12_readLine_38 rfl rfl (by omega) (fun hb38 => ?_) (fun hb38 => ?_)
          · exfalso; omega
          · skip
            refine xg_iconst 42 dX12_readLine_41 rfl ?_
            refine xg_goto 46 dX12_readLine_42 rfl ?_
            subst hX
            refine xg_zreturn dX12_readLine_46 rfl (by first | exact bI_01 _ | omega) ⟨Nat.le_refl _, Nat.le_refl _⟩ ?_
            rw [hs3]
            exact ⟨rfl, _, _, _, _, _, hz3, hp3, hc3, hW3, hR3, rfl⟩
      · exfalso; omega
  · exfalso; omega

set_option maxHeartbeats 4000000 in
set_option maxRecDepth 100000 in
theorem ct_X12_readLine_far {E : xE} {z : Nat} {T : Nat → Nat × Int} {F : Nat → Nat → Int} {I : Nat → Int → Int} {P : Nat → Nat → Option Nat} {Y : Nat → Int → Option Nat} {m : Nat} {w : Int → Int} (hw : wM T P m) (hT : ∀ j : Int, -128 ≤ I (m + 6) j ∧ I (m + 6) j ≤ 127) {t : Int → Int} {e : Int} (ht : rTp t (I (m + 6)) e) (he : 0 ≤ e ∧ e ≤ 400) (h11 : F m 11 = e) {p b dp c q : Int} (hp : 0 ≤ p ∧ p ≤ e) (hq : zSk t e p = q) (hR : w32 w) {b0 : Bool} {n : Int} (hn : (if b0 = true then 14 else 12) ≤ n ∧ n < 20) : Ct E 3 mX12_readLine 0 0 [.ref m, J (bI b0), J n] (z, T, fR F m (p) (b) (dp) (c), upA I (m + 1) (w), P, Y) (xd (some (J 0)) (z, T, fR F m (zLt t e q) (q) (dp) (c), upA I (m + 1) (w), P, Y)) := by
  obtain ⟨⟨q0, q1, q2, q3⟩, -⟩ := id hw
  have hqb := zSk_b (t := t) hp.2
  rw [hq] at hqb
  have htb : ∀ j : Int, 0 ≤ j → j < e → 0 ≤ t j ∧ t j ≤ 255 := fun j a b => (ht j a b).1
  have hqq := zSk_at hp he.2 hq
  refine Ct.of [some (.ref m), some (J (bI b0)), some (J n)] kt_X12_readLine rfl (Nat.le_of_ble_eq_true rfl) rfl (fun d hd => ?_)
  generalize hX : xN E _ _ _ = X
  refine xg_aloadn 1 dX12_readLine_0 rfl rfl rfl ?_
  refine xg_callV 4 12 [] _ kv_X12_letters ⟨_, _, rfl⟩ kl_RX12_108 dX12_readLine_1 rfl (by assumption) (by omega) rfl rfl (Nat.le_of_ble_eq_true rfl) (by omega) ⟨Nat.le_refl _, Nat.le_refl _⟩ (cr_letters hw hT ht he h11 hp hq) rfl ?_
  refine xg_iloadn 5 dX12_readLine_4 rfl rfl rfl ?_
  refine xg_iloadn 6 dX12_readLine_5 rfl rfl rfl ?_
  refine xg_beq 14 9 dX12_readLine_6 rfl rfl (fun hb6 => ?_) (fun hb6 => ?_)
  · rw [hb6, if_neg (by decide)] at hn
    refine xg_bipush 16 dX12_readLine_14 rfl (by decide) ?_
    refine xg_icge 45 19 dX12_readLine_16 rfl rfl (by omega) (fun hb16 => ?_) (fun hb16 => ?_)
    · skip
      refine xg_iconst 46 dX12_readLine_45 rfl ?_
      subst hX
      exact xg_zreturn dX12_readLine_46 rfl (by first | exact bI_01 _ | omega) ⟨Nat.le_refl _, Nat.le_refl _⟩ ⟨rfl, rfl⟩
    · exfalso; omega
  · rw [hb6, if_pos rfl] at hn
    refine xg_bipush 11 dX12_readLine_9 rfl (by decide) ?_
    refine xg_goto 16 dX12_readLine_11 rfl ?_
    refine xg_icge 45 19 dX12_readLine_16 rfl rfl (by omega) (fun hb16 => ?_) (fun hb16 => ?_)
    · skip
      refine xg_iconst 46 dX12_readLine_45 rfl ?_
      subst hX
      exact xg_zreturn dX12_readLine_46 rfl (by first | exact bI_01 _ | omega) ⟨Nat.le_refl _, Nat.le_refl _⟩ ⟨rfl, rfl⟩
    · exfalso; omega

