/-! the class reads a law -/
theorem upI_upA (I : Nat → Int → Int) (a b : Nat) (g : Int → Int) (k v : Int) (h : a ≠ b) : upI (upA I b g) a k v = upA (upI I a k v) b g := by
  funext x j; unfold upI upA
  by_cases h1 : x = b
  · subst h1
    rw [if_neg (fun q => h q.1.symm), if_pos rfl, if_pos rfl]
  · rw [if_neg h1, if_neg h1]
theorem fZ_sr (F : Nat → Nat → Int) (s r i : Nat) (fl u x y : Int) : upF (fZ (upF F r 5 x) s r i fl u) r 5 y = if s = r then upF (fZ (upF F r 5 x) s r i fl u) r 5 y else fZ (upF F r 5 y) s r i fl u := by
  split
  · rfl
  · rename_i h
    funext a j; unfold upF fZ
    by_cases h1 : a = r ∧ j = 5
    · rw [if_pos h1, if_neg (by omega), if_neg (by omega), if_neg (by omega)]; exact (if_pos h1).symm
    · rw [if_neg h1]
      by_cases h2 : a = s ∧ j = 4
      · rw [if_pos h2, if_pos h2]
      · rw [if_neg h2, if_neg h2]
        by_cases h3 : a = s ∧ j = 5
        · rw [if_pos h3, if_pos h3]
        · rw [if_neg h3, if_neg h3]
          by_cases h4 : a = r ∧ j = 6
          · rw [if_pos h4, if_pos h4]
          · rw [if_neg h4, if_neg h4]; show (if a = r ∧ j = 5 then x else F a j) = (if a = r ∧ j = 5 then y else F a j); rw [if_neg h1, if_neg h1]
theorem zTok.fr {t : Int → Int} {e : Int} {F F' : Nat → Nat → Int} {I I' : Nat → Int → Int} {s N : Nat} (h : zTok t e F I s N) (hF : F' s 3 = F s 3) (hI : ∀ b : Nat, s + 1 ≤ b → b < s + 4 → I' b = I b) : zTok t e F' I' s N := by
  obtain ⟨h1, h2, h3, h4⟩ := h
  refine ⟨hF.trans h1, h2, fun i hi => ?_, h4⟩
  rw [hI _ (by omega) (by omega), hI _ (by omega) (by omega), hI _ (by omega) (by omega)]
  exact h3 i hi
/-- the lines in the reader's rows -/
def pKs (J2 : Nat → Int → Int) (r : Nat) (ls : List gLn) : Prop := ∀ n : Nat, n < ls.length → J2 (r + 1) (n : Int) = 10 + (ls.getD n (0, 0, 0, 0)).1 ∧ J2 (r + 2) (n : Int) = (ls.getD n (0, 0, 0, 0)).2.1 ∧ J2 (r + 3) (n : Int) = (ls.getD n (0, 0, 0, 0)).2.2.1 ∧ J2 (r + 3) ((n : Int) + 1) = (ls.getD n (0, 0, 0, 0)).2.2.2
def pKc (g : Int → Int) (cs : List (Int × Int)) : Prop := ∀ i : Nat, i < cs.length → g (i : Int) = cEnc (cs.getD i (0, 0)).1 (cs.getD i (0, 0)).2
theorem pKc.nil {g : Int → Int} : pKc g [] := fun i hi => absurd hi (Nat.not_lt_zero i)
theorem pKc.app {g g' : Int → Int} {a b : List (Int × Int)} (h1 : pKc g a) (h2 : pCo g g' (a.length : Int) b) : pKc g' (a ++ b) := by
  intro i hi
  rw [getD_app]
  rw [List.length_append] at hi
  by_cases e : i < a.length
  · rw [if_pos e, h2.1 _ (by omega)]; exact h1 i e
  · rw [if_neg e]
    have h3 := h2.2 (i - a.length) (by omega)
    rw [show (a.length : Int) + ((i - a.length : Nat) : Int) = (i : Int) by omega] at h3
    exact h3
theorem pKs.S {J2 : Nat → Int → Int} {r : Nat} {ls : List gLn} {k a f l : Int} (h : pKs J2 r ls) (hf : ∀ n : Nat, n + 1 = ls.length → (ls.getD n (0, 0, 0, 0)).2.2.2 = f) : pKs (upI (upI (upI (upI J2 (r + 3) (ls.length : Int) f) (r + 1) (ls.length : Int) (10 + k)) (r + 2) (ls.length : Int) a) (r + 3) ((ls.length : Int) + 1) l) r (ls ++ [(k, a, f, l)]) := by
  intro n hn
  rw [List.length_append] at hn
  have hn2 : n < ls.length + 1 := hn
  rw [getD_app4]
  by_cases e : n < ls.length
  · rw [if_pos e]
    obtain ⟨a1, a2, a3, a4⟩ := h n e
    refine ⟨?_, ?_, ?_, ?_⟩
    · rw [upI_na _ _ _ _ (by omega), upI_na _ _ _ _ (by omega), upI_nk _ _ _ _ (by omega), upI_na _ _ _ _ (by omega)]; exact a1
    · rw [upI_na _ _ _ _ (by omega), upI_nk _ _ _ _ (by omega), upI_na _ _ _ _ (by omega), upI_na _ _ _ _ (by omega)]; exact a2
    · rw [upI_nk _ _ _ _ (by omega), upI_na _ _ _ _ (by omega), upI_na _ _ _ _ (by omega), upI_nk _ _ _ _ (by omega)]; exact a3
    · rw [upI_nk _ _ _ _ (by omega), upI_na _ _ _ _ (by omega), upI_na _ _ _ _ (by omega)]
      by_cases e2 : n + 1 = ls.length
      · rw [show (n : Int) + 1 = (ls.length : Int) by omega, upI_at]; exact (hf n e2).symm
      · rw [upI_nk _ _ _ _ (by omega)]; exact a4
  · rw [if_neg e]
    have : n = ls.length := by omega
    subst this
    rw [Nat.sub_self]
    refine ⟨?_, ?_, ?_, ?_⟩
    · rw [upI_na _ _ _ _ (by omega), upI_na _ _ _ _ (by omega), upI_at]; rfl
    · rw [upI_na _ _ _ _ (by omega), upI_at]; rfl
    · rw [upI_nk _ _ _ _ (by omega), upI_na _ _ _ _ (by omega), upI_na _ _ _ _ (by omega), upI_at]; rfl
    · rw [upI_at]; rfl
def lAll (z : Nat) (T : Nat → Nat × Int) (F : Nat → Nat → Int) (I : Nat → Int → Int) (P : Nat → Nat → Option Nat) (Y : Nat → Int → Option Nat) (s r : Nat) : (Int ⊕ (List gLn × List (Int × Int))) → Option Value → xH → Prop
  | .inl f => fun v h' => v = some (J 0) ∧ ∃ (F' : Nat → Nat → Int) (I' : Nat → Int → Int), F' s 5 = f ∧ (∀ b : Nat, b ≠ s → b ≠ r → F' b = F b) ∧ (∀ b : Nat, b < r + 1 ∨ r + 5 ≤ b → I' b = I b) ∧ h' = (z, T, F', I', P, Y)
  | .inr (ls, cs) => fun v h' => v = some (J 1) ∧ ∃ (F' : Nat → Nat → Int) (I' : Nat → Int → Int), (F' s 5 = -1 ∧ F' r 5 = (ls.length : Int) ∧ I' (r + 3) (ls.length : Int) = (cs.length : Int)) ∧ pKs I' r ls ∧ pKc (I' (r + 4)) cs ∧ (∀ b : Nat, b ≠ s → b ≠ r → F' b = F b) ∧ (∀ b : Nat, b < r + 1 ∨ r + 5 ≤ b → I' b = I b) ∧ h' = (z, T, F', I', P, Y)
theorem fZ_id {F : Nat → Nat → Int} {s r : Nat} (hsr : s ≠ r) (h4 : F s 4 = 0) (h5 : F s 5 = -1) : upF (upF F r 5 0) r 6 0 = fZ (upF F r 5 0) s r 0 (-1) 0 := by
  funext a j; unfold upF fZ
  by_cases h1 : a = r ∧ j = 6
  · rw [if_pos h1, if_neg (by omega), if_neg (by omega)]
  · rw [if_neg h1]
    by_cases h2 : a = s ∧ j = 4
    · rw [if_neg (by omega), if_pos h2, h2.1, h2.2, h4]; rfl
    · rw [if_neg h2]
      by_cases h3 : a = s ∧ j = 5
      · rw [if_pos h3, if_neg (by omega), h3.1, h3.2, h5]
      · rw [if_neg h3]

theorem dX4_readAll_0 : decode cX4_readAll 0 = .ok (.aload_n 0, 1) := by decide +kernel
theorem dX4_readAll_1 : decode cX4_readAll 1 = .ok (.iconst 0, 1) := by decide +kernel
theorem dX4_readAll_2 : decode cX4_readAll 2 = .ok (.putfield 28, 3) := by decide +kernel
theorem dX4_readAll_5 : decode cX4_readAll 5 = .ok (.aload_n 0, 1) := by decide +kernel
theorem dX4_readAll_6 : decode cX4_readAll 6 = .ok (.iconst 0, 1) := by decide +kernel
theorem dX4_readAll_7 : decode cX4_readAll 7 = .ok (.putfield 32, 3) := by decide +kernel
theorem dX4_readAll_10 : decode cX4_readAll 10 = .ok (.aload_n 0, 1) := by decide +kernel
theorem dX4_readAll_11 : decode cX4_readAll 11 = .ok (.getfield 22, 3) := by decide +kernel
theorem dX4_readAll_14 : decode cX4_readAll 14 = .ok (.iconst 0, 1) := by decide +kernel
theorem dX4_readAll_15 : decode cX4_readAll 15 = .ok (.iconst 0, 1) := by decide +kernel
theorem dX4_readAll_16 : decode cX4_readAll 16 = .ok (.iastore, 1) := by decide +kernel
theorem dX4_readAll_17 : decode cX4_readAll 17 = .ok (.aload_n 0, 1) := by decide +kernel
theorem dX4_readAll_18 : decode cX4_readAll 18 = .ok (.getfield 9, 3) := by decide +kernel
theorem dX4_readAll_21 : decode cX4_readAll 21 = .ok (.bipush 52, 2) := by decide +kernel
theorem dX4_readAll_23 : decode cX4_readAll 23 = .ok (.invokevirtual 35, 3) := by decide +kernel
theorem dX4_readAll_26 : decode cX4_readAll 26 = .ok (.ifCond .eq 5, 3) := by decide +kernel
theorem dX4_readAll_29 : decode cX4_readAll 29 = .ok (.iconst 1, 1) := by decide +kernel
theorem dX4_readAll_30 : decode cX4_readAll 30 = .ok (.ireturn, 1) := by decide +kernel
theorem dX4_readAll_31 : decode cX4_readAll 31 = .ok (.iconst 0, 1) := by decide +kernel
theorem dX4_readAll_32 : decode cX4_readAll 32 = .ok (.istore_n 1, 1) := by decide +kernel
theorem dX4_readAll_33 : decode cX4_readAll 33 = .ok (.iload_n 1, 1) := by decide +kernel
theorem dX4_readAll_34 : decode cX4_readAll 34 = .ok (.bipush 12, 2) := by decide +kernel
theorem dX4_readAll_36 : decode cX4_readAll 36 = .ok (.if_icmp .ge 153, 3) := by decide +kernel
theorem dX4_readAll_39 : decode cX4_readAll 39 = .ok (.aload_n 0, 1) := by decide +kernel
theorem dX4_readAll_40 : decode cX4_readAll 40 = .ok (.getfield 22, 3) := by decide +kernel
theorem dX4_readAll_43 : decode cX4_readAll 43 = .ok (.iload_n 1, 1) := by decide +kernel
theorem dX4_readAll_44 : decode cX4_readAll 44 = .ok (.aload_n 0, 1) := by decide +kernel
theorem dX4_readAll_45 : decode cX4_readAll 45 = .ok (.getfield 32, 3) := by decide +kernel
theorem dX4_readAll_48 : decode cX4_readAll 48 = .ok (.iastore, 1) := by decide +kernel
theorem dX4_readAll_49 : decode cX4_readAll 49 = .ok (.aload_n 0, 1) := by decide +kernel
theorem dX4_readAll_50 : decode cX4_readAll 50 = .ok (.getfield 15, 3) := by decide +kernel
theorem dX4_readAll_53 : decode cX4_readAll 53 = .ok (.iload_n 1, 1) := by decide +kernel
theorem dX4_readAll_54 : decode cX4_readAll 54 = .ok (.aload_n 0, 1) := by decide +kernel
theorem dX4_readAll_55 : decode cX4_readAll 55 = .ok (.getfield 9, 3) := by decide +kernel
theorem dX4_readAll_58 : decode cX4_readAll 58 = .ok (.bipush 10, 2) := by decide +kernel
theorem dX4_readAll_60 : decode cX4_readAll 60 = .ok (.bipush 12, 2) := by decide +kernel
theorem dX4_readAll_62 : decode cX4_readAll 62 = .ok (.invokevirtual 41, 3) := by decide +kernel
theorem dX4_readAll_65 : decode cX4_readAll 65 = .ok (.iastore, 1) := by decide +kernel
theorem dX4_readAll_66 : decode cX4_readAll 66 = .ok (.aload_n 0, 1) := by decide +kernel
theorem dX4_readAll_67 : decode cX4_readAll 67 = .ok (.getfield 15, 3) := by decide +kernel
theorem dX4_readAll_70 : decode cX4_readAll 70 = .ok (.iload_n 1, 1) := by decide +kernel
theorem dX4_readAll_71 : decode cX4_readAll 71 = .ok (.iaload, 1) := by decide +kernel
theorem dX4_readAll_72 : decode cX4_readAll 72 = .ok (.iconst (-1), 1) := by decide +kernel
theorem dX4_readAll_73 : decode cX4_readAll 73 = .ok (.if_icmp .ne 11, 3) := by decide +kernel
theorem dX4_readAll_76 : decode cX4_readAll 76 = .ok (.aload_n 0, 1) := by decide +kernel
theorem dX4_readAll_77 : decode cX4_readAll 77 = .ok (.getfield 9, 3) := by decide +kernel
theorem dX4_readAll_80 : decode cX4_readAll 80 = .ok (.invokevirtual 45, 3) := by decide +kernel
theorem dX4_readAll_83 : decode cX4_readAll 83 = .ok (.ireturn, 1) := by decide +kernel
theorem dX4_readAll_84 : decode cX4_readAll 84 = .ok (.aload_n 0, 1) := by decide +kernel
theorem dX4_readAll_85 : decode cX4_readAll 85 = .ok (.getfield 19, 3) := by decide +kernel
theorem dX4_readAll_88 : decode cX4_readAll 88 = .ok (.iload_n 1, 1) := by decide +kernel
theorem dX4_readAll_89 : decode cX4_readAll 89 = .ok (.aload_n 0, 1) := by decide +kernel
theorem dX4_readAll_90 : decode cX4_readAll 90 = .ok (.getfield 9, 3) := by decide +kernel
theorem dX4_readAll_93 : decode cX4_readAll 93 = .ok (.iconst 0, 1) := by decide +kernel
theorem dX4_readAll_94 : decode cX4_readAll 94 = .ok (.bipush 40, 2) := by decide +kernel
theorem dX4_readAll_96 : decode cX4_readAll 96 = .ok (.invokevirtual 49, 3) := by decide +kernel
theorem dX4_readAll_99 : decode cX4_readAll 99 = .ok (.iastore, 1) := by decide +kernel
theorem dX4_readAll_100 : decode cX4_readAll 100 = .ok (.aload_n 0, 1) := by decide +kernel
theorem dX4_readAll_101 : decode cX4_readAll 101 = .ok (.getfield 19, 3) := by decide +kernel
theorem dX4_readAll_104 : decode cX4_readAll 104 = .ok (.iload_n 1, 1) := by decide +kernel
theorem dX4_readAll_105 : decode cX4_readAll 105 = .ok (.iaload, 1) := by decide +kernel
theorem dX4_readAll_106 : decode cX4_readAll 106 = .ok (.iconst (-1), 1) := by decide +kernel
theorem dX4_readAll_107 : decode cX4_readAll 107 = .ok (.if_icmp .ne 5, 3) := by decide +kernel
theorem dX4_readAll_110 : decode cX4_readAll 110 = .ok (.iconst 0, 1) := by decide +kernel
theorem dX4_readAll_111 : decode cX4_readAll 111 = .ok (.ireturn, 1) := by decide +kernel
theorem dX4_readAll_112 : decode cX4_readAll 112 = .ok (.aload_n 0, 1) := by decide +kernel
theorem dX4_readAll_113 : decode cX4_readAll 113 = .ok (.getfield 9, 3) := by decide +kernel
theorem dX4_readAll_116 : decode cX4_readAll 116 = .ok (.bipush 17, 2) := by decide +kernel
theorem dX4_readAll_118 : decode cX4_readAll 118 = .ok (.invokevirtual 52, 3) := by decide +kernel
theorem dX4_readAll_121 : decode cX4_readAll 121 = .ok (.ifCond .eq 13, 3) := by decide +kernel
theorem dX4_readAll_124 : decode cX4_readAll 124 = .ok (.aload_n 0, 1) := by decide +kernel
theorem dX4_readAll_125 : decode cX4_readAll 125 = .ok (.iconst 0, 1) := by decide +kernel
theorem dX4_readAll_126 : decode cX4_readAll 126 = .ok (.invokevirtual 55, 3) := by decide +kernel
theorem dX4_readAll_129 : decode cX4_readAll 129 = .ok (.ifCond .ne 5, 3) := by decide +kernel
theorem dX4_readAll_132 : decode cX4_readAll 132 = .ok (.iconst 0, 1) := by decide +kernel
theorem dX4_readAll_133 : decode cX4_readAll 133 = .ok (.ireturn, 1) := by decide +kernel
theorem dX4_readAll_134 : decode cX4_readAll 134 = .ok (.aload_n 0, 1) := by decide +kernel
theorem dX4_readAll_135 : decode cX4_readAll 135 = .ok (.iload_n 1, 1) := by decide +kernel
theorem dX4_readAll_136 : decode cX4_readAll 136 = .ok (.iconst 1, 1) := by decide +kernel
theorem dX4_readAll_137 : decode cX4_readAll 137 = .ok (.iadd, 1) := by decide +kernel
theorem dX4_readAll_138 : decode cX4_readAll 138 = .ok (.putfield 28, 3) := by decide +kernel
theorem dX4_readAll_141 : decode cX4_readAll 141 = .ok (.aload_n 0, 1) := by decide +kernel
theorem dX4_readAll_142 : decode cX4_readAll 142 = .ok (.getfield 22, 3) := by decide +kernel
theorem dX4_readAll_145 : decode cX4_readAll 145 = .ok (.aload_n 0, 1) := by decide +kernel
theorem dX4_readAll_146 : decode cX4_readAll 146 = .ok (.getfield 28, 3) := by decide +kernel
theorem dX4_readAll_149 : decode cX4_readAll 149 = .ok (.aload_n 0, 1) := by decide +kernel
theorem dX4_readAll_150 : decode cX4_readAll 150 = .ok (.getfield 32, 3) := by decide +kernel
theorem dX4_readAll_153 : decode cX4_readAll 153 = .ok (.iastore, 1) := by decide +kernel
theorem dX4_readAll_154 : decode cX4_readAll 154 = .ok (.aload_n 0, 1) := by decide +kernel
theorem dX4_readAll_155 : decode cX4_readAll 155 = .ok (.getfield 9, 3) := by decide +kernel
theorem dX4_readAll_158 : decode cX4_readAll 158 = .ok (.bipush 52, 2) := by decide +kernel
theorem dX4_readAll_160 : decode cX4_readAll 160 = .ok (.invokevirtual 35, 3) := by decide +kernel
theorem dX4_readAll_163 : decode cX4_readAll 163 = .ok (.ifCond .eq 5, 3) := by decide +kernel
theorem dX4_readAll_166 : decode cX4_readAll 166 = .ok (.iconst 1, 1) := by decide +kernel
theorem dX4_readAll_167 : decode cX4_readAll 167 = .ok (.ireturn, 1) := by decide +kernel
theorem dX4_readAll_168 : decode cX4_readAll 168 = .ok (.aload_n 0, 1) := by decide +kernel
theorem dX4_readAll_169 : decode cX4_readAll 169 = .ok (.getfield 9, 3) := by decide +kernel
theorem dX4_readAll_172 : decode cX4_readAll 172 = .ok (.sipush 159, 3) := by decide +kernel
theorem dX4_readAll_175 : decode cX4_readAll 175 = .ok (.invokevirtual 58, 3) := by decide +kernel
theorem dX4_readAll_178 : decode cX4_readAll 178 = .ok (.ifCond .ne 5, 3) := by decide +kernel
theorem dX4_readAll_181 : decode cX4_readAll 181 = .ok (.iconst 0, 1) := by decide +kernel
theorem dX4_readAll_182 : decode cX4_readAll 182 = .ok (.ireturn, 1) := by decide +kernel
theorem dX4_readAll_183 : decode cX4_readAll 183 = .ok (.iinc 1 1, 3) := by decide +kernel
theorem dX4_readAll_186 : decode cX4_readAll 186 = .ok (.goto (-153), 3) := by decide +kernel
theorem dX4_readAll_189 : decode cX4_readAll 189 = .ok (.aload_n 0, 1) := by decide +kernel
theorem dX4_readAll_190 : decode cX4_readAll 190 = .ok (.getfield 9, 3) := by decide +kernel
theorem dX4_readAll_193 : decode cX4_readAll 193 = .ok (.invokevirtual 45, 3) := by decide +kernel
theorem dX4_readAll_196 : decode cX4_readAll 196 = .ok (.ireturn, 1) := by decide +kernel
theorem pKs.fr {J2 J3 : Nat → Int → Int} {r : Nat} {ls : List gLn} (h : pKs J2 r ls) (he : ∀ b : Nat, r + 1 ≤ b → b < r + 4 → J3 b = J2 b) : pKs J3 r ls := by
  intro n hn
  rw [he _ (by omega) (by omega), he _ (by omega) (by omega), he _ (by omega) (by omega)]
  exact h n hn
set_option maxHeartbeats 4000000 in
set_option maxRecDepth 100000 in
theorem ct_X4_readAll {E : xE} {z : Nat} {T : Nat → Nat × Int} {F : Nat → Nat → Int} {I : Nat → Int → Int} {P : Nat → Nat → Option Nat} {Y : Nat → Int → Option Nat} {s r N : Nat} {t : Int → Int} {e : Int} (hs : wScn T P s) (hk0 : zTok t e F I s N) (ht4 : ∀ j : Int, 0 ≤ j → j < 400 → 0 ≤ t j ∧ t j ≤ 255) (he : 0 ≤ e ∧ e ≤ 400) (hsr : s + 4 ≤ r) (hr : wLrd T P r s) (h4 : F s 4 = 0) (h5 : F s 5 = -1) : Ct E 47 mX4_readAll 0 0 [.ref r] (z, T, F, I, P, Y) (lAll z T F I P Y s r (gLaw t e)) := by
  obtain ⟨r0, r1, ⟨ra1, ra2, ra3⟩, ⟨rb1, rb2, rb3⟩, ⟨rc1, rc2, rc3⟩, rd1, rd2, rd3⟩ := id hr
  have s0 := hs.1
  have htb : ∀ j : Int, 0 ≤ j → j < e → 0 ≤ t j ∧ t j ≤ 255 := fun j a b => ht4 j a (by omega)
  have hkF : ∀ (ln : Int) (J2 : Nat → Int → Int), (∀ b : Nat, b < r + 1 ∨ r + 5 ≤ b → J2 b = I b) → zTok t e (upF F r 5 ln) J2 s N := fun ln J2 hJ => hk0.fr (by rw [upF_na _ _ _ _ (by omega)]) (fun b b0 b1 => hJ b (by omega))
  have hqb0 := zB_b (t := t) he.1 0
  refine Ct.of [some (.ref r), none] kt_X4_readAll rfl (Nat.le_of_ble_eq_true rfl) rfl (fun d hd => ?_)
  generalize hX : xN E _ _ _ = X
  refine xg_aloadn 1 dX4_readAll_0 rfl rfl rfl ?_
  refine xg_iconst 2 dX4_readAll_1 rfl ?_
  refine xg_putI 5 kf_RX4_28 dX4_readAll_2 rfl r0 ?_
  refine xg_aloadn 6 dX4_readAll_5 rfl rfl rfl ?_
  refine xg_iconst 7 dX4_readAll_6 rfl ?_
  refine xg_putI 10 kf_RX4_32 dX4_readAll_7 rfl r0 ?_
  skip
  refine xg_aloadn 11 dX4_readAll_10 rfl rfl rfl ?_
  refine xg_getP 14 kf_RX4_22 dX4_readAll_11 rfl r0 rc1 ?_
  refine xg_iconst 15 dX4_readAll_14 rfl ?_
  refine xg_iconst 16 dX4_readAll_15 rfl ?_
  refine xg_iast 17 dX4_readAll_16 rfl rc2 (by rw [rc3]; omega) ?_
  rw [fZ_id (by omega) h4 h5, show upI I (r + 3) 0 0 = upA (upI I (r + 3) 0 0) (r + 4) (I (r + 4)) from by rw [← upI_na I (r + 3) 0 0 (show r + 4 ≠ r + 3 by omega), upA_id]]
  have hJ00 : ∀ b : Nat, b < r + 1 ∨ r + 5 ≤ b → upI I (r + 3) 0 0 b = I b := fun b hb => upI_na _ _ _ _ (by omega)
  refine xg_aloadn 18 dX4_readAll_17 rfl rfl rfl ?_
  refine xg_getP 21 kf_RX4_9 dX4_readAll_18 rfl r0 r1 ?_
  refine xg_bipush 23 dX4_readAll_21 rfl (by decide) ?_
  refine xg_callV 26 7 [_] _ kv_X7_is ⟨_, _, rfl⟩ kl_RX4_35 dX4_readAll_23 rfl (by assumption) (by omega) rfl rfl (Nat.le_of_ble_eq_true rfl) (by omega) ⟨Nat.le_refl _, Nat.le_refl _⟩ (cs_is hs (hkF (0) (upI I (r + 3) 0 0) hJ00) ht4 he hsr (i := 0) (q := zB t e 0) (Nat.zero_le _) rfl (by omega)) rfl ?_
  refine xg_deq 31 29 dX4_readAll_26 rfl rfl (fun hb26 => ?_) (fun hb26 => ?_)
  · skip
    refine xg_iconst 32 dX4_readAll_31 rfl ?_
    refine xg_istoren 33 _ dX4_readAll_32 rfl rfl rfl (by decide) (Or.inr rfl) ?_
    have loop33 : ∀ (mm : Nat) (n i : Nat) (q u1 ln : Int) (cs : List (Int × Int)) (ls : List gLn) (g1 : Int → Int) (J2 : Nat → Int → Int), n ≤ 12 → i ≤ N → zB t e i = q → (u1 = (cs.length : Int) ∧ u1 ≤ q ∧ 0 ≤ q ∧ q ≤ e ∧ ls.length = n) → (∀ b : Nat, b < r + 1 ∨ r + 5 ≤ b → J2 b = I b) → pKs J2 r ls → pKc g1 cs → (∀ n : Nat, n + 1 = ls.length → (ls.getD n (0, 0, 0, 0)).2.2.2 = (cs.length : Int)) → gLaw t e = gLawL t e (12 - n) q cs ls → 20 - (n : Int) < (mm : Int) → xG E mX4_readAll (xR d 0 0) X 33 [some (.ref r), some (J (n : Int))] [] (z, T, fZ (upF F r 5 (ln)) s r (i) (-1) (u1), upA (J2) (r + 4) (g1), P, Y) 0 0 := by
      intro mm
      induction mm with
      | zero => intro n i q u1 ln cs ls g1 J2 hn hi hq hb9 hJ hKs hKc hlast hg hm; exfalso; omega
      | succ mm ih =>
        intro n i q u1 ln cs ls g1 J2 hn hi hq hb9 hJ hKs hKc hlast hg hm
        refine xg_iloadn 34 dX4_readAll_33 rfl rfl rfl ?_
        refine xg_bipush 36 dX4_readAll_34 rfl (by decide) ?_
        refine xg_icge 189 39 dX4_readAll_36 rfl rfl (by omega) (fun hb36 => ?_) (fun hb36 => ?_)
        · skip
          refine xg_aloadn 190 dX4_readAll_189 rfl rfl rfl ?_
          refine xg_getP 193 kf_RX4_9 dX4_readAll_190 rfl r0 r1 ?_
          refine xg_callV 196 7 [] _ kv_X7_fail ⟨_, _, rfl⟩ kl_RX4_45 dX4_readAll_193 rfl (by assumption) (by omega) rfl rfl (Nat.le_of_ble_eq_true rfl) (by omega) ⟨Nat.le_refl _, Nat.le_refl _⟩ (cs_fail hs (hkF (ln) (J2) hJ) ht4 he hsr (i := i) (q := q) hi hq) rfl ?_
          subst hX
          refine xg_zreturn dX4_readAll_196 rfl (by first | exact bI_01 _ | omega) ⟨Nat.le_refl _, Nat.le_refl _⟩ ?_
          rw [hg, show 12 - n = 0 by omega]
          exact ⟨rfl, _, _, fZ_5, fun b hb1 hb2 => by funext j; rw [fZ_o (by omega), upF_na _ _ _ _ hb2], fun b hb => by rw [upA_na _ _ _ (by omega)]; exact hJ b hb, rfl⟩
        · skip
          refine xg_aloadn 40 dX4_readAll_39 rfl rfl rfl ?_
          refine xg_getP 43 kf_RX4_22 dX4_readAll_40 rfl r0 rc1 ?_
          refine xg_iloadn 44 dX4_readAll_43 rfl rfl rfl ?_
          refine xg_aloadn 45 dX4_readAll_44 rfl rfl rfl ?_
          refine xg_getI 48 kf_RX4_32 dX4_readAll_45 rfl r0 ?_
          rw [fZ_6 (by omega)]
          refine xg_iast 49 dX4_readAll_48 rfl rc2 (by rw [rc3]; omega) ?_
          rw [upI_upA _ _ _ _ _ _ (by omega)]
          have hJ1 : ∀ b : Nat, b < r + 1 ∨ r + 5 ≤ b → (upI J2 (r + 3) (n : Int) u1) b = I b := fun b hb => by rw [upI_na _ _ _ _ (by omega)]; exact hJ b hb
          refine xg_aloadn 50 dX4_readAll_49 rfl rfl rfl ?_
          refine xg_getP 53 kf_RX4_15 dX4_readAll_50 rfl r0 ra1 ?_
          refine xg_iloadn 54 dX4_readAll_53 rfl rfl rfl ?_
          refine xg_aloadn 55 dX4_readAll_54 rfl rfl rfl ?_
          refine xg_getP 58 kf_RX4_9 dX4_readAll_55 rfl r0 r1 ?_
          refine xg_bipush 60 dX4_readAll_58 rfl (by decide) ?_
          refine xg_bipush 62 dX4_readAll_60 rfl (by decide) ?_
          by_cases h1 : 10 ≤ zK t e q ∧ zK t e q ≤ 12
          · have hltA := zK_lt (t := t) (e := e) (q := q) (by omega)
            have hxA := zX_b (t := t) hltA
            have hnA := hk0.nx hi (by rw [hq]; exact hltA)
            rw [hq] at hnA
            refine xg_callV 65 7 [_, _] _ kv_X7_takesFrom ⟨_, _, rfl⟩ kl_RX4_41 dX4_readAll_62 rfl (by assumption) (by omega) rfl rfl (Nat.le_of_ble_eq_true rfl) (by omega) ⟨Nat.le_refl _, Nat.le_refl _⟩ (cs_takesFrom hs (hkF (ln) ((upI J2 (r + 3) (n : Int) u1)) hJ1) ht4 he hsr (i := i) (q := q) hi hq (by omega)) rfl ?_
            rw [if_pos h1, if_pos h1]
            rw [show zK t e q = 10 + (zK t e q - 10) by omega]
            refine xg_iast 66 dX4_readAll_65 rfl ra2 (by rw [ra3]; omega) ?_
            rw [upI_upA _ _ _ _ _ _ (by omega)]
            have hJ2 : ∀ b : Nat, b < r + 1 ∨ r + 5 ≤ b → (upI (upI J2 (r + 3) (n : Int) u1) (r + 1) (n : Int) (10 + (zK t e q - 10))) b = I b := fun b hb => by rw [upI_na _ _ _ _ (by omega)]; exact hJ1 b hb
            refine xg_aloadn 67 dX4_readAll_66 rfl rfl rfl ?_
            refine xg_getP 70 kf_RX4_15 dX4_readAll_67 rfl r0 ra1 ?_
            refine xg_iloadn 71 dX4_readAll_70 rfl rfl rfl ?_
            refine xg_iald 72 dX4_readAll_71 rfl ra2 (by rw [ra3]; omega) ?_
            rw [upA_na _ _ _ (by omega), upI_at]
            refine xg_iconst 73 dX4_readAll_72 rfl ?_
            refine xg_icne 84 76 dX4_readAll_73 rfl rfl (by omega) (fun hb73 => ?_) (fun hb73 => ?_)
            · skip
              refine xg_aloadn 85 dX4_readAll_84 rfl rfl rfl ?_
              refine xg_getP 88 kf_RX4_19 dX4_readAll_85 rfl r0 rb1 ?_
              refine xg_iloadn 89 dX4_readAll_88 rfl rfl rfl ?_
              refine xg_aloadn 90 dX4_readAll_89 rfl rfl rfl ?_
              refine xg_getP 93 kf_RX4_9 dX4_readAll_90 rfl r0 r1 ?_
              refine xg_iconst 94 dX4_readAll_93 rfl ?_
              refine xg_bipush 96 dX4_readAll_94 rfl (by decide) ?_
              by_cases h2 : zK t e (zX t e q) = 51 ∧ 0 ≤ zNm t e (zX t e q) ∧ zNm t e (zX t e q) ≤ 40
              · have hltB := zK_lt (t := t) (e := e) (q := zX t e q) (by omega)
                have hxB := zX_b (t := t) hltB
                have hnB := hk0.nx hnA.1 (by rw [hnA.2]; exact hltB)
                rw [hnA.2] at hnB
                refine xg_callV 99 7 [_, _] _ kv_X7_needsNumber ⟨_, _, rfl⟩ kl_RX4_49 dX4_readAll_96 rfl (by assumption) (by omega) rfl rfl (Nat.le_of_ble_eq_true rfl) (by omega) ⟨Nat.le_refl _, Nat.le_refl _⟩ (cs_needsNumber hs (hkF (ln) ((upI (upI J2 (r + 3) (n : Int) u1) (r + 1) (n : Int) (10 + (zK t e q - 10)))) hJ2) ht4 he hsr (i := i + 1) (q := zX t e q) hnA.1 hnA.2 (by omega)) rfl ?_
                rw [if_pos h2, show zNb0 t e (zX t e q) 0 40 = zNm t e (zX t e q) from if_pos h2]
                refine xg_iast 100 dX4_readAll_99 rfl rb2 (by rw [rb3]; omega) ?_
                rw [upI_upA _ _ _ _ _ _ (by omega)]
                have hJ3 : ∀ b : Nat, b < r + 1 ∨ r + 5 ≤ b → (upI (upI (upI J2 (r + 3) (n : Int) u1) (r + 1) (n : Int) (10 + (zK t e q - 10))) (r + 2) (n : Int) (zNm t e (zX t e q))) b = I b := fun b hb => by rw [upI_na _ _ _ _ (by omega)]; exact hJ2 b hb
                refine xg_aloadn 101 dX4_readAll_100 rfl rfl rfl ?_
                refine xg_getP 104 kf_RX4_19 dX4_readAll_101 rfl r0 rb1 ?_
                refine xg_iloadn 105 dX4_readAll_104 rfl rfl rfl ?_
                refine xg_iald 106 dX4_readAll_105 rfl rb2 (by rw [rb3]; omega) ?_
                rw [upA_na _ _ _ (by omega), upI_at]
                refine xg_iconst 107 dX4_readAll_106 rfl ?_
                refine xg_icne 112 110 dX4_readAll_107 rfl rfl (by omega) (fun hb107 => ?_) (fun hb107 => ?_)
                · skip
                  refine xg_aloadn 113 dX4_readAll_112 rfl rfl rfl ?_
                  refine xg_getP 116 kf_RX4_9 dX4_readAll_113 rfl r0 r1 ?_
                  refine xg_bipush 118 dX4_readAll_116 rfl (by decide) ?_
                  refine xg_callV 121 7 [_] _ kv_X7_takes ⟨_, _, rfl⟩ kl_RX4_52 dX4_readAll_118 rfl (by assumption) (by omega) rfl rfl (Nat.le_of_ble_eq_true rfl) (by omega) ⟨Nat.le_refl _, Nat.le_refl _⟩ (cs_takes hs (hkF (ln) ((upI (upI (upI J2 (r + 3) (n : Int) u1) (r + 1) (n : Int) (10 + (zK t e q - 10))) (r + 2) (n : Int) (zNm t e (zX t e q)))) hJ3) ht4 he hsr (i := i + 1 + 1) (q := zX t e (zX t e q)) hnB.1 hnB.2 (by omega)) rfl ?_
                  refine xg_deq 134 124 dX4_readAll_121 rfl rfl (fun hb121 => ?_) (fun hb121 => ?_)
                  · rw [if_neg hb121]
                    have hgl := gLine_3 h1 h2 hb121
                    have hlo := gLine_ok hgl
                    have hk3 := zK_52 (t := t) (e := e) (q := zX t e (zX t e q)) htb (by omega) (by omega)
                    have hcl : u1 = ((cs ++ []).length : Int) := by rw [List.append_nil]; exact hb9.1
                    have hpc := hKc.app pCo.nil
                    refine xg_aloadn 135 dX4_readAll_134 rfl rfl rfl ?_
                    refine xg_iloadn 136 dX4_readAll_135 rfl rfl rfl ?_
                    refine xg_iconst 137 dX4_readAll_136 rfl ?_
                    refine xg_iadd 138 dX4_readAll_137 rfl ?_
                    refine xg_putI 141 kf_RX4_28 dX4_readAll_138 rfl r0 ?_
                    rw [fZ_sr, if_neg (show s ≠ r by omega)]
                    have hJ4 : ∀ (x : Int) (b : Nat), b < r + 1 ∨ r + 5 ≤ b → upI (upI (upI (upI J2 (r + 3) (n : Int) u1) (r + 1) (n : Int) (10 + (zK t e q - 10))) (r + 2) (n : Int) (zNm t e (zX t e q))) (r + 3) ((n : Int) + 1) x b = I b := fun x b hb => by rw [upI_na _ _ _ _ (by omega)]; exact hJ3 b hb
                    refine xg_aloadn 142 dX4_readAll_141 rfl rfl rfl ?_
                    refine xg_getP 145 kf_RX4_22 dX4_readAll_142 rfl r0 rc1 ?_
                    refine xg_aloadn 146 dX4_readAll_145 rfl rfl rfl ?_
                    refine xg_getI 149 kf_RX4_28 dX4_readAll_146 rfl r0 ?_
                    rw [fZ_o (by omega), upF_at]
                    refine xg_aloadn 150 dX4_readAll_149 rfl rfl rfl ?_
                    refine xg_getI 153 kf_RX4_32 dX4_readAll_150 rfl r0 ?_
                    rw [fZ_6 (by omega)]
                    refine xg_iast 154 dX4_readAll_153 rfl rc2 (by rw [rc3]; omega) ?_
                    rw [upI_upA _ _ _ _ _ _ (by omega)]
                    refine xg_aloadn 155 dX4_readAll_154 rfl rfl rfl ?_
                    refine xg_getP 158 kf_RX4_9 dX4_readAll_155 rfl r0 r1 ?_
                    refine xg_bipush 160 dX4_readAll_158 rfl (by decide) ?_
                    refine xg_callV 163 7 [_] _ kv_X7_is ⟨_, _, rfl⟩ kl_RX4_35 dX4_readAll_160 rfl (by assumption) (by omega) rfl rfl (Nat.le_of_ble_eq_true rfl) (by omega) ⟨Nat.le_refl _, Nat.le_refl _⟩ (cs_is hs (hkF ((n : Int) + 1) (upI (upI (upI (upI J2 (r + 3) (n : Int) u1) (r + 1) (n : Int) (10 + (zK t e q - 10))) (r + 2) (n : Int) (zNm t e (zX t e q))) (r + 3) ((n : Int) + 1) (u1)) (hJ4 _)) ht4 he hsr (i := i + 1 + 1) (q := zX t e (zX t e q)) hnB.1 hnB.2 (by omega)) rfl ?_
                    refine xg_deq 168 166 dX4_readAll_163 rfl rfl (fun hb163 => ?_) (fun hb163 => ?_)
                    · skip
                      refine xg_aloadn 169 dX4_readAll_168 rfl rfl rfl ?_
                      refine xg_getP 172 kf_RX4_9 dX4_readAll_169 rfl r0 r1 ?_
                      refine xg_sipush 175 dX4_readAll_172 rfl (by decide) ?_
                      refine xg_callV 178 7 [_] _ kv_X7_needs ⟨_, _, rfl⟩ kl_RX4_58 dX4_readAll_175 rfl (by assumption) (by omega) rfl rfl (Nat.le_of_ble_eq_true rfl) (by omega) ⟨Nat.le_refl _, Nat.le_refl _⟩ (cs_needs hs (hkF ((n : Int) + 1) (upI (upI (upI (upI J2 (r + 3) (n : Int) u1) (r + 1) (n : Int) (10 + (zK t e q - 10))) (r + 2) (n : Int) (zNm t e (zX t e q))) (r + 3) ((n : Int) + 1) (u1)) (hJ4 _)) ht4 he hsr (i := i + 1 + 1) (q := zX t e (zX t e q)) hnB.1 hnB.2 (by omega)) rfl ?_
                      refine xg_dne 183 181 dX4_readAll_178 rfl rfl (fun hb178 => ?_) (fun hb178 => ?_)
                      · rw [if_pos hb178]
                        have hltD := zK_lt (t := t) (e := e) (q := zX t e (zX t e q)) (by omega)
                        have hxD := zX_b (t := t) hltD
                        have hnD := hk0.nx hnB.1 (by rw [hnB.2]; exact hltD)
                        rw [hnB.2] at hnD
                        refine xg_iinc 186 _ dX4_readAll_183 rfl rfl rfl rfl (by decide) (Or.inr rfl) ?_
                        refine xg_goto 33 dX4_readAll_186 rfl ?_
                        have hK4 : pKs (upI (upI (upI (upI J2 (r + 3) (n : Int) u1) (r + 1) (n : Int) (10 + (zK t e q - 10))) (r + 2) (n : Int) (zNm t e (zX t e q))) (r + 3) ((n : Int) + 1) (u1)) r (ls ++ [(zK t e q - 10, zNm t e (zX t e q), (cs.length : Int), ((cs ++ []).length : Int))]) := by
                          have h9 := hKs.S (k := zK t e q - 10) (a := zNm t e (zX t e q)) (f := (cs.length : Int)) (l := (cs.length : Int)) hlast
                          rw [hb9.2.2.2.2] at h9
                          rw [List.append_nil, hb9.1]
                          exact h9
                        exact xg_weak _ (xle_s rfl (xle_s (by rw [show ((n + 1 : Nat) : Int) = (n : Int) + 1 by omega]) xle_0)) (ih (n + 1) (i + 1 + 1 + 1) (zX t e (zX t e (zX t e q))) (u1) ((n : Int) + 1) (cs ++ []) (ls ++ [(zK t e q - 10, zNm t e (zX t e q), (cs.length : Int), ((cs ++ []).length : Int))]) _ (upI (upI (upI (upI J2 (r + 3) (n : Int) u1) (r + 1) (n : Int) (10 + (zK t e q - 10))) (r + 2) (n : Int) (zNm t e (zX t e q))) (r + 3) ((n : Int) + 1) (u1)) (by omega) hnD.1 hnD.2 ⟨hcl, by omega, by omega, by omega, by rw [List.length_append]; show ls.length + 1 = n + 1; omega⟩ (hJ4 _) hK4 hpc (fun n2 h9 => by
                          rw [List.length_append] at h9
                          have h8 : n2 = ls.length := by have h7 : n2 + 1 = ls.length + 1 := h9; omega
                          subst h8
                          rw [getD_app4, if_neg (by omega), Nat.sub_self]; rfl) (by rw [hg, show 12 - n = 12 - (n + 1) + 1 by omega, gLawL_3 hgl (by omega) (by omega)]) (by omega))
                      · rw [if_neg hb178]
                        refine xg_iconst 182 dX4_readAll_181 rfl ?_
                        subst hX
                        refine xg_zreturn dX4_readAll_182 rfl (by first | exact bI_01 _ | omega) ⟨Nat.le_refl _, Nat.le_refl _⟩ ?_
                        rw [hg, show 12 - n = 12 - (n + 1) + 1 by omega, gLawL_4 hgl (by omega) (by omega)]
                        exact ⟨rfl, _, _, fZ_5, fun b hb1 hb2 => by funext j; rw [fZ_o (by omega), upF_na _ _ _ _ hb2], fun b hb => by rw [upA_na _ _ _ (by omega)]; exact (hJ4 _) b hb, rfl⟩
                    · skip
                      refine xg_iconst 167 dX4_readAll_166 rfl ?_
                      subst hX
                      refine xg_zreturn dX4_readAll_167 rfl (by first | exact bI_01 _ | omega) ⟨Nat.le_refl _, Nat.le_refl _⟩ ?_
                      have hK4 : pKs (upI (upI (upI (upI J2 (r + 3) (n : Int) u1) (r + 1) (n : Int) (10 + (zK t e q - 10))) (r + 2) (n : Int) (zNm t e (zX t e q))) (r + 3) ((n : Int) + 1) (u1)) r (ls ++ [(zK t e q - 10, zNm t e (zX t e q), (cs.length : Int), ((cs ++ []).length : Int))]) := by
                        have h9 := hKs.S (k := zK t e q - 10) (a := zNm t e (zX t e q)) (f := (cs.length : Int)) (l := (cs.length : Int)) hlast
                        rw [hb9.2.2.2.2] at h9
                        rw [List.append_nil, hb9.1]
                        exact h9
                      rw [hg, show 12 - n = 12 - (n + 1) + 1 by omega, gLawL_2 hgl (by omega)]
                      refine ⟨rfl, _, _, ⟨fZ_5, by rw [fZ_o (by omega), upF_at, List.length_append]; show (n : Int) + 1 = ((ls.length + 1 : Nat) : Int); omega, ?_⟩, ?_, ?_, fun b hb1 hb2 => ?_, fun b hb => ?_, rfl⟩
                      · have hll : ∀ x : gLn, ((ls ++ [x]).length : Int) = (n : Int) + 1 := fun x => by rw [List.length_append]; show ((ls.length + 1 : Nat) : Int) = _; omega
                        rw [upA_na _ _ _ (by omega), hll, upI_at]; exact hcl
                      · exact pKs.fr hK4 (fun b b1 b2 => upA_na _ _ _ (by omega))
                      · rw [upA_at]; exact hpc
                      · funext j; rw [fZ_o (by omega), upF_na _ _ _ _ hb2]
                      · rw [upA_na _ _ _ (by omega)]; exact hJ4 _ b hb
                  · rw [if_pos hb121]
                    have hltC := zK_lt (t := t) (e := e) (q := zX t e (zX t e q)) (by omega)
                    have hxC := zX_b (t := t) hltC
                    have hnC := hk0.nx hnB.1 (by rw [hnB.2]; exact hltC)
                    rw [hnB.2] at hnC
                    refine xg_aloadn 125 dX4_readAll_124 rfl rfl rfl ?_
                    refine xg_iconst 126 dX4_readAll_125 rfl ?_
                    have hok6 := gCond_ok (t := t) hxC.2
                    rcases hs6 : gCond t e (zX t e (zX t e (zX t e q))) with f6 | ⟨cs6, q6⟩
                    · rw [hs6] at hok6
                      refine xg_callVe 129 4 [_] _ kv_X4_anyOf ⟨_, _, rfl⟩ kl_RX4_55 dX4_readAll_126 rfl (by assumption) (by omega) rfl rfl (Nat.le_of_ble_eq_true rfl) (by omega) ⟨Nat.le_refl _, Nat.le_refl _⟩ (lRes.cg hs6 (ct_X4_cond hs (hkF (ln) ((upI (upI (upI J2 (r + 3) (n : Int) u1) (r + 1) (n : Int) (10 + (zK t e q - 10))) (r + 2) (n : Int) (zNm t e (zX t e q)))) hJ3) ht4 he hsr hr (i := i + 1 + 1 + 1) (q := zX t e (zX t e (zX t e q))) hnC.1 hnC.2 (by omega))) rfl (fun v9 h9 e9 => ?_)
                      obtain ⟨rfl, i6, u6, g6, hi6, rfl⟩ := e9
                      refine xg_ifne 134 132 dX4_readAll_129 rfl rfl (by omega) (fun hb129 => ?_) (fun hb129 => ?_)
                      · exfalso; omega
                      · skip
                        refine xg_iconst 133 dX4_readAll_132 rfl ?_
                        subst hX
                        refine xg_zreturn dX4_readAll_133 rfl (by first | exact bI_01 _ | omega) ⟨Nat.le_refl _, Nat.le_refl _⟩ ?_
                        rw [hg, show 12 - n = 12 - (n + 1) + 1 by omega, gLawL_1 (gLine_4 h1 h2 hb121 hs6)]
                        exact ⟨rfl, _, _, fZ_5, fun b hb1 hb2 => by funext j; rw [fZ_o (by omega), upF_na _ _ _ _ hb2], fun b hb => by rw [upA_na _ _ _ (by omega)]; exact hJ3 b hb, rfl⟩
                    · rw [hs6] at hok6
                      obtain ⟨ho6, hoe6, hol6, hoc6⟩ := hok6
                      refine xg_callVe 129 4 [_] _ kv_X4_anyOf ⟨_, _, rfl⟩ kl_RX4_55 dX4_readAll_126 rfl (by assumption) (by omega) rfl rfl (Nat.le_of_ble_eq_true rfl) (by omega) ⟨Nat.le_refl _, Nat.le_refl _⟩ (lRes.cg hs6 (ct_X4_cond hs (hkF (ln) ((upI (upI (upI J2 (r + 3) (n : Int) u1) (r + 1) (n : Int) (10 + (zK t e q - 10))) (r + 2) (n : Int) (zNm t e (zX t e q)))) hJ3) ht4 he hsr hr (i := i + 1 + 1 + 1) (q := zX t e (zX t e (zX t e q))) hnC.1 hnC.2 (by omega))) rfl (fun v9 h9 e9 => ?_)
                      obtain ⟨rfl, i6, u6, g6, hi6, hq6, hu6, hC6, rfl⟩ := e9
                      refine xg_ifne 134 132 dX4_readAll_129 rfl rfl (by omega) (fun hb129 => ?_) (fun hb129 => ?_)
                      · have hgl := gLine_5 h1 h2 hb121 hs6
                        have hlo := gLine_ok hgl
                        have hk3 := zK_52 (t := t) (e := e) (q := q6) htb (by omega) (by omega)
                        have hcl : u6 = ((cs ++ cs6).length : Int) := by rw [List.length_append]; omega
                        have hpc := hKc.app (by rw [← hb9.1]; exact hC6)
                        refine xg_aloadn 135 dX4_readAll_134 rfl rfl rfl ?_
                        refine xg_iloadn 136 dX4_readAll_135 rfl rfl rfl ?_
                        refine xg_iconst 137 dX4_readAll_136 rfl ?_
                        refine xg_iadd 138 dX4_readAll_137 rfl ?_
                        refine xg_putI 141 kf_RX4_28 dX4_readAll_138 rfl r0 ?_
                        rw [fZ_sr, if_neg (show s ≠ r by omega)]
                        have hJ4 : ∀ (x : Int) (b : Nat), b < r + 1 ∨ r + 5 ≤ b → upI (upI (upI (upI J2 (r + 3) (n : Int) u1) (r + 1) (n : Int) (10 + (zK t e q - 10))) (r + 2) (n : Int) (zNm t e (zX t e q))) (r + 3) ((n : Int) + 1) x b = I b := fun x b hb => by rw [upI_na _ _ _ _ (by omega)]; exact hJ3 b hb
                        refine xg_aloadn 142 dX4_readAll_141 rfl rfl rfl ?_
                        refine xg_getP 145 kf_RX4_22 dX4_readAll_142 rfl r0 rc1 ?_
                        refine xg_aloadn 146 dX4_readAll_145 rfl rfl rfl ?_
                        refine xg_getI 149 kf_RX4_28 dX4_readAll_146 rfl r0 ?_
                        rw [fZ_o (by omega), upF_at]
                        refine xg_aloadn 150 dX4_readAll_149 rfl rfl rfl ?_
                        refine xg_getI 153 kf_RX4_32 dX4_readAll_150 rfl r0 ?_
                        rw [fZ_6 (by omega)]
                        refine xg_iast 154 dX4_readAll_153 rfl rc2 (by rw [rc3]; omega) ?_
                        rw [upI_upA _ _ _ _ _ _ (by omega)]
                        refine xg_aloadn 155 dX4_readAll_154 rfl rfl rfl ?_
                        refine xg_getP 158 kf_RX4_9 dX4_readAll_155 rfl r0 r1 ?_
                        refine xg_bipush 160 dX4_readAll_158 rfl (by decide) ?_
                        refine xg_callV 163 7 [_] _ kv_X7_is ⟨_, _, rfl⟩ kl_RX4_35 dX4_readAll_160 rfl (by assumption) (by omega) rfl rfl (Nat.le_of_ble_eq_true rfl) (by omega) ⟨Nat.le_refl _, Nat.le_refl _⟩ (cs_is hs (hkF ((n : Int) + 1) (upI (upI (upI (upI J2 (r + 3) (n : Int) u1) (r + 1) (n : Int) (10 + (zK t e q - 10))) (r + 2) (n : Int) (zNm t e (zX t e q))) (r + 3) ((n : Int) + 1) (u6)) (hJ4 _)) ht4 he hsr (i := i6) (q := q6) hi6 hq6 (by omega)) rfl ?_
                        refine xg_deq 168 166 dX4_readAll_163 rfl rfl (fun hb163 => ?_) (fun hb163 => ?_)
                        · skip
                          refine xg_aloadn 169 dX4_readAll_168 rfl rfl rfl ?_
                          refine xg_getP 172 kf_RX4_9 dX4_readAll_169 rfl r0 r1 ?_
                          refine xg_sipush 175 dX4_readAll_172 rfl (by decide) ?_
                          refine xg_callV 178 7 [_] _ kv_X7_needs ⟨_, _, rfl⟩ kl_RX4_58 dX4_readAll_175 rfl (by assumption) (by omega) rfl rfl (Nat.le_of_ble_eq_true rfl) (by omega) ⟨Nat.le_refl _, Nat.le_refl _⟩ (cs_needs hs (hkF ((n : Int) + 1) (upI (upI (upI (upI J2 (r + 3) (n : Int) u1) (r + 1) (n : Int) (10 + (zK t e q - 10))) (r + 2) (n : Int) (zNm t e (zX t e q))) (r + 3) ((n : Int) + 1) (u6)) (hJ4 _)) ht4 he hsr (i := i6) (q := q6) hi6 hq6 (by omega)) rfl ?_
                          refine xg_dne 183 181 dX4_readAll_178 rfl rfl (fun hb178 => ?_) (fun hb178 => ?_)
                          · rw [if_pos hb178]
                            have hltD := zK_lt (t := t) (e := e) (q := q6) (by omega)
                            have hxD := zX_b (t := t) hltD
                            have hnD := hk0.nx hi6 (by rw [hq6]; exact hltD)
                            rw [hq6] at hnD
                            refine xg_iinc 186 _ dX4_readAll_183 rfl rfl rfl rfl (by decide) (Or.inr rfl) ?_
                            refine xg_goto 33 dX4_readAll_186 rfl ?_
                            have hK4 : pKs (upI (upI (upI (upI J2 (r + 3) (n : Int) u1) (r + 1) (n : Int) (10 + (zK t e q - 10))) (r + 2) (n : Int) (zNm t e (zX t e q))) (r + 3) ((n : Int) + 1) (u6)) r (ls ++ [(zK t e q - 10, zNm t e (zX t e q), (cs.length : Int), ((cs ++ cs6).length : Int))]) := by
                              have h9 := hKs.S (k := zK t e q - 10) (a := zNm t e (zX t e q)) (f := (cs.length : Int)) (l := ((cs ++ cs6).length : Int)) hlast
                              rw [hb9.2.2.2.2] at h9
                              rw [hcl, hb9.1]
                              exact h9
                            exact xg_weak _ (xle_s rfl (xle_s (by rw [show ((n + 1 : Nat) : Int) = (n : Int) + 1 by omega]) xle_0)) (ih (n + 1) (i6 + 1) (zX t e (q6)) (u6) ((n : Int) + 1) (cs ++ cs6) (ls ++ [(zK t e q - 10, zNm t e (zX t e q), (cs.length : Int), ((cs ++ cs6).length : Int))]) _ (upI (upI (upI (upI J2 (r + 3) (n : Int) u1) (r + 1) (n : Int) (10 + (zK t e q - 10))) (r + 2) (n : Int) (zNm t e (zX t e q))) (r + 3) ((n : Int) + 1) (u6)) (by omega) hnD.1 hnD.2 ⟨hcl, by omega, by omega, by omega, by rw [List.length_append]; show ls.length + 1 = n + 1; omega⟩ (hJ4 _) hK4 hpc (fun n2 h9 => by
                              rw [List.length_append] at h9
                              have h8 : n2 = ls.length := by have h7 : n2 + 1 = ls.length + 1 := h9; omega
                              subst h8
                              rw [getD_app4, if_neg (by omega), Nat.sub_self]; rfl) (by rw [hg, show 12 - n = 12 - (n + 1) + 1 by omega, gLawL_3 hgl (by omega) (by omega)]) (by omega))
                          · rw [if_neg hb178]
                            refine xg_iconst 182 dX4_readAll_181 rfl ?_
                            subst hX
                            refine xg_zreturn dX4_readAll_182 rfl (by first | exact bI_01 _ | omega) ⟨Nat.le_refl _, Nat.le_refl _⟩ ?_
                            rw [hg, show 12 - n = 12 - (n + 1) + 1 by omega, gLawL_4 hgl (by omega) (by omega)]
                            exact ⟨rfl, _, _, fZ_5, fun b hb1 hb2 => by funext j; rw [fZ_o (by omega), upF_na _ _ _ _ hb2], fun b hb => by rw [upA_na _ _ _ (by omega)]; exact (hJ4 _) b hb, rfl⟩
                        · skip
                          refine xg_iconst 167 dX4_readAll_166 rfl ?_
                          subst hX
                          refine xg_zreturn dX4_readAll_167 rfl (by first | exact bI_01 _ | omega) ⟨Nat.le_refl _, Nat.le_refl _⟩ ?_
                          have hK4 : pKs (upI (upI (upI (upI J2 (r + 3) (n : Int) u1) (r + 1) (n : Int) (10 + (zK t e q - 10))) (r + 2) (n : Int) (zNm t e (zX t e q))) (r + 3) ((n : Int) + 1) (u6)) r (ls ++ [(zK t e q - 10, zNm t e (zX t e q), (cs.length : Int), ((cs ++ cs6).length : Int))]) := by
                            have h9 := hKs.S (k := zK t e q - 10) (a := zNm t e (zX t e q)) (f := (cs.length : Int)) (l := ((cs ++ cs6).length : Int)) hlast
                            rw [hb9.2.2.2.2] at h9
                            rw [hcl, hb9.1]
                            exact h9
                          rw [hg, show 12 - n = 12 - (n + 1) + 1 by omega, gLawL_2 hgl (by omega)]
                          refine ⟨rfl, _, _, ⟨fZ_5, by rw [fZ_o (by omega), upF_at, List.length_append]; show (n : Int) + 1 = ((ls.length + 1 : Nat) : Int); omega, ?_⟩, ?_, ?_, fun b hb1 hb2 => ?_, fun b hb => ?_, rfl⟩
                          · have hll : ∀ x : gLn, ((ls ++ [x]).length : Int) = (n : Int) + 1 := fun x => by rw [List.length_append]; show ((ls.length + 1 : Nat) : Int) = _; omega
                            rw [upA_na _ _ _ (by omega), hll, upI_at]; exact hcl
                          · exact pKs.fr hK4 (fun b b1 b2 => upA_na _ _ _ (by omega))
                          · rw [upA_at]; exact hpc
                          · funext j; rw [fZ_o (by omega), upF_na _ _ _ _ hb2]
                          · rw [upA_na _ _ _ (by omega)]; exact hJ4 _ b hb
                      · exfalso; omega
                · exfalso; omega
              · skip
                refine xg_callV 99 7 [_, _] _ kv_X7_needsNumber ⟨_, _, rfl⟩ kl_RX4_49 dX4_readAll_96 rfl (by assumption) (by omega) rfl rfl (Nat.le_of_ble_eq_true rfl) (by omega) ⟨Nat.le_refl _, Nat.le_refl _⟩ (cs_needsNumber hs (hkF (ln) ((upI (upI J2 (r + 3) (n : Int) u1) (r + 1) (n : Int) (10 + (zK t e q - 10)))) hJ2) ht4 he hsr (i := i + 1) (q := zX t e q) hnA.1 hnA.2 (by omega)) rfl ?_
                rw [if_neg h2, show zNb0 t e (zX t e q) 0 40 = -1 from if_neg h2]
                refine xg_iast 100 dX4_readAll_99 rfl rb2 (by rw [rb3]; omega) ?_
                rw [upI_upA _ _ _ _ _ _ (by omega)]
                have hJf3 : ∀ b : Nat, b < r + 1 ∨ r + 5 ≤ b → upI (upI (upI J2 (r + 3) (n : Int) u1) (r + 1) (n : Int) (10 + (zK t e q - 10))) (r + 2) (n : Int) (-1) b = I b := fun b hb => by rw [upI_na _ _ _ _ (by omega)]; exact hJ2 b hb
                refine xg_aloadn 101 dX4_readAll_100 rfl rfl rfl ?_
                refine xg_getP 104 kf_RX4_19 dX4_readAll_101 rfl r0 rb1 ?_
                refine xg_iloadn 105 dX4_readAll_104 rfl rfl rfl ?_
                refine xg_iald 106 dX4_readAll_105 rfl rb2 (by rw [rb3]; omega) ?_
                rw [upA_na _ _ _ (by omega), upI_at]
                refine xg_iconst 107 dX4_readAll_106 rfl ?_
                refine xg_icne 112 110 dX4_readAll_107 rfl rfl (by omega) (fun hb107 => ?_) (fun hb107 => ?_)
                · exfalso; omega
                · skip
                  refine xg_iconst 111 dX4_readAll_110 rfl ?_
                  subst hX
                  refine xg_zreturn dX4_readAll_111 rfl (by first | exact bI_01 _ | omega) ⟨Nat.le_refl _, Nat.le_refl _⟩ ?_
                  rw [hg, show 12 - n = 12 - (n + 1) + 1 by omega, gLawL_1 (gLine_2 h1 h2)]
                  exact ⟨rfl, _, _, fZ_5, fun b hb1 hb2 => by funext j; rw [fZ_o (by omega), upF_na _ _ _ _ hb2], fun b hb => by rw [upA_na _ _ _ (by omega)]; exact hJf3 b hb, rfl⟩
            · exfalso; omega
          · skip
            refine xg_callV 65 7 [_, _] _ kv_X7_takesFrom ⟨_, _, rfl⟩ kl_RX4_41 dX4_readAll_62 rfl (by assumption) (by omega) rfl rfl (Nat.le_of_ble_eq_true rfl) (by omega) ⟨Nat.le_refl _, Nat.le_refl _⟩ (cs_takesFrom hs (hkF (ln) ((upI J2 (r + 3) (n : Int) u1)) hJ1) ht4 he hsr (i := i) (q := q) hi hq (by omega)) rfl ?_
            rw [if_neg h1, if_neg h1]
            skip
            refine xg_iast 66 dX4_readAll_65 rfl ra2 (by rw [ra3]; omega) ?_
            rw [upI_upA _ _ _ _ _ _ (by omega)]
            have hJf : ∀ b : Nat, b < r + 1 ∨ r + 5 ≤ b → upI (upI J2 (r + 3) (n : Int) u1) (r + 1) (n : Int) (-1) b = I b := fun b hb => by rw [upI_na _ _ _ _ (by omega)]; exact hJ1 b hb
            refine xg_aloadn 67 dX4_readAll_66 rfl rfl rfl ?_
            refine xg_getP 70 kf_RX4_15 dX4_readAll_67 rfl r0 ra1 ?_
            refine xg_iloadn 71 dX4_readAll_70 rfl rfl rfl ?_
            refine xg_iald 72 dX4_readAll_71 rfl ra2 (by rw [ra3]; omega) ?_
            rw [upA_na _ _ _ (by omega), upI_at]
            refine xg_iconst 73 dX4_readAll_72 rfl ?_
            refine xg_icne 84 76 dX4_readAll_73 rfl rfl (by omega) (fun hb73 => ?_) (fun hb73 => ?_)
            · exfalso; omega
            · skip
              refine xg_aloadn 77 dX4_readAll_76 rfl rfl rfl ?_
              refine xg_getP 80 kf_RX4_9 dX4_readAll_77 rfl r0 r1 ?_
              refine xg_callV 83 7 [] _ kv_X7_fail ⟨_, _, rfl⟩ kl_RX4_45 dX4_readAll_80 rfl (by assumption) (by omega) rfl rfl (Nat.le_of_ble_eq_true rfl) (by omega) ⟨Nat.le_refl _, Nat.le_refl _⟩ (cs_fail hs (hkF (ln) ((upI (upI J2 (r + 3) (n : Int) u1) (r + 1) (n : Int) (-1))) hJf) ht4 he hsr (i := i) (q := q) hi hq) rfl ?_
              subst hX
              refine xg_zreturn dX4_readAll_83 rfl (by first | exact bI_01 _ | omega) ⟨Nat.le_refl _, Nat.le_refl _⟩ ?_
              rw [hg, show 12 - n = 12 - (n + 1) + 1 by omega, gLawL_1 (gLine_1 h1)]
              exact ⟨rfl, _, _, fZ_5, fun b hb1 hb2 => by funext j; rw [fZ_o (by omega), upF_na _ _ _ _ hb2], fun b hb => by rw [upA_na _ _ _ (by omega)]; exact hJf b hb, rfl⟩
    exact xg_weak _ (xle_s rfl (xle_s rfl xle_0)) (loop33 50 0 0 (zB t e 0) 0 0 [] [] _ _ (by omega) (Nat.zero_le _) rfl ⟨rfl, by omega, by omega, by omega, rfl⟩ hJ00 (fun n hn => absurd hn (Nat.not_lt_zero n)) pKc.nil (fun n hn => by cases hn) (by unfold gLaw; rw [show zSk t e 0 = zB t e 0 from rfl, if_neg hb26]) (by omega))
  · skip
    refine xg_iconst 30 dX4_readAll_29 rfl ?_
    subst hX
    refine xg_zreturn dX4_readAll_30 rfl (by first | exact bI_01 _ | omega) ⟨Nat.le_refl _, Nat.le_refl _⟩ ?_
    rw [show gLaw t e = .inr ([], []) by unfold gLaw; rw [show zSk t e 0 = zB t e 0 from rfl, if_pos hb26]]
    exact ⟨rfl, _, _, ⟨fZ_5, by rw [fZ_o (by omega), upF_at]; rfl, by rw [upA_na _ _ _ (by omega)]; exact upI_at _ _ _ _⟩, fun n hn => absurd hn (Nat.not_lt_zero n), pKc.nil, fun b hb1 hb2 => by funext j; rw [fZ_o (by omega), upF_na _ _ _ _ hb2], fun b hb => by rw [upA_na _ _ _ (by omega)]; exact hJ00 b hb, rfl⟩

