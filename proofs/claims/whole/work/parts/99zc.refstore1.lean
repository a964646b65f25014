/-! the reference reads a store's text -/
def rSz (m z : Nat) (T : Nat → Nat × Int) (F : Nat → Nat → Int) (I : Nat → Int → Int) (P : Nat → Nat → Option Nat) (Y : Nat → Int → Option Nat) (t : Int → Int) (e d c : Int) : gSz → Option Value → xH → Prop
  | .inl f => fun v h' => v = some (J 0) ∧ ∃ (p : Int) (w1 : Int → Int) (I1 : Nat → Int → Int), w32 w1 ∧ xScr m I I1 ∧ h' = (z, T, fR F m p f d c, upA I1 (m + 1) w1, P, Y)
  | .inr (w', q) => fun v h' => v = some (J 1) ∧ ∃ (p b : Int) (I1 : Nat → Int → Int), zSk t e p = q ∧ (0 ≤ p ∧ p ≤ e) ∧ xScr m I I1 ∧ h' = (z, T, fR F m p b d c, upA I1 (m + 1) w', P, Y)
theorem rSz.cg {E : xE} {m z kk : Nat} {T : Nat → Nat × Int} {F : Nat → Nat → Int} {I : Nat → Int → Int} {P : Nat → Nat → Option Nat} {Y : Nat → Int → Option Nat} {t : Int → Int} {e d c : Int} {M : xM} {As : List Value} {hh : xH} {x y : gSz} (h : x = y) (ct : Ct E kk M 0 0 As hh (rSz m z T F I P Y t e d c x)) : Ct E kk M 0 0 As hh (rSz m z T F I P Y t e d c y) := h ▸ ct
theorem w32_E2 {w : Int → Int} (h : w32 w) (a n : Int) : w32 (wE w a n) := by
  intro i; unfold wE; split
  · omega
  · exact h i
theorem w32_row0 {w : Int → Int} (h : wOk w) {lv : Int} (hl : 0 ≤ lv ∧ lv ≤ 3) : w32 (sRow0 w lv) := w32_E2 (w32_S (w32_S (wOk_halt h).1 _ _ (by omega)) _ _ (by omega)) _ _
theorem w32_put {w : Int → Int} {r : Int} {ps : List (Int × Int)} (h : w32 w) (hp : psOk ps) : ∀ n : Nat, w32 (sPut (kOf ps) (vOf ps) w r n)
  | 0 => h
  | n + 1 => by have h1 := hp.at n; exact w32_S (w32_S (w32_put h hp n) _ _ (by omega)) _ _ (by omega)
section GRN
variable {t : Int → Int} {e q f : Int} {w : Int → Int}
theorem gRun_1 (h : w 0 = 12) : gRun t e q w = .inl q := if_pos h
theorem gRun_2 (h : w 0 ≠ 12) (h1 : zK t e (zX t e q) ≠ 0) : gRun t e q w = .inl (zX t e q) := by unfold gRun; rw [if_neg h, if_neg h1]
theorem gRun_3 (h : w 0 ≠ 12) (h1 : zK t e (zX t e q) = 0) (h2 : ¬ (zK t e (zX t e (zX t e q)) = 51 ∧ sOld0 w ≤ zNm t e (zX t e (zX t e q)) ∧ zNm t e (zX t e (zX t e q)) ≤ 3)) : gRun t e q w = .inl (zX t e (zX t e q)) := by unfold gRun; rw [if_neg h, if_pos h1, if_neg h2]
theorem gRun_4 (h : w 0 ≠ 12) (h1 : zK t e (zX t e q) = 0) (h2 : zK t e (zX t e (zX t e q)) = 51 ∧ sOld0 w ≤ zNm t e (zX t e (zX t e q)) ∧ zNm t e (zX t e (zX t e q)) ≤ 3) (h3 : zK t e (zX t e (zX t e (zX t e q))) ≠ 14) : gRun t e q w = .inl (zX t e (zX t e (zX t e q))) := by unfold gRun; rw [if_neg h, if_pos h1, if_pos h2, if_neg h3]
theorem gRun_5 (h : w 0 ≠ 12) (h1 : zK t e (zX t e q) = 0) (h2 : zK t e (zX t e (zX t e q)) = 51 ∧ sOld0 w ≤ zNm t e (zX t e (zX t e q)) ∧ zNm t e (zX t e (zX t e q)) ≤ 3) (h3 : zK t e (zX t e (zX t e (zX t e q))) = 14) (h4 : gPr t e true 20 (zX t e (zX t e (zX t e (zX t e q)))) 0 [] = .inl f) : gRun t e q w = .inl f := by unfold gRun; rw [if_neg h, if_pos h1, if_pos h2, if_pos h3, h4]
theorem gRun_6 {ps : List (Int × Int)} {q' : Int} (h : w 0 ≠ 12) (h1 : zK t e (zX t e q) = 0) (h2 : zK t e (zX t e (zX t e q)) = 51 ∧ sOld0 w ≤ zNm t e (zX t e (zX t e q)) ∧ zNm t e (zX t e (zX t e q)) ≤ 3) (h3 : zK t e (zX t e (zX t e (zX t e q))) = 14) (h4 : gPr t e true 20 (zX t e (zX t e (zX t e (zX t e q)))) 0 [] = .inr (ps, q')) : gRun t e q w = .inr (sAdd w (zNm t e (zX t e (zX t e q))) (kOf ps) (vOf ps) ps.length, q') := by unfold gRun; rw [if_neg h, if_pos h1, if_pos h2, if_pos h3, h4]
theorem gTab_1 (h4 : gPr t e false 12 q 0 [] = .inl f) : gTab t e q w = .inl f := by unfold gTab; rw [h4]
theorem gTab_2 {ps : List (Int × Int)} {q' : Int} (h4 : gPr t e false 12 q 0 [] = .inr (ps, q')) : gTab t e q w = .inr (sWrs w ps, q') := by unfold gTab; rw [h4]
end GRN

theorem dX12_behind_0 : decode cX12_behind 0 = .ok (.aload_n 0, 1) := by decide +kernel
theorem dX12_behind_1 : decode cX12_behind 1 = .ok (.invokevirtual 108, 3) := by decide +kernel
theorem dX12_behind_4 : decode cX12_behind 4 = .ok (.aload_n 0, 1) := by decide +kernel
theorem dX12_behind_5 : decode cX12_behind 5 = .ok (.aload_n 1, 1) := by decide +kernel
theorem dX12_behind_6 : decode cX12_behind 6 = .ok (.invokevirtual 111, 3) := by decide +kernel
theorem dX12_behind_9 : decode cX12_behind 9 = .ok (.ifCond .eq 12, 3) := by decide +kernel
theorem dX12_behind_12 : decode cX12_behind 12 = .ok (.aload_n 0, 1) := by decide +kernel
theorem dX12_behind_13 : decode cX12_behind 13 = .ok (.iload_n 2, 1) := by decide +kernel
theorem dX12_behind_14 : decode cX12_behind 14 = .ok (.iload_n 3, 1) := by decide +kernel
theorem dX12_behind_15 : decode cX12_behind 15 = .ok (.invokevirtual 115, 3) := by decide +kernel
theorem dX12_behind_18 : decode cX12_behind 18 = .ok (.goto 4, 3) := by decide +kernel
theorem dX12_behind_21 : decode cX12_behind 21 = .ok (.iconst (-1), 1) := by decide +kernel
theorem dX12_behind_22 : decode cX12_behind 22 = .ok (.ireturn, 1) := by decide +kernel
theorem dX12_readRun_0 : decode cX12_readRun 0 = .ok (.aload_n 0, 1) := by decide +kernel
theorem dX12_readRun_1 : decode cX12_readRun 1 = .ok (.invokevirtual 66, 3) := by decide +kernel
theorem dX12_readRun_4 : decode cX12_readRun 4 = .ok (.istore_n 1, 1) := by decide +kernel
theorem dX12_readRun_5 : decode cX12_readRun 5 = .ok (.iload_n 1, 1) := by decide +kernel
theorem dX12_readRun_6 : decode cX12_readRun 6 = .ok (.bipush 12, 2) := by decide +kernel
theorem dX12_readRun_8 : decode cX12_readRun 8 = .ok (.if_icmp .ne 5, 3) := by decide +kernel
theorem dX12_readRun_11 : decode cX12_readRun 11 = .ok (.iconst 0, 1) := by decide +kernel
theorem dX12_readRun_12 : decode cX12_readRun 12 = .ok (.ireturn, 1) := by decide +kernel
theorem dX12_readRun_13 : decode cX12_readRun 13 = .ok (.aload_n 0, 1) := by decide +kernel
theorem dX12_readRun_14 : decode cX12_readRun 14 = .ok (.ldc 118, 2) := by decide +kernel
theorem dX12_readRun_16 : decode cX12_readRun 16 = .ok (.iload_n 1, 1) := by decide +kernel
theorem dX12_readRun_17 : decode cX12_readRun 17 = .ok (.ifCond .ne 7, 3) := by decide +kernel
theorem dX12_readRun_20 : decode cX12_readRun 20 = .ok (.iconst 0, 1) := by decide +kernel
theorem dX12_readRun_21 : decode cX12_readRun 21 = .ok (.goto 10, 3) := by decide +kernel
theorem dX12_readRun_24 : decode cX12_readRun 24 = .ok (.aload_n 0, 1) := by decide +kernel
theorem dX12_readRun_25 : decode cX12_readRun 25 = .ok (.iload_n 1, 1) := by decide +kernel
theorem dX12_readRun_26 : decode cX12_readRun 26 = .ok (.iconst 1, 1) := by decide +kernel
theorem dX12_readRun_27 : decode cX12_readRun 27 = .ok (.isub, 1) := by decide +kernel
theorem dX12_readRun_28 : decode cX12_readRun 28 = .ok (.invokevirtual 120, 3) := by decide +kernel
theorem dX12_readRun_31 : decode cX12_readRun 31 = .ok (.iconst 3, 1) := by decide +kernel
theorem dX12_readRun_32 : decode cX12_readRun 32 = .ok (.invokevirtual 124, 3) := by decide +kernel
theorem dX12_readRun_35 : decode cX12_readRun 35 = .ok (.istore_n 2, 1) := by decide +kernel
theorem dX12_readRun_36 : decode cX12_readRun 36 = .ok (.iload_n 2, 1) := by decide +kernel
theorem dX12_readRun_37 : decode cX12_readRun 37 = .ok (.ifCond .ge 5, 3) := by decide +kernel
theorem dX12_readRun_40 : decode cX12_readRun 40 = .ok (.iconst 0, 1) := by decide +kernel
theorem dX12_readRun_41 : decode cX12_readRun 41 = .ok (.ireturn, 1) := by decide +kernel
theorem dX12_readRun_42 : decode cX12_readRun 42 = .ok (.aload_n 0, 1) := by decide +kernel
theorem dX12_readRun_43 : decode cX12_readRun 43 = .ok (.invokevirtual 108, 3) := by decide +kernel
theorem dX12_readRun_46 : decode cX12_readRun 46 = .ok (.aload_n 0, 1) := by decide +kernel
theorem dX12_readRun_47 : decode cX12_readRun 47 = .ok (.ldc 128, 2) := by decide +kernel
theorem dX12_readRun_49 : decode cX12_readRun 49 = .ok (.invokevirtual 111, 3) := by decide +kernel
theorem dX12_readRun_52 : decode cX12_readRun 52 = .ok (.ifCond .ne 5, 3) := by decide +kernel
theorem dX12_readRun_55 : decode cX12_readRun 55 = .ok (.iconst 0, 1) := by decide +kernel
theorem dX12_readRun_56 : decode cX12_readRun 56 = .ok (.ireturn, 1) := by decide +kernel
theorem dX12_readRun_57 : decode cX12_readRun 57 = .ok (.aload_n 0, 1) := by decide +kernel
theorem dX12_readRun_58 : decode cX12_readRun 58 = .ok (.invokevirtual 130, 3) := by decide +kernel
theorem dX12_readRun_61 : decode cX12_readRun 61 = .ok (.pop, 1) := by decide +kernel
theorem dX12_readRun_62 : decode cX12_readRun 62 = .ok (.aload_n 0, 1) := by decide +kernel
theorem dX12_readRun_63 : decode cX12_readRun 63 = .ok (.getfield 13, 3) := by decide +kernel
theorem dX12_readRun_66 : decode cX12_readRun 66 = .ok (.iload_n 1, 1) := by decide +kernel
theorem dX12_readRun_67 : decode cX12_readRun 67 = .ok (.iconst 0, 1) := by decide +kernel
theorem dX12_readRun_68 : decode cX12_readRun 68 = .ok (.invokestatic 62, 3) := by decide +kernel
theorem dX12_readRun_71 : decode cX12_readRun 71 = .ok (.iload_n 2, 1) := by decide +kernel
theorem dX12_readRun_72 : decode cX12_readRun 72 = .ok (.iastore, 1) := by decide +kernel
theorem dX12_readRun_73 : decode cX12_readRun 73 = .ok (.aload_n 0, 1) := by decide +kernel
theorem dX12_readRun_74 : decode cX12_readRun 74 = .ok (.getfield 13, 3) := by decide +kernel
theorem dX12_readRun_77 : decode cX12_readRun 77 = .ok (.iload_n 1, 1) := by decide +kernel
theorem dX12_readRun_78 : decode cX12_readRun 78 = .ok (.iconst 1, 1) := by decide +kernel
theorem dX12_readRun_79 : decode cX12_readRun 79 = .ok (.invokestatic 62, 3) := by decide +kernel
theorem dX12_readRun_82 : decode cX12_readRun 82 = .ok (.iconst 0, 1) := by decide +kernel
theorem dX12_readRun_83 : decode cX12_readRun 83 = .ok (.iastore, 1) := by decide +kernel
theorem dX12_readRun_84 : decode cX12_readRun 84 = .ok (.aload_n 0, 1) := by decide +kernel
theorem dX12_readRun_85 : decode cX12_readRun 85 = .ok (.iload_n 1, 1) := by decide +kernel
theorem dX12_readRun_86 : decode cX12_readRun 86 = .ok (.invokestatic 133, 3) := by decide +kernel
theorem dX12_readRun_89 : decode cX12_readRun 89 = .ok (.invokevirtual 51, 3) := by decide +kernel
theorem dX12_readRun_92 : decode cX12_readRun 92 = .ok (.iconst (-1), 1) := by decide +kernel
theorem dX12_readRun_93 : decode cX12_readRun 93 = .ok (.istore_n 3, 1) := by decide +kernel
theorem dX12_readRun_94 : decode cX12_readRun 94 = .ok (.iconst 0, 1) := by decide +kernel
theorem dX12_readRun_95 : decode cX12_readRun 95 = .ok (.istore 4, 2) := by decide +kernel
theorem dX12_readRun_97 : decode cX12_readRun 97 = .ok (.iload 4, 2) := by decide +kernel
theorem dX12_readRun_99 : decode cX12_readRun 99 = .ok (.bipush 20, 2) := by decide +kernel
theorem dX12_readRun_101 : decode cX12_readRun 101 = .ok (.if_icmp .ne 7, 3) := by decide +kernel
theorem dX12_readRun_104 : decode cX12_readRun 104 = .ok (.iconst (-1), 1) := by decide +kernel
theorem dX12_readRun_105 : decode cX12_readRun 105 = .ok (.goto 12, 3) := by decide +kernel
theorem dX12_readRun_108 : decode cX12_readRun 108 = .ok (.aload_n 0, 1) := by decide +kernel
theorem dX12_readRun_109 : decode cX12_readRun 109 = .ok (.iload_n 3, 1) := by decide +kernel
theorem dX12_readRun_110 : decode cX12_readRun 110 = .ok (.iconst 1, 1) := by decide +kernel
theorem dX12_readRun_111 : decode cX12_readRun 111 = .ok (.iadd, 1) := by decide +kernel
theorem dX12_readRun_112 : decode cX12_readRun 112 = .ok (.bipush 59, 2) := by decide +kernel
theorem dX12_readRun_114 : decode cX12_readRun 114 = .ok (.invokevirtual 115, 3) := by decide +kernel
theorem dX12_readRun_117 : decode cX12_readRun 117 = .ok (.istore_n 3, 1) := by decide +kernel
theorem dX12_readRun_118 : decode cX12_readRun 118 = .ok (.iload_n 3, 1) := by decide +kernel
theorem dX12_readRun_119 : decode cX12_readRun 119 = .ok (.ifCond .ge 7, 3) := by decide +kernel
theorem dX12_readRun_122 : decode cX12_readRun 122 = .ok (.iconst (-1), 1) := by decide +kernel
theorem dX12_readRun_123 : decode cX12_readRun 123 = .ok (.goto 10, 3) := by decide +kernel
theorem dX12_readRun_126 : decode cX12_readRun 126 = .ok (.aload_n 0, 1) := by decide +kernel
theorem dX12_readRun_127 : decode cX12_readRun 127 = .ok (.iconst 0, 1) := by decide +kernel
theorem dX12_readRun_128 : decode cX12_readRun 128 = .ok (.bipush 100, 2) := by decide +kernel
theorem dX12_readRun_130 : decode cX12_readRun 130 = .ok (.invokevirtual 115, 3) := by decide +kernel
theorem dX12_readRun_133 : decode cX12_readRun 133 = .ok (.istore 5, 2) := by decide +kernel
theorem dX12_readRun_135 : decode cX12_readRun 135 = .ok (.iload 5, 2) := by decide +kernel
theorem dX12_readRun_137 : decode cX12_readRun 137 = .ok (.ifCond .ge 5, 3) := by decide +kernel
theorem dX12_readRun_140 : decode cX12_readRun 140 = .ok (.iconst 0, 1) := by decide +kernel
theorem dX12_readRun_141 : decode cX12_readRun 141 = .ok (.ireturn, 1) := by decide +kernel
theorem dX12_readRun_142 : decode cX12_readRun 142 = .ok (.aload_n 0, 1) := by decide +kernel
theorem dX12_readRun_143 : decode cX12_readRun 143 = .ok (.getfield 13, 3) := by decide +kernel
theorem dX12_readRun_146 : decode cX12_readRun 146 = .ok (.iload_n 1, 1) := by decide +kernel
theorem dX12_readRun_147 : decode cX12_readRun 147 = .ok (.invokestatic 133, 3) := by decide +kernel
theorem dX12_readRun_150 : decode cX12_readRun 150 = .ok (.iload_n 3, 1) := by decide +kernel
theorem dX12_readRun_151 : decode cX12_readRun 151 = .ok (.iadd, 1) := by decide +kernel
theorem dX12_readRun_152 : decode cX12_readRun 152 = .ok (.iload 5, 2) := by decide +kernel
theorem dX12_readRun_154 : decode cX12_readRun 154 = .ok (.iastore, 1) := by decide +kernel
theorem dX12_readRun_155 : decode cX12_readRun 155 = .ok (.aload_n 0, 1) := by decide +kernel
theorem dX12_readRun_156 : decode cX12_readRun 156 = .ok (.getfield 13, 3) := by decide +kernel
theorem dX12_readRun_159 : decode cX12_readRun 159 = .ok (.iload_n 1, 1) := by decide +kernel
theorem dX12_readRun_160 : decode cX12_readRun 160 = .ok (.invokestatic 133, 3) := by decide +kernel
theorem dX12_readRun_163 : decode cX12_readRun 163 = .ok (.bipush 60, 2) := by decide +kernel
theorem dX12_readRun_165 : decode cX12_readRun 165 = .ok (.iadd, 1) := by decide +kernel
theorem dX12_readRun_166 : decode cX12_readRun 166 = .ok (.iload_n 3, 1) := by decide +kernel
theorem dX12_readRun_167 : decode cX12_readRun 167 = .ok (.iadd, 1) := by decide +kernel
theorem dX12_readRun_168 : decode cX12_readRun 168 = .ok (.iconst 0, 1) := by decide +kernel
theorem dX12_readRun_169 : decode cX12_readRun 169 = .ok (.iastore, 1) := by decide +kernel
theorem dX12_readRun_170 : decode cX12_readRun 170 = .ok (.iinc 4 1, 3) := by decide +kernel
theorem dX12_readRun_173 : decode cX12_readRun 173 = .ok (.aload_n 0, 1) := by decide +kernel
theorem dX12_readRun_174 : decode cX12_readRun 174 = .ok (.invokevirtual 136, 3) := by decide +kernel
theorem dX12_readRun_177 : decode cX12_readRun 177 = .ok (.ifCond .ne (-80), 3) := by decide +kernel
theorem dX12_readRun_180 : decode cX12_readRun 180 = .ok (.aload_n 0, 1) := by decide +kernel
theorem dX12_readRun_181 : decode cX12_readRun 181 = .ok (.getfield 13, 3) := by decide +kernel
theorem dX12_readRun_184 : decode cX12_readRun 184 = .ok (.iconst 0, 1) := by decide +kernel
theorem dX12_readRun_185 : decode cX12_readRun 185 = .ok (.dup2, 1) := by decide +kernel
theorem dX12_readRun_186 : decode cX12_readRun 186 = .ok (.iaload, 1) := by decide +kernel
theorem dX12_readRun_187 : decode cX12_readRun 187 = .ok (.iconst 1, 1) := by decide +kernel
theorem dX12_readRun_188 : decode cX12_readRun 188 = .ok (.iadd, 1) := by decide +kernel
theorem dX12_readRun_189 : decode cX12_readRun 189 = .ok (.iastore, 1) := by decide +kernel
theorem dX12_readRun_190 : decode cX12_readRun 190 = .ok (.iconst 1, 1) := by decide +kernel
theorem dX12_readRun_191 : decode cX12_readRun 191 = .ok (.ireturn, 1) := by decide +kernel
theorem dX12_readTable_0 : decode cX12_readTable 0 = .ok (.iconst 0, 1) := by decide +kernel
theorem dX12_readTable_1 : decode cX12_readTable 1 = .ok (.istore_n 1, 1) := by decide +kernel
theorem dX12_readTable_2 : decode cX12_readTable 2 = .ok (.iload_n 1, 1) := by decide +kernel
theorem dX12_readTable_3 : decode cX12_readTable 3 = .ok (.bipush 12, 2) := by decide +kernel
theorem dX12_readTable_5 : decode cX12_readTable 5 = .ok (.if_icmp .ne 7, 3) := by decide +kernel
theorem dX12_readTable_8 : decode cX12_readTable 8 = .ok (.iconst (-1), 1) := by decide +kernel
theorem dX12_readTable_9 : decode cX12_readTable 9 = .ok (.goto 10, 3) := by decide +kernel
theorem dX12_readTable_12 : decode cX12_readTable 12 = .ok (.aload_n 0, 1) := by decide +kernel
theorem dX12_readTable_13 : decode cX12_readTable 13 = .ok (.iconst 0, 1) := by decide +kernel
theorem dX12_readTable_14 : decode cX12_readTable 14 = .ok (.bipush 59, 2) := by decide +kernel
theorem dX12_readTable_16 : decode cX12_readTable 16 = .ok (.invokevirtual 115, 3) := by decide +kernel
theorem dX12_readTable_19 : decode cX12_readTable 19 = .ok (.istore_n 2, 1) := by decide +kernel
theorem dX12_readTable_20 : decode cX12_readTable 20 = .ok (.iload_n 2, 1) := by decide +kernel
theorem dX12_readTable_21 : decode cX12_readTable 21 = .ok (.ifCond .ge 7, 3) := by decide +kernel
theorem dX12_readTable_24 : decode cX12_readTable 24 = .ok (.iconst (-1), 1) := by decide +kernel
theorem dX12_readTable_25 : decode cX12_readTable 25 = .ok (.goto 10, 3) := by decide +kernel
theorem dX12_readTable_28 : decode cX12_readTable 28 = .ok (.aload_n 0, 1) := by decide +kernel
theorem dX12_readTable_29 : decode cX12_readTable 29 = .ok (.iconst 0, 1) := by decide +kernel
theorem dX12_readTable_30 : decode cX12_readTable 30 = .ok (.bipush 100, 2) := by decide +kernel
theorem dX12_readTable_32 : decode cX12_readTable 32 = .ok (.invokevirtual 115, 3) := by decide +kernel
theorem dX12_readTable_35 : decode cX12_readTable 35 = .ok (.istore_n 3, 1) := by decide +kernel
theorem dX12_readTable_36 : decode cX12_readTable 36 = .ok (.iload_n 3, 1) := by decide +kernel
theorem dX12_readTable_37 : decode cX12_readTable 37 = .ok (.ifCond .ge 5, 3) := by decide +kernel
theorem dX12_readTable_40 : decode cX12_readTable 40 = .ok (.iconst 0, 1) := by decide +kernel
theorem dX12_readTable_41 : decode cX12_readTable 41 = .ok (.ireturn, 1) := by decide +kernel
theorem dX12_readTable_42 : decode cX12_readTable 42 = .ok (.aload_n 0, 1) := by decide +kernel
theorem dX12_readTable_43 : decode cX12_readTable 43 = .ok (.iload_n 2, 1) := by decide +kernel
theorem dX12_readTable_44 : decode cX12_readTable 44 = .ok (.iload_n 3, 1) := by decide +kernel
theorem dX12_readTable_45 : decode cX12_readTable 45 = .ok (.invokevirtual 140, 3) := by decide +kernel
theorem dX12_readTable_48 : decode cX12_readTable 48 = .ok (.pop, 1) := by decide +kernel
theorem dX12_readTable_49 : decode cX12_readTable 49 = .ok (.iinc 1 1, 3) := by decide +kernel
theorem dX12_readTable_52 : decode cX12_readTable 52 = .ok (.aload_n 0, 1) := by decide +kernel
theorem dX12_readTable_53 : decode cX12_readTable 53 = .ok (.invokevirtual 136, 3) := by decide +kernel
theorem dX12_readTable_56 : decode cX12_readTable 56 = .ok (.ifCond .ne (-54), 3) := by decide +kernel
theorem dX12_readTable_59 : decode cX12_readTable 59 = .ok (.iconst 1, 1) := by decide +kernel
theorem dX12_readTable_60 : decode cX12_readTable 60 = .ok (.ireturn, 1) := by decide +kernel
set_option maxHeartbeats 4000000 in
set_option maxRecDepth 100000 in
theorem ct_X12_behind {E : xE} {z : Nat} {T : Nat → Nat × Int} {F : Nat → Nat → Int} {I : Nat → Int → Int} {P : Nat → Nat → Option Nat} {Y : Nat → Int → Option Nat} {m : Nat} {w : Int → Int} (hw : wM T P m) (hT : ∀ j : Int, -128 ≤ I (m + 6) j ∧ I (m + 6) j ≤ 127) {t : Int → Int} {e : Int} (ht : rTp t (I (m + 6)) e) (he : 0 ≤ e ∧ e ≤ 400) (h11 : F m 11 = e) {p b dp c q : Int} (hp : 0 ≤ p ∧ p ≤ e) (hq : zSk t e p = q) {ad adv : Nat → Nat} {sio : Option Nat} (hW : ∀ u : State, E.2.2.2.2 u → oWs E.2.2.2.1 ad adv sio u) {i : Nat} (hi : i < 21) {lo hi9 : Int} (hlh : 0 ≤ lo ∧ lo ≤ 1000 ∧ -1000 ≤ hi9 ∧ hi9 ≤ 1000) : Ct E 5 mX12_behind 0 0 [.ref m, .ref (ad i), J lo, J hi9] (z, T, fR F m (p) (b) (dp) (c), upA I (m + 1) (w), P, Y) (xd (some (J (if zK t e q = (i : Int) then zNb0 t e (zX t e q) lo hi9 else -1))) (z, T, fR F m (if zK t e q = (i : Int) then zDg t e (zX t e q) else zLt t e q) (if zK t e q = (i : Int) then zX t e q else q) (dp) (c), upA I (m + 1) (w), P, Y)) := by
  obtain ⟨⟨q0, q1, q2, q3⟩, -⟩ := id hw
  have hqb := zSk_b (t := t) hp.2
  rw [hq] at hqb
  have htb : ∀ j : Int, 0 ≤ j → j < e → 0 ≤ t j ∧ t j ≤ 255 := fun j a b => (ht j a b).1
  have hlb := zLt_b (t := t) hqb.2
  refine Ct.of [some (.ref m), some (.ref (ad i)), some (J lo), some (J hi9)] kt_X12_behind rfl (Nat.le_of_ble_eq_true rfl) rfl (fun d hd => ?_)
  generalize hX : xN E _ _ _ = X
  refine xg_aloadn 1 dX12_behind_0 rfl rfl rfl ?_
  refine xg_callV 4 12 [] _ kv_X12_letters ⟨_, _, rfl⟩ kl_RX12_108 dX12_behind_1 rfl (by assumption) (by omega) rfl rfl (Nat.le_of_ble_eq_true rfl) (by omega) ⟨Nat.le_refl _, Nat.le_refl _⟩ (cr_letters hw hT ht he h11 hp hq) rfl ?_
  refine xg_aloadn 5 dX12_behind_4 rfl rfl rfl ?_
  refine xg_aloadn 6 dX12_behind_5 rfl rfl rfl ?_
  refine xg_callV 9 12 [_] _ kv_X12_isWord ⟨_, _, rfl⟩ kl_RX12_111 dX12_behind_6 rfl (by assumption) (by omega) rfl rfl (Nat.le_of_ble_eq_true rfl) (by omega) ⟨Nat.le_refl _, Nat.le_refl _⟩ (cr_isWord hw hT ht he h11 ⟨by omega, by omega⟩ hW hi) rfl ?_
  refine xg_deq 21 12 dX12_behind_9 rfl rfl (fun hb9 => ?_) (fun hb9 => ?_)
  · skip
    refine xg_iconst 22 dX12_behind_21 rfl ?_
    subst hX
    exact xg_ireturn dX12_behind_22 rfl ⟨Nat.le_refl _, Nat.le_refl _⟩ ⟨by rw [if_neg hb9], by rw [if_neg hb9, if_neg hb9]⟩
  · have hw1 := zK_word hi (by omega) htb hb9
    have hz1 : zSk t e (zLt t e q) = zX t e q := by rw [hw1.2]; rfl
    refine xg_aloadn 13 dX12_behind_12 rfl rfl rfl ?_
    refine xg_iloadn 14 dX12_behind_13 rfl rfl rfl ?_
    refine xg_iloadn 15 dX12_behind_14 rfl rfl rfl ?_
    refine xg_callV 18 12 [_, _] _ kv_X12_number ⟨_, _, rfl⟩ kl_RX12_115 dX12_behind_15 rfl (by assumption) (by omega) rfl rfl (Nat.le_of_ble_eq_true rfl) (by omega) ⟨Nat.le_refl _, Nat.le_refl _⟩ (cr_number hw hT ht he h11 (p := zLt t e q) (q := zX t e q) (by omega) hz1 hlh) rfl ?_
    refine xg_goto 22 dX12_behind_18 rfl ?_
    subst hX
    exact xg_ireturn dX12_behind_22 rfl ⟨Nat.le_refl _, Nat.le_refl _⟩ ⟨by rw [if_pos hb9], by rw [if_pos hb9, if_pos hb9]⟩

set_option maxHeartbeats 4000000 in
set_option maxRecDepth 100000 in
theorem ct_X12_readRun {E : xE} {z : Nat} {T : Nat → Nat × Int} {F : Nat → Nat → Int} {I : Nat → Int → Int} {P : Nat → Nat → Option Nat} {Y : Nat → Int → Option Nat} {m : Nat} {w : Int → Int} (hw : wM T P m) (hT : ∀ j : Int, -128 ≤ I (m + 6) j ∧ I (m + 6) j ≤ 127) {t : Int → Int} {e : Int} (ht : rTp t (I (m + 6)) e) (he : 0 ≤ e ∧ e ≤ 400) (h11 : F m 11 = e) {ad adv : Nat → Nat} {sio : Option Nat} (hW : ∀ u : State, E.2.2.2.2 u → oWs E.2.2.2.1 ad adv sio u) (hI : wI2 w) {p dp c q : Int} (hp : 0 ≤ p ∧ p ≤ e) (hz : zSk t e p = zX t e q) (hqb : 0 ≤ q ∧ q ≤ e) (hk13 : zK t e q = 13) : Ct E 6 mX12_readRun 0 0 [.ref m] (z, T, fR F m (p) (q) (dp) (c), upA I (m + 1) (w), P, Y) (rSz m z T F I P Y t e dp c (gRun t e q w)) := by
  obtain ⟨⟨q0, q1, q2, q3⟩, -⟩ := id hw
  have htb : ∀ j : Int, 0 ≤ j → j < e → 0 ≤ t j ∧ t j ≤ 255 := fun j a b => (ht j a b).1
  have hO := hI.1.1.1
  have o0 := hO.2.1
  have hold := sOld0_b hI
  have hqx := zX_b (t := t) (zK_lt (t := t) (e := e) (q := q) (by omega))
  refine Ct.of [some (.ref m), none, none, none, none, none] kt_X12_readRun rfl (Nat.le_of_ble_eq_true rfl) rfl (fun d hd => ?_)
  generalize hX : xN E _ _ _ = X
  refine xg_aloadn 1 dX12_readRun_0 rfl rfl rfl ?_
  refine xg_callV 4 12 [] _ kv_X12_runs ⟨_, _, rfl⟩ kl_RX12_66 dX12_readRun_1 rfl (by assumption) (by omega) rfl rfl (Nat.le_of_ble_eq_true rfl) (by omega) ⟨Nat.le_refl _, Nat.le_refl _⟩ (ct_X12_runs hw) rfl ?_
  refine xg_istoren 5 _ dX12_readRun_4 rfl rfl rfl (by decide) (Or.inr rfl) ?_
  refine xg_iloadn 6 dX12_readRun_5 rfl rfl rfl ?_
  refine xg_bipush 8 dX12_readRun_6 rfl (by decide) ?_
  refine xg_icne 13 11 dX12_readRun_8 rfl rfl (by omega) (fun hb8 => ?_) (fun hb8 => ?_)
  · skip
    refine xg_aloadn 14 dX12_readRun_13 rfl rfl rfl ?_
    refine xg_ldcS 16 rfl (fun u hu => oWs_118 (hW u hu)) dX12_readRun_14 rfl ?_
    refine xg_iloadn 17 dX12_readRun_16 rfl rfl rfl ?_
    refine xg_join1 31 (fun x => x = sOld0 w) ?_ ?_
    · intro x hx
      have hx9 : x = sOld0 w := hx
      subst hx9
      refine xg_iconst 32 dX12_readRun_31 rfl ?_
      by_cases h1 : zK t e (zX t e q) = ((0 : Nat) : Int)
      · have hx2 := zX_b (t := t) (zK_lt (t := t) (e := e) (q := zX t e q) (by omega))
        have hnb := zNb0_b (t := t) (e := e) (q := zX t e (zX t e q)) (lo := sOld0 w) (hi := 3) (by omega)
        refine xg_callV 35 12 [_, _, _] _ kv_X12_behind ⟨_, _, rfl⟩ kl_RX12_124 dX12_readRun_32 rfl (by assumption) (by omega) rfl rfl (Nat.le_of_ble_eq_true rfl) (by omega) ⟨Nat.le_refl _, Nat.le_refl _⟩ (ct_X12_behind hw hT ht he h11 (p := p) (q := zX t e q) hp hz hW (i := 0) (by omega) (lo := sOld0 w) (hi9 := 3) (by omega)) rfl ?_
        rw [if_pos h1, if_pos h1, if_pos h1]
        refine xg_istoren 36 _ dX12_readRun_35 rfl rfl rfl (by decide) (Or.inr rfl) ?_
        refine xg_iloadn 37 dX12_readRun_36 rfl rfl rfl ?_
        refine xg_ifge 42 40 dX12_readRun_37 rfl rfl (by omega) (fun hb37 => ?_) (fun hb37 => ?_)
        · have h2 : zK t e (zX t e (zX t e q)) = 51 ∧ sOld0 w ≤ zNm t e (zX t e (zX t e q)) ∧ zNm t e (zX t e (zX t e q)) ≤ 3 := by omega
          have hd3 := zDg_51 htb (by omega) h2.1
          have hx3 := zX_b (t := t) hd3.1
          have hz3 : zSk t e (zDg t e (zX t e (zX t e q))) = zX t e (zX t e (zX t e q)) := by rw [hd3.2]; rfl
          have hL3 := zLen_b (t := t) hd3.1
          rw [show zNb0 t e (zX t e (zX t e q)) (sOld0 w) 3 = (zNm t e (zX t e (zX t e q))) by omega]
          refine xg_aloadn 43 dX12_readRun_42 rfl rfl rfl ?_
          refine xg_callV 46 12 [] _ kv_X12_letters ⟨_, _, rfl⟩ kl_RX12_108 dX12_readRun_43 rfl (by assumption) (by omega) rfl rfl (Nat.le_of_ble_eq_true rfl) (by omega) ⟨Nat.le_refl _, Nat.le_refl _⟩ (cr_letters hw hT ht he h11 (p := zDg t e (zX t e (zX t e q))) (q := zX t e (zX t e (zX t e q))) (by omega) hz3) rfl ?_
          refine xg_aloadn 47 dX12_readRun_46 rfl rfl rfl ?_
          refine xg_ldcS 49 rfl (fun u hu => oWs_128 (hW u hu)) dX12_readRun_47 rfl ?_
          refine xg_callV 52 12 [_] _ kv_X12_isWord ⟨_, _, rfl⟩ kl_RX12_111 dX12_readRun_49 rfl (by assumption) (by omega) rfl rfl (Nat.le_of_ble_eq_true rfl) (by omega) ⟨Nat.le_refl _, Nat.le_refl _⟩ (cr_isWord hw hT ht he h11 (q := zX t e (zX t e (zX t e q))) (by omega) hW (i := 14) (by omega)) rfl ?_
          refine xg_dne 57 55 dX12_readRun_52 rfl rfl (fun hb52 => ?_) (fun hb52 => ?_)
          · have hw4 := zK_word (i := 14) (by omega) (by omega) htb (by omega : zK t e (zX t e (zX t e (zX t e q))) = ((14 : Nat) : Int))
            have hx4 := zX_b (t := t) hw4.1
            have hz4 : zSk t e (zLt t e (zX t e (zX t e (zX t e q)))) = zX t e (zX t e (zX t e (zX t e q))) := by rw [hw4.2]; rfl
            have hL4 := zLt_b (t := t) (e := e) (q := zX t e (zX t e (zX t e q))) (by omega)
            refine xg_aloadn 58 dX12_readRun_57 rfl rfl rfl ?_
            refine xg_callV 61 12 [] _ kv_X12_isHalted ⟨_, _, rfl⟩ kl_RX12_130 dX12_readRun_58 rfl (by assumption) (by omega) rfl rfl (Nat.le_of_ble_eq_true rfl) (by omega) ⟨Nat.le_refl _, Nat.le_refl _⟩ (ct_X12_isHalted hw hO) rfl ?_
            refine xg_pop 62 dX12_readRun_61 rfl rfl ?_
            refine xg_aloadn 63 dX12_readRun_62 rfl rfl rfl ?_
            refine xg_getP 66 kf_RX12_13 dX12_readRun_63 rfl (by assumption) (by assumption) ?_
            refine xg_iloadn 67 dX12_readRun_66 rfl rfl rfl ?_
            refine xg_iconst 68 dX12_readRun_67 rfl ?_
            refine xg_callS 71 [_, _] _ ks_X12_runAt kl_RX12_62 dX12_readRun_68 rfl rfl rfl (Nat.le_of_ble_eq_true rfl) (by omega) ⟨Nat.le_refl _, Nat.le_refl _⟩ (ct_X12_runAt) rfl ?_
            refine xg_iloadn 72 dX12_readRun_71 rfl rfl rfl ?_
            rw [Int.add_zero]
            refine xg_iastW 73 dX12_readRun_72 rfl q2 (by rw [q3]; omega) ?_
            refine xg_aloadn 74 dX12_readRun_73 rfl rfl rfl ?_
            refine xg_getP 77 kf_RX12_13 dX12_readRun_74 rfl (by assumption) (by assumption) ?_
            refine xg_iloadn 78 dX12_readRun_77 rfl rfl rfl ?_
            refine xg_iconst 79 dX12_readRun_78 rfl ?_
            refine xg_callS 82 [_, _] _ ks_X12_runAt kl_RX12_62 dX12_readRun_79 rfl rfl rfl (Nat.le_of_ble_eq_true rfl) (by omega) ⟨Nat.le_refl _, Nat.le_refl _⟩ (ct_X12_runAt) rfl ?_
            refine xg_iconst 83 dX12_readRun_82 rfl ?_
            rw [show 199 + 122 * w 0 + 1 = 200 + 122 * w 0 by omega]
            refine xg_iastW 84 dX12_readRun_83 rfl q2 (by rw [q3]; omega) ?_
            refine xg_aloadn 85 dX12_readRun_84 rfl rfl rfl ?_
            refine xg_iloadn 86 dX12_readRun_85 rfl rfl rfl ?_
            refine xg_callS 89 [_] _ ks_X12_rowOf kl_RX12_133 dX12_readRun_86 rfl rfl rfl (Nat.le_of_ble_eq_true rfl) (by omega) ⟨Nat.le_refl _, Nat.le_refl _⟩ (ct_X12_rowOf) rfl ?_
            refine xg_callV 92 12 [_] _ kv_X12_empties ⟨_, _, rfl⟩ kl_RX12_51 dX12_readRun_89 rfl (by assumption) (by omega) rfl rfl (Nat.le_of_ble_eq_true rfl) (by omega) ⟨Nat.le_refl _, Nat.le_refl _⟩ (ct_X12_empties hw (by omega)) rfl ?_
            rw [show wE (wS (wS (sHalt w) (199 + 122 * w 0) (zNm t e (zX t e (zX t e q)))) (200 + 122 * w 0) 0) (201 + 122 * w 0) 60 = (sRow0 w (zNm t e (zX t e (zX t e q)))) from rfl]
            refine xg_iconst 93 dX12_readRun_92 rfl ?_
            refine xg_istoren 94 _ dX12_readRun_93 rfl rfl rfl (by decide) (Or.inr rfl) ?_
            refine xg_iconst 95 dX12_readRun_94 rfl ?_
            refine xg_istore 97 _ dX12_readRun_95 rfl rfl (by decide) (Or.inr rfl) ?_
            have loop97 : ∀ (mm : Nat) (ps : List (Int × Int)) (q1 p1 b1 key : Int), ps.length ≤ 20 → psOk ps → (-1 ≤ key ∧ key ≤ 59 ∧ 0 ≤ q1 ∧ q1 ≤ e) → (0 ≤ p1 ∧ p1 ≤ e) → zSk t e p1 = q1 → (0 < ps.length → b1 = q1) → gPr t e true 20 (zX t e (zX t e (zX t e (zX t e q)))) 0 [] = gPr t e true (20 - ps.length) q1 (key + 1) ps → 30 - (ps.length : Int) < (mm : Int) → xG E mX12_readRun (xR d 0 0) X 97 [some (.ref m), some (J (w 0)), some (J (zNm t e (zX t e (zX t e q)))), some (J key), some (J (ps.length : Int)), none] [] (z, T, fR F m (p1) (b1) (dp) (c), upA I (m + 1) (sPut (kOf (ps)) (vOf (ps)) (sRow0 w (zNm t e (zX t e (zX t e q)))) (w 0) (ps.length)), P, Y) 0 0 := by
              intro mm
              induction mm with
              | zero => intro ps q1 p1 b1 key hn hps hkey hp1 hz1 hb1 hg hm; exfalso; omega
              | succ mm ih =>
                intro ps q1 p1 b1 key hn hps hkey hp1 hz1 hb1 hg hm
                refine xg_iload 99 dX12_readRun_97 rfl rfl ?_
                refine xg_bipush 101 dX12_readRun_99 rfl (by decide) ?_
                refine xg_icne 108 104 dX12_readRun_101 rfl rfl (by omega) (fun hb101 => ?_) (fun hb101 => ?_)
                · skip
                  refine xg_aloadn 109 dX12_readRun_108 rfl rfl rfl ?_
                  refine xg_iloadn 110 dX12_readRun_109 rfl rfl rfl ?_
                  refine xg_iconst 111 dX12_readRun_110 rfl ?_
                  refine xg_iadd 112 dX12_readRun_111 rfl ?_
                  refine xg_bipush 114 dX12_readRun_112 rfl (by decide) ?_
                  refine xg_callV 117 12 [_, _] _ kv_X12_number ⟨_, _, rfl⟩ kl_RX12_115 dX12_readRun_114 rfl (by assumption) (by omega) rfl rfl (Nat.le_of_ble_eq_true rfl) (by omega) ⟨Nat.le_refl _, Nat.le_refl _⟩ (cr_number hw hT ht he h11 (p := p1) (q := q1) hp1 hz1 (lo := key + 1) (hi := 59) (by omega)) rfl ?_
                  have hnk := zNb0_b (t := t) (e := e) (q := q1) (lo := key + 1) (hi := 59) (by omega)
                  refine xg_istoren 118 _ dX12_readRun_117 rfl rfl rfl (by decide) (Or.inr rfl) ?_
                  refine xg_iloadn 119 dX12_readRun_118 rfl rfl rfl ?_
                  refine xg_ifge 126 122 dX12_readRun_119 rfl rfl (by omega) (fun hb119 => ?_) (fun hb119 => ?_)
                  · have h5 : zK t e q1 = 51 ∧ key + 1 ≤ zNm t e q1 ∧ zNm t e q1 ≤ 59 := by omega
                    have hd5 := zDg_51 htb (by omega) h5.1
                    have hx5 := zX_b (t := t) hd5.1
                    have hz5 : zSk t e (zDg t e q1) = zX t e q1 := by rw [hd5.2]; rfl
                    have hL5 := zLen_b (t := t) hd5.1
                    rw [show zNb0 t e q1 (key + 1) 59 = zNm t e q1 by omega]
                    refine xg_aloadn 127 dX12_readRun_126 rfl rfl rfl ?_
                    refine xg_iconst 128 dX12_readRun_127 rfl ?_
                    refine xg_bipush 130 dX12_readRun_128 rfl (by decide) ?_
                    refine xg_callV 133 12 [_, _] _ kv_X12_number ⟨_, _, rfl⟩ kl_RX12_115 dX12_readRun_130 rfl (by assumption) (by omega) rfl rfl (Nat.le_of_ble_eq_true rfl) (by omega) ⟨Nat.le_refl _, Nat.le_refl _⟩ (cr_number hw hT ht he h11 (p := zDg t e q1) (q := zX t e q1) (by omega) hz5 (lo := 0) (hi := 100) (by omega)) rfl ?_
                    have hnv := zNb0_b (t := t) (e := e) (q := zX t e q1) (lo := 0) (hi := 100) (by omega)
                    refine xg_istore 135 _ dX12_readRun_133 rfl rfl (by decide) (Or.inr rfl) ?_
                    refine xg_iload 137 dX12_readRun_135 rfl rfl ?_
                    refine xg_ifge 142 140 dX12_readRun_137 rfl rfl (by omega) (fun hb137 => ?_) (fun hb137 => ?_)
                    · have h6 : zK t e (zX t e q1) = 51 ∧ 0 ≤ zNm t e (zX t e q1) ∧ zNm t e (zX t e q1) ≤ 100 := by omega
                      have hd6 := zDg_51 htb (by omega) h6.1
                      have hx6 := zX_b (t := t) hd6.1
                      have hqq6 : zSk t e (zX t e (zX t e q1)) = zX t e (zX t e q1) := zSk_sk (t := t) (e := e) (p := zLen t (zX t e q1) e) (zLen_b (t := t) hd6.1).2 ⟨by have := zLen_b (t := t) hd6.1; omega, he.2⟩
                      have hz6 : zSk t e (zDg t e (zX t e q1)) = zX t e (zX t e q1) := by rw [hd6.2]; rfl
                      have hL6 := zLen_b (t := t) hd6.1
                      rw [show zNb0 t e (zX t e q1) 0 100 = zNm t e (zX t e q1) by omega]
                      have hps1 := hps.app (k := zNm t e q1) (v := zNm t e (zX t e q1)) (by omega) (by omega)
                      refine xg_aloadn 143 dX12_readRun_142 rfl rfl rfl ?_
                      refine xg_getP 146 kf_RX12_13 dX12_readRun_143 rfl (by assumption) (by assumption) ?_
                      refine xg_iloadn 147 dX12_readRun_146 rfl rfl rfl ?_
                      refine xg_callS 150 [_] _ ks_X12_rowOf kl_RX12_133 dX12_readRun_147 rfl rfl rfl (Nat.le_of_ble_eq_true rfl) (by omega) ⟨Nat.le_refl _, Nat.le_refl _⟩ (ct_X12_rowOf) rfl ?_
                      refine xg_iloadn 151 dX12_readRun_150 rfl rfl rfl ?_
                      refine xg_iadd 152 dX12_readRun_151 rfl ?_
                      refine xg_iload 154 dX12_readRun_152 rfl rfl ?_
                      refine xg_iastW 155 dX12_readRun_154 rfl q2 (by rw [q3]; omega) ?_
                      refine xg_aloadn 156 dX12_readRun_155 rfl rfl rfl ?_
                      refine xg_getP 159 kf_RX12_13 dX12_readRun_156 rfl (by assumption) (by assumption) ?_
                      refine xg_iloadn 160 dX12_readRun_159 rfl rfl rfl ?_
                      refine xg_callS 163 [_] _ ks_X12_rowOf kl_RX12_133 dX12_readRun_160 rfl rfl rfl (Nat.le_of_ble_eq_true rfl) (by omega) ⟨Nat.le_refl _, Nat.le_refl _⟩ (ct_X12_rowOf) rfl ?_
                      refine xg_bipush 165 dX12_readRun_163 rfl (by decide) ?_
                      refine xg_iadd 166 dX12_readRun_165 rfl ?_
                      refine xg_iloadn 167 dX12_readRun_166 rfl rfl rfl ?_
                      refine xg_iadd 168 dX12_readRun_167 rfl ?_
                      refine xg_iconst 169 dX12_readRun_168 rfl ?_
                      rw [show 201 + 122 * w 0 + 60 + zNm t e q1 = 261 + 122 * w 0 + zNm t e q1 by omega]
                      refine xg_iastW 170 dX12_readRun_169 rfl q2 (by rw [q3]; omega) ?_
                      rw [← sPut_app]
                      refine xg_iinc 173 _ dX12_readRun_170 rfl rfl rfl rfl (by decide) (Or.inr rfl) ?_
                      refine xg_aloadn 174 dX12_readRun_173 rfl rfl rfl ?_
                      refine xg_callV 177 12 [] _ kv_X12_isFigure ⟨_, _, rfl⟩ kl_RX12_136 dX12_readRun_174 rfl (by assumption) (by omega) rfl rfl (Nat.le_of_ble_eq_true rfl) (by omega) ⟨Nat.le_refl _, Nat.le_refl _⟩ (cr_isFigure hw hT ht he h11 (p := zDg t e (zX t e q1)) (q := zX t e (zX t e q1)) (by omega) hz6) rfl ?_
                      refine xg_dne 97 180 dX12_readRun_177 rfl rfl (fun hb177 => ?_) (fun hb177 => ?_)
                      · skip
                        exact xg_weak _ (xle_s rfl (xle_s rfl (xle_s rfl (xle_s rfl (xle_s (v := J (((ps ++ [(zNm t e q1, zNm t e (zX t e q1))]).length : Nat) : Int)) (congrArg (fun x => some (J x)) (by rw [List.length_append]; show _ = ((ps.length + 1 : Nat) : Int); omega)) (xle_n xle_0)))))) (by rw [show ps.length + 1 = (ps ++ [(zNm t e q1, zNm t e (zX t e q1))]).length by rw [List.length_append]; rfl]; exact ih (ps ++ [(zNm t e q1, zNm t e (zX t e q1))]) (zX t e (zX t e q1)) (zX t e (zX t e q1)) (zX t e (zX t e q1)) (zNm t e q1) (by rw [List.length_append]; show ps.length + 1 ≤ 20; omega) hps1 (by omega) (by omega) hqq6 (fun _ => rfl) (by rw [hg, show 20 - ps.length = 20 - (ps.length + 1) + 1 by omega, gPr_3 h5 h6 (by omega), show gLo true (zNm t e q1) = zNm t e q1 + 1 from rfl, List.length_append]; rfl) (by rw [List.length_append]; show 30 - ((ps.length + 1 : Nat) : Int) < _; omega))
                      · have h8 : sPut (kOf (ps ++ [(zNm t e q1, zNm t e (zX t e q1))])) (vOf (ps ++ [(zNm t e q1, zNm t e (zX t e q1))])) (sRow0 w (zNm t e (zX t e (zX t e q)))) (w 0) (ps.length + 1) 0 = w 0 := by
                          rw [sPut_c (fun i => (hps1.at i).1) (by omega)]; unfold sRow0; rw [show wE (wS (wS (sHalt w) (199 + 122 * w 0) (zNm t e (zX t e (zX t e q)))) (200 + 122 * w 0) 0) (201 + 122 * w 0) 60 0 = wS (wS (sHalt w) (199 + 122 * w 0) (zNm t e (zX t e (zX t e q)))) (200 + 122 * w 0) 0 0 from if_neg (by omega), wS_ne _ _ _ (by omega), wS_ne _ _ _ (by omega)]; exact sHalt_0
                        refine xg_aloadn 181 dX12_readRun_180 rfl rfl rfl ?_
                        refine xg_getP 184 kf_RX12_13 dX12_readRun_181 rfl (by assumption) (by assumption) ?_
                        refine xg_iconst 185 dX12_readRun_184 rfl ?_
                        refine xg_dup2 186 dX12_readRun_185 rfl rfl rfl ?_
                        refine xg_ialdW 187 dX12_readRun_186 rfl q2 (by rw [q3]; omega) ?_
                        rw [h8]
                        refine xg_iconst 188 dX12_readRun_187 rfl ?_
                        refine xg_iadd 189 dX12_readRun_188 rfl ?_
                        refine xg_iastW 190 dX12_readRun_189 rfl q2 (by rw [q3]; omega) ?_
                        refine xg_iconst 191 dX12_readRun_190 rfl ?_
                        subst hX
                        refine xg_zreturn dX12_readRun_191 rfl (by first | exact bI_01 _ | omega) ⟨Nat.le_refl _, Nat.le_refl _⟩ ?_
                        rw [gRun_6 (by omega) (by omega) h2 (by omega) (hg.trans (by rw [show 20 - ps.length = 20 - (ps.length + 1) + 1 by omega, gPr_4 h5 h6 (by omega)])), show (ps ++ [(zNm t e q1, zNm t e (zX t e q1))]).length = ps.length + 1 by rw [List.length_append]; rfl]
                        exact ⟨rfl, _, _, _, hqq6, ⟨by omega, by omega⟩, xScr.rf, rfl⟩
                    · skip
                      refine xg_iconst 141 dX12_readRun_140 rfl ?_
                      subst hX
                      refine xg_zreturn dX12_readRun_141 rfl (by first | exact bI_01 _ | omega) ⟨Nat.le_refl _, Nat.le_refl _⟩ ?_
                      rw [gRun_5 (by omega) (by omega) h2 (by omega) (hg.trans (by rw [show 20 - ps.length = 20 - (ps.length + 1) + 1 by omega, gPr_2 h5 (by omega)]))]
                      exact ⟨rfl, _, _, _, w32_put (w32_row0 hO (by omega)) hps _, xScr.rf, rfl⟩
                  · skip
                    refine xg_iconst 123 dX12_readRun_122 rfl ?_
                    refine xg_goto 133 dX12_readRun_123 rfl ?_
                    refine xg_istore 135 _ dX12_readRun_133 rfl rfl (by decide) (Or.inr rfl) ?_
                    refine xg_iload 137 dX12_readRun_135 rfl rfl ?_
                    refine xg_ifge 142 140 dX12_readRun_137 rfl rfl (by omega) (fun hb137 => ?_) (fun hb137 => ?_)
                    · exfalso; omega
                    · skip
                      refine xg_iconst 141 dX12_readRun_140 rfl ?_
                      subst hX
                      refine xg_zreturn dX12_readRun_141 rfl (by first | exact bI_01 _ | omega) ⟨Nat.le_refl _, Nat.le_refl _⟩ ?_
                      rw [gRun_5 (by omega) (by omega) h2 (by omega) (hg.trans (by rw [show 20 - ps.length = 20 - (ps.length + 1) + 1 by omega, gPr_1 (by omega)]))]
                      exact ⟨rfl, _, _, _, w32_put (w32_row0 hO (by omega)) hps _, xScr.rf, rfl⟩
                · skip
                  refine xg_iconst 105 dX12_readRun_104 rfl ?_
                  refine xg_goto 117 dX12_readRun_105 rfl ?_
                  refine xg_istoren 118 _ dX12_readRun_117 rfl rfl rfl (by decide) (Or.inr rfl) ?_
                  refine xg_iloadn 119 dX12_readRun_118 rfl rfl rfl ?_
                  refine xg_ifge 126 122 dX12_readRun_119 rfl rfl (by omega) (fun hb119 => ?_) (fun hb119 => ?_)
                  · exfalso; omega
                  · skip
                    refine xg_iconst 123 dX12_readRun_122 rfl ?_
                    refine xg_goto 133 dX12_readRun_123 rfl ?_
                    refine xg_istore 135 _ dX12_readRun_133 rfl rfl (by decide) (Or.inr rfl) ?_
                    refine xg_iload 137 dX12_readRun_135 rfl rfl ?_
                    refine xg_ifge 142 140 dX12_readRun_137 rfl rfl (by omega) (fun hb137 => ?_) (fun hb137 => ?_)
                    · exfalso; omega
                    · skip
                      refine xg_iconst 141 dX12_readRun_140 rfl ?_
                      subst hX
                      refine xg_zreturn dX12_readRun_141 rfl (by first | exact bI_01 _ | omega) ⟨Nat.le_refl _, Nat.le_refl _⟩ ?_
                      have hb9 := hb1 (by omega)
                      subst hb9
                      rw [gRun_5 (by omega) (by omega) h2 (by omega) (hg.trans (by rw [show 20 - ps.length = 0 by omega]; rfl))]
                      exact ⟨rfl, _, _, _, w32_put (w32_row0 hO (by omega)) hps _, xScr.rf, rfl⟩
            exact xg_weak _ (xle_s rfl (xle_s rfl (xle_s rfl (xle_s rfl (xle_s rfl (xle_n xle_0)))))) (loop97 50 [] (zX t e (zX t e (zX t e (zX t e q)))) _ _ (-1) (by decide) psOk.nil (by omega) (by omega) hz4 (fun h => absurd h (Nat.lt_irrefl 0)) rfl (by show 30 - ((0 : Nat) : Int) < _; omega))
          · skip
            refine xg_iconst 56 dX12_readRun_55 rfl ?_
            subst hX
            refine xg_zreturn dX12_readRun_56 rfl (by first | exact bI_01 _ | omega) ⟨Nat.le_refl _, Nat.le_refl _⟩ ?_
            rw [gRun_4 (by omega) (by omega) h2 (by omega)]
            exact ⟨rfl, _, _, _, hO.1, xScr.rf, rfl⟩
        · skip
          refine xg_iconst 41 dX12_readRun_40 rfl ?_
          subst hX
          refine xg_zreturn dX12_readRun_41 rfl (by first | exact bI_01 _ | omega) ⟨Nat.le_refl _, Nat.le_refl _⟩ ?_
          rw [gRun_3 (by omega) (by omega) (by omega)]
          exact ⟨rfl, _, _, _, hO.1, xScr.rf, rfl⟩
      · skip
        refine xg_callV 35 12 [_, _, _] _ kv_X12_behind ⟨_, _, rfl⟩ kl_RX12_124 dX12_readRun_32 rfl (by assumption) (by omega) rfl rfl (Nat.le_of_ble_eq_true rfl) (by omega) ⟨Nat.le_refl _, Nat.le_refl _⟩ (ct_X12_behind hw hT ht he h11 (p := p) (q := zX t e q) hp hz hW (i := 0) (by omega) (lo := sOld0 w) (hi9 := 3) (by omega)) rfl ?_
        rw [if_neg h1, if_neg h1, if_neg h1]
        refine xg_istoren 36 _ dX12_readRun_35 rfl rfl rfl (by decide) (Or.inr rfl) ?_
        refine xg_iloadn 37 dX12_readRun_36 rfl rfl rfl ?_
        refine xg_ifge 42 40 dX12_readRun_37 rfl rfl (by omega) (fun hb37 => ?_) (fun hb37 => ?_)
        · exfalso; omega
        · skip
          refine xg_iconst 41 dX12_readRun_40 rfl ?_
          subst hX
          refine xg_zreturn dX12_readRun_41 rfl (by first | exact bI_01 _ | omega) ⟨Nat.le_refl _, Nat.le_refl _⟩ ?_
          rw [gRun_2 (by omega) (by omega)]
          exact ⟨rfl, _, _, _, hO.1, xScr.rf, rfl⟩
    · intro hj
      refine xg_ifne 24 20 dX12_readRun_17 rfl rfl (by omega) (fun hb17 => ?_) (fun hb17 => ?_)
      · skip
        refine xg_aloadn 25 dX12_readRun_24 rfl rfl rfl ?_
        refine xg_iloadn 26 dX12_readRun_25 rfl rfl rfl ?_
        refine xg_iconst 27 dX12_readRun_26 rfl ?_
        refine xg_isub 28 dX12_readRun_27 rfl ?_
        refine xg_callV 31 12 [_] _ kv_X12_levelOf ⟨_, _, rfl⟩ kl_RX12_120 dX12_readRun_28 rfl (by assumption) (by omega) rfl rfl (Nat.le_of_ble_eq_true rfl) (by omega) ⟨Nat.le_refl _, Nat.le_refl _⟩ (ct_X12_levelOf hw (by omega)) rfl ?_
        exact hj _ (by first | (unfold sOld0; rw [if_pos (by omega)]) | (unfold sOld0; rw [if_neg (by omega)]))
      · skip
        refine xg_iconst 21 dX12_readRun_20 rfl ?_
        refine xg_goto 31 dX12_readRun_21 rfl ?_
        exact hj _ (by first | (unfold sOld0; rw [if_pos (by omega)]) | (unfold sOld0; rw [if_neg (by omega)]))
  · skip
    refine xg_iconst 12 dX12_readRun_11 rfl ?_
    subst hX
    refine xg_zreturn dX12_readRun_12 rfl (by first | exact bI_01 _ | omega) ⟨Nat.le_refl _, Nat.le_refl _⟩ ?_
    rw [gRun_1 (by omega)]
    exact ⟨rfl, _, _, _, hO.1, xScr.rf, rfl⟩

set_option maxHeartbeats 4000000 in
set_option maxRecDepth 100000 in
theorem ct_X12_readTable {E : xE} {z : Nat} {T : Nat → Nat × Int} {F : Nat → Nat → Int} {I : Nat → Int → Int} {P : Nat → Nat → Option Nat} {Y : Nat → Int → Option Nat} {m : Nat} {w : Int → Int} (hw : wM T P m) (hT : ∀ j : Int, -128 ≤ I (m + 6) j ∧ I (m + 6) j ≤ 127) {t : Int → Int} {e : Int} (ht : rTp t (I (m + 6)) e) (he : 0 ≤ e ∧ e ≤ 400) (h11 : F m 11 = e) {ad adv : Nat → Nat} {sio : Option Nat} (hW : ∀ u : State, E.2.2.2.2 u → oWs E.2.2.2.1 ad adv sio u) (hI : wI2 w) {p b dp c q : Int} (hp : 0 ≤ p ∧ p ≤ e) (hz : zSk t e p = q) (hqb : 0 ≤ q ∧ q ≤ e) : Ct E 13 mX12_readTable 0 0 [.ref m] (z, T, fR F m (p) (b) (dp) (c), upA I (m + 1) (w), P, Y) (rSz m z T F I P Y t e dp c (gTab t e q w)) := by
  obtain ⟨⟨q0, q1, q2, q3⟩, -⟩ := id hw
  have htb : ∀ j : Int, 0 ≤ j → j < e → 0 ≤ t j ∧ t j ≤ 255 := fun j a b => (ht j a b).1
  refine Ct.of [some (.ref m), none, none, none] kt_X12_readTable rfl (Nat.le_of_ble_eq_true rfl) rfl (fun d hd => ?_)
  generalize hX : xN E _ _ _ = X
  refine xg_iconst 1 dX12_readTable_0 rfl ?_
  refine xg_istoren 2 _ dX12_readTable_1 rfl rfl rfl (by decide) (Or.inr rfl) ?_
  have loop2 : ∀ (mm : Nat) (ps : List (Int × Int)) (q1 p1 b1 : Int) (I1 : Nat → Int → Int), ps.length ≤ 12 → psOk ps → (0 ≤ q1 ∧ q1 ≤ e) → (0 ≤ p1 ∧ p1 ≤ e) → zSk t e p1 = q1 → (0 < ps.length → b1 = q1) → xScr m I I1 → gPr t e false 12 q 0 [] = gPr t e false (12 - ps.length) q1 0 ps → 30 - (ps.length : Int) < (mm : Int) → xG E mX12_readTable (xR d 0 0) X 2 [some (.ref m), some (J (ps.length : Int)), none, none] [] (z, T, fR F m (p1) (b1) (dp) (c), upA I1 (m + 1) (sWrs w ps), P, Y) 0 0 := by
    intro mm
    induction mm with
    | zero => intro ps q1 p1 b1 I1 hn hps hq1 hp1 hz1 hb1 hX1 hg hm; exfalso; omega
    | succ mm ih =>
      intro ps q1 p1 b1 I1 hn hps hq1 hp1 hz1 hb1 hX1 hg hm
      have hwr := wI2_wrs ps hI hps
      have hI1 := hwr.1
      have hO1 := hI1.1.1.1
      have hT1 : ∀ j : Int, -128 ≤ I1 (m + 6) j ∧ I1 (m + 6) j ≤ 127 := by rw [hX1 _ (by omega)]; exact hT
      have ht1 : rTp t (I1 (m + 6)) e := by rw [hX1 _ (by omega)]; exact ht
      refine xg_iloadn 3 dX12_readTable_2 rfl rfl rfl ?_
      refine xg_bipush 5 dX12_readTable_3 rfl (by decide) ?_
      refine xg_icne 12 8 dX12_readTable_5 rfl rfl (by omega) (fun hb5 => ?_) (fun hb5 => ?_)
      · skip
        refine xg_aloadn 13 dX12_readTable_12 rfl rfl rfl ?_
        refine xg_iconst 14 dX12_readTable_13 rfl ?_
        refine xg_bipush 16 dX12_readTable_14 rfl (by decide) ?_
        refine xg_callV 19 12 [_, _] _ kv_X12_number ⟨_, _, rfl⟩ kl_RX12_115 dX12_readTable_16 rfl (by assumption) (by omega) rfl rfl (Nat.le_of_ble_eq_true rfl) (by omega) ⟨Nat.le_refl _, Nat.le_refl _⟩ (cr_number hw hT1 ht1 he h11 (p := p1) (q := q1) hp1 hz1 (lo := 0) (hi := 59) (by omega)) rfl ?_
        have hnk := zNb0_b (t := t) (e := e) (q := q1) (lo := 0) (hi := 59) (by omega)
        refine xg_istoren 20 _ dX12_readTable_19 rfl rfl rfl (by decide) (Or.inr rfl) ?_
        refine xg_iloadn 21 dX12_readTable_20 rfl rfl rfl ?_
        refine xg_ifge 28 24 dX12_readTable_21 rfl rfl (by omega) (fun hb21 => ?_) (fun hb21 => ?_)
        · have h5 : zK t e q1 = 51 ∧ 0 ≤ zNm t e q1 ∧ zNm t e q1 ≤ 59 := by omega
          have hd5 := zDg_51 htb (by omega) h5.1
          have hx5 := zX_b (t := t) hd5.1
          have hz5 : zSk t e (zDg t e q1) = zX t e q1 := by rw [hd5.2]; rfl
          have hL5 := zLen_b (t := t) hd5.1
          rw [show zNb0 t e q1 0 59 = zNm t e q1 by omega]
          refine xg_aloadn 29 dX12_readTable_28 rfl rfl rfl ?_
          refine xg_iconst 30 dX12_readTable_29 rfl ?_
          refine xg_bipush 32 dX12_readTable_30 rfl (by decide) ?_
          refine xg_callV 35 12 [_, _] _ kv_X12_number ⟨_, _, rfl⟩ kl_RX12_115 dX12_readTable_32 rfl (by assumption) (by omega) rfl rfl (Nat.le_of_ble_eq_true rfl) (by omega) ⟨Nat.le_refl _, Nat.le_refl _⟩ (cr_number hw hT1 ht1 he h11 (p := zDg t e q1) (q := zX t e q1) (by omega) hz5 (lo := 0) (hi := 100) (by omega)) rfl ?_
          have hnv := zNb0_b (t := t) (e := e) (q := zX t e q1) (lo := 0) (hi := 100) (by omega)
          refine xg_istoren 36 _ dX12_readTable_35 rfl rfl rfl (by decide) (Or.inr rfl) ?_
          refine xg_iloadn 37 dX12_readTable_36 rfl rfl rfl ?_
          refine xg_ifge 42 40 dX12_readTable_37 rfl rfl (by omega) (fun hb37 => ?_) (fun hb37 => ?_)
          · have h6 : zK t e (zX t e q1) = 51 ∧ 0 ≤ zNm t e (zX t e q1) ∧ zNm t e (zX t e q1) ≤ 100 := by omega
            have hd6 := zDg_51 htb (by omega) h6.1
            have hx6 := zX_b (t := t) hd6.1
            have hqq6 : zSk t e (zX t e (zX t e q1)) = zX t e (zX t e q1) := zSk_sk (t := t) (e := e) (p := zLen t (zX t e q1) e) (zLen_b (t := t) hd6.1).2 ⟨by have := zLen_b (t := t) hd6.1; omega, he.2⟩
            have hz6 : zSk t e (zDg t e (zX t e q1)) = zX t e (zX t e q1) := by rw [hd6.2]; rfl
            have hL6 := zLen_b (t := t) hd6.1
            rw [show zNb0 t e (zX t e q1) 0 100 = zNm t e (zX t e q1) by omega]
            have hps1 := hps.app (k := zNm t e q1) (v := zNm t e (zX t e q1)) (by omega) (by omega)
            refine xg_aloadn 43 dX12_readTable_42 rfl rfl rfl ?_
            refine xg_iloadn 44 dX12_readTable_43 rfl rfl rfl ?_
            refine xg_iloadn 45 dX12_readTable_44 rfl rfl rfl ?_
            refine xg_callVs 48 12 [_, _] _ kv_X12_isWritten ⟨_, _, rfl⟩ kl_RX12_140 dX12_readTable_45 rfl (by assumption) (by omega) rfl rfl (Nat.le_of_ble_eq_true rfl) (by omega) ⟨Nat.le_refl _, Nat.le_refl _⟩ (ct_X12_isWritten hw hO1 hI1.1.1.2.1 (by omega) (by omega) (sStop_write hI1 (by omega) (by omega))) rfl (fun I2 hI2 => ?_)
            rw [← sWrs_app]
            have hX2 := hX1.tr hI2
            have hT2 : ∀ j : Int, -128 ≤ I2 (m + 6) j ∧ I2 (m + 6) j ≤ 127 := by rw [hX2 _ (by omega)]; exact hT
            have ht2 : rTp t (I2 (m + 6)) e := by rw [hX2 _ (by omega)]; exact ht
            refine xg_pop 49 dX12_readTable_48 rfl rfl ?_
            refine xg_iinc 52 _ dX12_readTable_49 rfl rfl rfl rfl (by decide) (Or.inr rfl) ?_
            refine xg_aloadn 53 dX12_readTable_52 rfl rfl rfl ?_
            refine xg_callV 56 12 [] _ kv_X12_isFigure ⟨_, _, rfl⟩ kl_RX12_136 dX12_readTable_53 rfl (by assumption) (by omega) rfl rfl (Nat.le_of_ble_eq_true rfl) (by omega) ⟨Nat.le_refl _, Nat.le_refl _⟩ (cr_isFigure hw hT2 ht2 he h11 (p := zDg t e (zX t e q1)) (q := zX t e (zX t e q1)) (by omega) hz6) rfl ?_
            refine xg_dne 2 59 dX12_readTable_56 rfl rfl (fun hb56 => ?_) (fun hb56 => ?_)
            · skip
              exact xg_weak _ (xle_s rfl (xle_s (v := J (((ps ++ [(zNm t e q1, zNm t e (zX t e q1))]).length : Nat) : Int)) (congrArg (fun x => some (J x)) (by rw [List.length_append]; show _ = ((ps.length + 1 : Nat) : Int); omega)) (xle_n (xle_n xle_0)))) (ih (ps ++ [(zNm t e q1, zNm t e (zX t e q1))]) (zX t e (zX t e q1)) (zX t e (zX t e q1)) (zX t e (zX t e q1)) I2 (by rw [List.length_append]; show ps.length + 1 ≤ 12; omega) hps1 (by omega) (by omega) hqq6 (fun _ => rfl) hX2 (by rw [hg, show 12 - ps.length = 12 - (ps.length + 1) + 1 by omega, gPr_3 h5 h6 (by omega), show gLo false (zNm t e q1) = 0 from rfl, List.length_append]; rfl) (by rw [List.length_append]; show 30 - ((ps.length + 1 : Nat) : Int) < _; omega))
            · skip
              refine xg_iconst 60 dX12_readTable_59 rfl ?_
              subst hX
              refine xg_zreturn dX12_readTable_60 rfl (by first | exact bI_01 _ | omega) ⟨Nat.le_refl _, Nat.le_refl _⟩ ?_
              rw [gTab_2 (hg.trans (by rw [show 12 - ps.length = 12 - (ps.length + 1) + 1 by omega, gPr_4 h5 h6 (by omega)]))]
              exact ⟨rfl, _, _, _, hqq6, ⟨by omega, by omega⟩, hX2, rfl⟩
          · skip
            refine xg_iconst 41 dX12_readTable_40 rfl ?_
            subst hX
            refine xg_zreturn dX12_readTable_41 rfl (by first | exact bI_01 _ | omega) ⟨Nat.le_refl _, Nat.le_refl _⟩ ?_
            rw [gTab_1 (hg.trans (by rw [show 12 - ps.length = 12 - (ps.length + 1) + 1 by omega, gPr_2 h5 (by omega)]))]
            exact ⟨rfl, _, _, _, hO1.1, hX1, rfl⟩
        · skip
          refine xg_iconst 25 dX12_readTable_24 rfl ?_
          refine xg_goto 35 dX12_readTable_25 rfl ?_
          refine xg_istoren 36 _ dX12_readTable_35 rfl rfl rfl (by decide) (Or.inr rfl) ?_
          refine xg_iloadn 37 dX12_readTable_36 rfl rfl rfl ?_
          refine xg_ifge 42 40 dX12_readTable_37 rfl rfl (by omega) (fun hb37 => ?_) (fun hb37 => ?_)
          · exfalso; omega
          · skip
            refine xg_iconst 41 dX12_readTable_40 rfl ?_
            subst hX
            refine xg_zreturn dX12_readTable_41 rfl (by first | exact bI_01 _ | omega) ⟨Nat.le_refl _, Nat.le_refl _⟩ ?_
            rw [gTab_1 (hg.trans (by rw [show 12 - ps.length = 12 - (ps.length + 1) + 1 by omega, gPr_1 (by omega)]))]
            exact ⟨rfl, _, _, _, hO1.1, hX1, rfl⟩
      · skip
        refine xg_iconst 9 dX12_readTable_8 rfl ?_
        refine xg_goto 19 dX12_readTable_9 rfl ?_
        refine xg_istoren 20 _ dX12_readTable_19 rfl rfl rfl (by decide) (Or.inr rfl) ?_
        refine xg_iloadn 21 dX12_readTable_20 rfl rfl rfl ?_
        refine xg_ifge 28 24 dX12_readTable_21 rfl rfl (by omega) (fun hb21 => ?_) (fun hb21 => ?_)
        · exfalso; omega
        · skip
          refine xg_iconst 25 dX12_readTable_24 rfl ?_
          refine xg_goto 35 dX12_readTable_25 rfl ?_
          refine xg_istoren 36 _ dX12_readTable_35 rfl rfl rfl (by decide) (Or.inr rfl) ?_
          refine xg_iloadn 37 dX12_readTable_36 rfl rfl rfl ?_
          refine xg_ifge 42 40 dX12_readTable_37 rfl rfl (by omega) (fun hb37 => ?_) (fun hb37 => ?_)
          · exfalso; omega
          · skip
            refine xg_iconst 41 dX12_readTable_40 rfl ?_
            subst hX
            refine xg_zreturn dX12_readTable_41 rfl (by first | exact bI_01 _ | omega) ⟨Nat.le_refl _, Nat.le_refl _⟩ ?_
            have hb9 := hb1 (by omega)
            subst hb9
            rw [gTab_1 (hg.trans (by rw [show 12 - ps.length = 0 by omega]; rfl))]
            exact ⟨rfl, _, _, _, hO1.1, hX1, rfl⟩
  exact xg_weak _ (xle_s rfl (xle_s rfl (xle_n (xle_n xle_0)))) (loop2 50 [] q p b I (by decide) psOk.nil hqb hp hz (fun h => absurd h (Nat.lt_irrefl 0)) xScr.rf rfl (by show 30 - ((0 : Nat) : Int) < _; omega))

