theorem dX0_mergeNeighbours_0 : decode cX0_mergeNeighbours 0 = .ok (.ldc 57, 2) := by decide +kernel
theorem dX0_mergeNeighbours_2 : decode cX0_mergeNeighbours 2 = .ok (.istore_n 3, 1) := by decide +kernel
theorem dX0_mergeNeighbours_3 : decode cX0_mergeNeighbours 3 = .ok (.iload_n 1, 1) := by decide +kernel
theorem dX0_mergeNeighbours_4 : decode cX0_mergeNeighbours 4 = .ok (.istore 4, 2) := by decide +kernel
theorem dX0_mergeNeighbours_6 : decode cX0_mergeNeighbours 6 = .ok (.iload 4, 2) := by decide +kernel
theorem dX0_mergeNeighbours_8 : decode cX0_mergeNeighbours 8 = .ok (.iload_n 2, 1) := by decide +kernel
theorem dX0_mergeNeighbours_9 : decode cX0_mergeNeighbours 9 = .ok (.if_icmp .ge 55, 3) := by decide +kernel
theorem dX0_mergeNeighbours_12 : decode cX0_mergeNeighbours 12 = .ok (.aload_n 0, 1) := by decide +kernel
theorem dX0_mergeNeighbours_13 : decode cX0_mergeNeighbours 13 = .ok (.getfield 11, 3) := by decide +kernel
theorem dX0_mergeNeighbours_16 : decode cX0_mergeNeighbours 16 = .ok (.iload_n 1, 1) := by decide +kernel
theorem dX0_mergeNeighbours_17 : decode cX0_mergeNeighbours 17 = .ok (.aaload, 1) := by decide +kernel
theorem dX0_mergeNeighbours_18 : decode cX0_mergeNeighbours 18 = .ok (.iload 4, 2) := by decide +kernel
theorem dX0_mergeNeighbours_20 : decode cX0_mergeNeighbours 20 = .ok (.iaload, 1) := by decide +kernel
theorem dX0_mergeNeighbours_21 : decode cX0_mergeNeighbours 21 = .ok (.aload_n 0, 1) := by decide +kernel
theorem dX0_mergeNeighbours_22 : decode cX0_mergeNeighbours 22 = .ok (.getfield 11, 3) := by decide +kernel
theorem dX0_mergeNeighbours_25 : decode cX0_mergeNeighbours 25 = .ok (.iload 4, 2) := by decide +kernel
theorem dX0_mergeNeighbours_27 : decode cX0_mergeNeighbours 27 = .ok (.iconst 1, 1) := by decide +kernel
theorem dX0_mergeNeighbours_28 : decode cX0_mergeNeighbours 28 = .ok (.iadd, 1) := by decide +kernel
theorem dX0_mergeNeighbours_29 : decode cX0_mergeNeighbours 29 = .ok (.aaload, 1) := by decide +kernel
theorem dX0_mergeNeighbours_30 : decode cX0_mergeNeighbours 30 = .ok (.iload_n 2, 1) := by decide +kernel
theorem dX0_mergeNeighbours_31 : decode cX0_mergeNeighbours 31 = .ok (.iaload, 1) := by decide +kernel
theorem dX0_mergeNeighbours_32 : decode cX0_mergeNeighbours 32 = .ok (.iadd, 1) := by decide +kernel
theorem dX0_mergeNeighbours_33 : decode cX0_mergeNeighbours 33 = .ok (.istore 5, 2) := by decide +kernel
theorem dX0_mergeNeighbours_35 : decode cX0_mergeNeighbours 35 = .ok (.iload 5, 2) := by decide +kernel
theorem dX0_mergeNeighbours_37 : decode cX0_mergeNeighbours 37 = .ok (.iload_n 3, 1) := by decide +kernel
theorem dX0_mergeNeighbours_38 : decode cX0_mergeNeighbours 38 = .ok (.if_icmp .ge 20, 3) := by decide +kernel
theorem dX0_mergeNeighbours_41 : decode cX0_mergeNeighbours 41 = .ok (.iload 5, 2) := by decide +kernel
theorem dX0_mergeNeighbours_43 : decode cX0_mergeNeighbours 43 = .ok (.istore_n 3, 1) := by decide +kernel
theorem dX0_mergeNeighbours_44 : decode cX0_mergeNeighbours 44 = .ok (.aload_n 0, 1) := by decide +kernel
theorem dX0_mergeNeighbours_45 : decode cX0_mergeNeighbours 45 = .ok (.getfield 16, 3) := by decide +kernel
theorem dX0_mergeNeighbours_48 : decode cX0_mergeNeighbours 48 = .ok (.iload_n 1, 1) := by decide +kernel
theorem dX0_mergeNeighbours_49 : decode cX0_mergeNeighbours 49 = .ok (.aaload, 1) := by decide +kernel
theorem dX0_mergeNeighbours_50 : decode cX0_mergeNeighbours 50 = .ok (.iload_n 2, 1) := by decide +kernel
theorem dX0_mergeNeighbours_51 : decode cX0_mergeNeighbours 51 = .ok (.iload 4, 2) := by decide +kernel
theorem dX0_mergeNeighbours_53 : decode cX0_mergeNeighbours 53 = .ok (.iload_n 1, 1) := by decide +kernel
theorem dX0_mergeNeighbours_54 : decode cX0_mergeNeighbours 54 = .ok (.isub, 1) := by decide +kernel
theorem dX0_mergeNeighbours_55 : decode cX0_mergeNeighbours 55 = .ok (.iconst 1, 1) := by decide +kernel
theorem dX0_mergeNeighbours_56 : decode cX0_mergeNeighbours 56 = .ok (.iadd, 1) := by decide +kernel
theorem dX0_mergeNeighbours_57 : decode cX0_mergeNeighbours 57 = .ok (.iastore, 1) := by decide +kernel
theorem dX0_mergeNeighbours_58 : decode cX0_mergeNeighbours 58 = .ok (.iinc 4 1, 3) := by decide +kernel
theorem dX0_mergeNeighbours_61 : decode cX0_mergeNeighbours 61 = .ok (.goto (-55), 3) := by decide +kernel
theorem dX0_mergeNeighbours_64 : decode cX0_mergeNeighbours 64 = .ok (.aload_n 0, 1) := by decide +kernel
theorem dX0_mergeNeighbours_65 : decode cX0_mergeNeighbours 65 = .ok (.getfield 11, 3) := by decide +kernel
theorem dX0_mergeNeighbours_68 : decode cX0_mergeNeighbours 68 = .ok (.iload_n 1, 1) := by decide +kernel
theorem dX0_mergeNeighbours_69 : decode cX0_mergeNeighbours 69 = .ok (.aaload, 1) := by decide +kernel
theorem dX0_mergeNeighbours_70 : decode cX0_mergeNeighbours 70 = .ok (.iload_n 2, 1) := by decide +kernel
theorem dX0_mergeNeighbours_71 : decode cX0_mergeNeighbours 71 = .ok (.iload_n 3, 1) := by decide +kernel
theorem dX0_mergeNeighbours_72 : decode cX0_mergeNeighbours 72 = .ok (.aload_n 0, 1) := by decide +kernel
theorem dX0_mergeNeighbours_73 : decode cX0_mergeNeighbours 73 = .ok (.getfield 19, 3) := by decide +kernel
theorem dX0_mergeNeighbours_76 : decode cX0_mergeNeighbours 76 = .ok (.iload_n 2, 1) := by decide +kernel
theorem dX0_mergeNeighbours_77 : decode cX0_mergeNeighbours 77 = .ok (.iconst 1, 1) := by decide +kernel
theorem dX0_mergeNeighbours_78 : decode cX0_mergeNeighbours 78 = .ok (.iadd, 1) := by decide +kernel
theorem dX0_mergeNeighbours_79 : decode cX0_mergeNeighbours 79 = .ok (.iaload, 1) := by decide +kernel
theorem dX0_mergeNeighbours_80 : decode cX0_mergeNeighbours 80 = .ok (.iadd, 1) := by decide +kernel
theorem dX0_mergeNeighbours_81 : decode cX0_mergeNeighbours 81 = .ok (.aload_n 0, 1) := by decide +kernel
theorem dX0_mergeNeighbours_82 : decode cX0_mergeNeighbours 82 = .ok (.getfield 19, 3) := by decide +kernel
theorem dX0_mergeNeighbours_85 : decode cX0_mergeNeighbours 85 = .ok (.iload_n 1, 1) := by decide +kernel
theorem dX0_mergeNeighbours_86 : decode cX0_mergeNeighbours 86 = .ok (.iaload, 1) := by decide +kernel
theorem dX0_mergeNeighbours_87 : decode cX0_mergeNeighbours 87 = .ok (.isub, 1) := by decide +kernel
theorem dX0_mergeNeighbours_88 : decode cX0_mergeNeighbours 88 = .ok (.iastore, 1) := by decide +kernel
theorem dX0_mergeNeighbours_89 : decode cX0_mergeNeighbours 89 = .ok (.return_, 1) := by decide +kernel
theorem dX0_cheapestMerge_0 : decode cX0_cheapestMerge 0 = .ok (.bipush 12, 2) := by decide +kernel
theorem dX0_cheapestMerge_2 : decode cX0_cheapestMerge 2 = .ok (.aload_n 1, 1) := by decide +kernel
theorem dX0_cheapestMerge_3 : decode cX0_cheapestMerge 3 = .ok (.getfield 32, 3) := by decide +kernel
theorem dX0_cheapestMerge_6 : decode cX0_cheapestMerge 6 = .ok (.invokestatic 38, 3) := by decide +kernel
theorem dX0_cheapestMerge_9 : decode cX0_cheapestMerge 9 = .ok (.istore_n 3, 1) := by decide +kernel
theorem dX0_cheapestMerge_10 : decode cX0_cheapestMerge 10 = .ok (.iload_n 3, 1) := by decide +kernel
theorem dX0_cheapestMerge_11 : decode cX0_cheapestMerge 11 = .ok (.iconst 2, 1) := by decide +kernel
theorem dX0_cheapestMerge_12 : decode cX0_cheapestMerge 12 = .ok (.if_icmp .ge 13, 3) := by decide +kernel
theorem dX0_cheapestMerge_15 : decode cX0_cheapestMerge 15 = .ok (.iload_n 2, 1) := by decide +kernel
theorem dX0_cheapestMerge_16 : decode cX0_cheapestMerge 16 = .ok (.ifCond .eq 7, 3) := by decide +kernel
theorem dX0_cheapestMerge_19 : decode cX0_cheapestMerge 19 = .ok (.iconst (-1), 1) := by decide +kernel
theorem dX0_cheapestMerge_20 : decode cX0_cheapestMerge 20 = .ok (.goto 4, 3) := by decide +kernel
theorem dX0_cheapestMerge_23 : decode cX0_cheapestMerge 23 = .ok (.iconst 0, 1) := by decide +kernel
theorem dX0_cheapestMerge_24 : decode cX0_cheapestMerge 24 = .ok (.ireturn, 1) := by decide +kernel
theorem dX0_cheapestMerge_25 : decode cX0_cheapestMerge 25 = .ok (.aload_n 0, 1) := by decide +kernel
theorem dX0_cheapestMerge_26 : decode cX0_cheapestMerge 26 = .ok (.getfield 19, 3) := by decide +kernel
theorem dX0_cheapestMerge_29 : decode cX0_cheapestMerge 29 = .ok (.iconst 0, 1) := by decide +kernel
theorem dX0_cheapestMerge_30 : decode cX0_cheapestMerge 30 = .ok (.iconst 0, 1) := by decide +kernel
theorem dX0_cheapestMerge_31 : decode cX0_cheapestMerge 31 = .ok (.iastore, 1) := by decide +kernel
theorem dX0_cheapestMerge_32 : decode cX0_cheapestMerge 32 = .ok (.iconst 0, 1) := by decide +kernel
theorem dX0_cheapestMerge_33 : decode cX0_cheapestMerge 33 = .ok (.istore 4, 2) := by decide +kernel
theorem dX0_cheapestMerge_35 : decode cX0_cheapestMerge 35 = .ok (.iload 4, 2) := by decide +kernel
theorem dX0_cheapestMerge_37 : decode cX0_cheapestMerge 37 = .ok (.iload_n 3, 1) := by decide +kernel
theorem dX0_cheapestMerge_38 : decode cX0_cheapestMerge 38 = .ok (.if_icmp .ge 47, 3) := by decide +kernel
theorem dX0_cheapestMerge_41 : decode cX0_cheapestMerge 41 = .ok (.aload_n 0, 1) := by decide +kernel
theorem dX0_cheapestMerge_42 : decode cX0_cheapestMerge 42 = .ok (.getfield 19, 3) := by decide +kernel
theorem dX0_cheapestMerge_45 : decode cX0_cheapestMerge 45 = .ok (.iload 4, 2) := by decide +kernel
theorem dX0_cheapestMerge_47 : decode cX0_cheapestMerge 47 = .ok (.iconst 1, 1) := by decide +kernel
theorem dX0_cheapestMerge_48 : decode cX0_cheapestMerge 48 = .ok (.iadd, 1) := by decide +kernel
theorem dX0_cheapestMerge_49 : decode cX0_cheapestMerge 49 = .ok (.aload_n 0, 1) := by decide +kernel
theorem dX0_cheapestMerge_50 : decode cX0_cheapestMerge 50 = .ok (.getfield 19, 3) := by decide +kernel
theorem dX0_cheapestMerge_53 : decode cX0_cheapestMerge 53 = .ok (.iload 4, 2) := by decide +kernel
theorem dX0_cheapestMerge_55 : decode cX0_cheapestMerge 55 = .ok (.iaload, 1) := by decide +kernel
theorem dX0_cheapestMerge_56 : decode cX0_cheapestMerge 56 = .ok (.aload_n 1, 1) := by decide +kernel
theorem dX0_cheapestMerge_57 : decode cX0_cheapestMerge 57 = .ok (.getfield 44, 3) := by decide +kernel
theorem dX0_cheapestMerge_60 : decode cX0_cheapestMerge 60 = .ok (.iload 4, 2) := by decide +kernel
theorem dX0_cheapestMerge_62 : decode cX0_cheapestMerge 62 = .ok (.aaload, 1) := by decide +kernel
theorem dX0_cheapestMerge_63 : decode cX0_cheapestMerge 63 = .ok (.getfield 48, 3) := by decide +kernel
theorem dX0_cheapestMerge_66 : decode cX0_cheapestMerge 66 = .ok (.iadd, 1) := by decide +kernel
theorem dX0_cheapestMerge_67 : decode cX0_cheapestMerge 67 = .ok (.iastore, 1) := by decide +kernel
theorem dX0_cheapestMerge_68 : decode cX0_cheapestMerge 68 = .ok (.aload_n 0, 1) := by decide +kernel
theorem dX0_cheapestMerge_69 : decode cX0_cheapestMerge 69 = .ok (.getfield 11, 3) := by decide +kernel
theorem dX0_cheapestMerge_72 : decode cX0_cheapestMerge 72 = .ok (.iload 4, 2) := by decide +kernel
theorem dX0_cheapestMerge_74 : decode cX0_cheapestMerge 74 = .ok (.aaload, 1) := by decide +kernel
theorem dX0_cheapestMerge_75 : decode cX0_cheapestMerge 75 = .ok (.iload 4, 2) := by decide +kernel
theorem dX0_cheapestMerge_77 : decode cX0_cheapestMerge 77 = .ok (.iconst 0, 1) := by decide +kernel
theorem dX0_cheapestMerge_78 : decode cX0_cheapestMerge 78 = .ok (.iastore, 1) := by decide +kernel
theorem dX0_cheapestMerge_79 : decode cX0_cheapestMerge 79 = .ok (.iinc 4 1, 3) := by decide +kernel
theorem dX0_cheapestMerge_82 : decode cX0_cheapestMerge 82 = .ok (.goto (-47), 3) := by decide +kernel
theorem dX0_cheapestMerge_85 : decode cX0_cheapestMerge 85 = .ok (.iconst 2, 1) := by decide +kernel
theorem dX0_cheapestMerge_86 : decode cX0_cheapestMerge 86 = .ok (.istore 4, 2) := by decide +kernel
theorem dX0_cheapestMerge_88 : decode cX0_cheapestMerge 88 = .ok (.iload 4, 2) := by decide +kernel
theorem dX0_cheapestMerge_90 : decode cX0_cheapestMerge 90 = .ok (.iload_n 3, 1) := by decide +kernel
theorem dX0_cheapestMerge_91 : decode cX0_cheapestMerge 91 = .ok (.if_icmp .gt 40, 3) := by decide +kernel
theorem dX0_cheapestMerge_94 : decode cX0_cheapestMerge 94 = .ok (.iconst 0, 1) := by decide +kernel
theorem dX0_cheapestMerge_95 : decode cX0_cheapestMerge 95 = .ok (.istore 5, 2) := by decide +kernel
theorem dX0_cheapestMerge_97 : decode cX0_cheapestMerge 97 = .ok (.iload 5, 2) := by decide +kernel
theorem dX0_cheapestMerge_99 : decode cX0_cheapestMerge 99 = .ok (.iload 4, 2) := by decide +kernel
theorem dX0_cheapestMerge_101 : decode cX0_cheapestMerge 101 = .ok (.iadd, 1) := by decide +kernel
theorem dX0_cheapestMerge_102 : decode cX0_cheapestMerge 102 = .ok (.iload_n 3, 1) := by decide +kernel
theorem dX0_cheapestMerge_103 : decode cX0_cheapestMerge 103 = .ok (.if_icmp .gt 22, 3) := by decide +kernel
theorem dX0_cheapestMerge_106 : decode cX0_cheapestMerge 106 = .ok (.aload_n 0, 1) := by decide +kernel
theorem dX0_cheapestMerge_107 : decode cX0_cheapestMerge 107 = .ok (.iload 5, 2) := by decide +kernel
theorem dX0_cheapestMerge_109 : decode cX0_cheapestMerge 109 = .ok (.iload 5, 2) := by decide +kernel
theorem dX0_cheapestMerge_111 : decode cX0_cheapestMerge 111 = .ok (.iload 4, 2) := by decide +kernel
theorem dX0_cheapestMerge_113 : decode cX0_cheapestMerge 113 = .ok (.iadd, 1) := by decide +kernel
theorem dX0_cheapestMerge_114 : decode cX0_cheapestMerge 114 = .ok (.iconst 1, 1) := by decide +kernel
theorem dX0_cheapestMerge_115 : decode cX0_cheapestMerge 115 = .ok (.isub, 1) := by decide +kernel
theorem dX0_cheapestMerge_116 : decode cX0_cheapestMerge 116 = .ok (.invokevirtual 53, 3) := by decide +kernel
theorem dX0_cheapestMerge_119 : decode cX0_cheapestMerge 119 = .ok (.iinc 5 1, 3) := by decide +kernel
theorem dX0_cheapestMerge_122 : decode cX0_cheapestMerge 122 = .ok (.goto (-25), 3) := by decide +kernel
theorem dX0_cheapestMerge_125 : decode cX0_cheapestMerge 125 = .ok (.iinc 4 1, 3) := by decide +kernel
theorem dX0_cheapestMerge_128 : decode cX0_cheapestMerge 128 = .ok (.goto (-40), 3) := by decide +kernel
theorem dX0_cheapestMerge_131 : decode cX0_cheapestMerge 131 = .ok (.iload_n 2, 1) := by decide +kernel
theorem dX0_cheapestMerge_132 : decode cX0_cheapestMerge 132 = .ok (.ifCond .eq 16, 3) := by decide +kernel
theorem dX0_cheapestMerge_135 : decode cX0_cheapestMerge 135 = .ok (.aload_n 0, 1) := by decide +kernel
theorem dX0_cheapestMerge_136 : decode cX0_cheapestMerge 136 = .ok (.getfield 16, 3) := by decide +kernel
theorem dX0_cheapestMerge_139 : decode cX0_cheapestMerge 139 = .ok (.iconst 0, 1) := by decide +kernel
theorem dX0_cheapestMerge_140 : decode cX0_cheapestMerge 140 = .ok (.aaload, 1) := by decide +kernel
theorem dX0_cheapestMerge_141 : decode cX0_cheapestMerge 141 = .ok (.iload_n 3, 1) := by decide +kernel
theorem dX0_cheapestMerge_142 : decode cX0_cheapestMerge 142 = .ok (.iconst 1, 1) := by decide +kernel
theorem dX0_cheapestMerge_143 : decode cX0_cheapestMerge 143 = .ok (.isub, 1) := by decide +kernel
theorem dX0_cheapestMerge_144 : decode cX0_cheapestMerge 144 = .ok (.iaload, 1) := by decide +kernel
theorem dX0_cheapestMerge_145 : decode cX0_cheapestMerge 145 = .ok (.goto 13, 3) := by decide +kernel
theorem dX0_cheapestMerge_148 : decode cX0_cheapestMerge 148 = .ok (.aload_n 0, 1) := by decide +kernel
theorem dX0_cheapestMerge_149 : decode cX0_cheapestMerge 149 = .ok (.getfield 11, 3) := by decide +kernel
theorem dX0_cheapestMerge_152 : decode cX0_cheapestMerge 152 = .ok (.iconst 0, 1) := by decide +kernel
theorem dX0_cheapestMerge_153 : decode cX0_cheapestMerge 153 = .ok (.aaload, 1) := by decide +kernel
theorem dX0_cheapestMerge_154 : decode cX0_cheapestMerge 154 = .ok (.iload_n 3, 1) := by decide +kernel
theorem dX0_cheapestMerge_155 : decode cX0_cheapestMerge 155 = .ok (.iconst 1, 1) := by decide +kernel
theorem dX0_cheapestMerge_156 : decode cX0_cheapestMerge 156 = .ok (.isub, 1) := by decide +kernel
theorem dX0_cheapestMerge_157 : decode cX0_cheapestMerge 157 = .ok (.iaload, 1) := by decide +kernel
theorem dX0_cheapestMerge_158 : decode cX0_cheapestMerge 158 = .ok (.ireturn, 1) := by decide +kernel
section CHP
variable {I I' : Nat → Int → Int} {w : Int → Int} {c : Nat}
def pS (w : Int → Int) (n : Nat) : Int := pSum (fun r => sE w r) n
def sMgB (w : Int → Int) (K f j : Nat) : Int := sMg w j j f + sMg w (K - 1 - j) (K - 1 - j) (f + j + 1)
theorem pS_bd (w : Int → Int) (n : Nat) : 0 ≤ pS w n ∧ pS w n ≤ 60 * n := pSum_bd (fun j _ => sE_bd w j)
theorem nIv_b {f t r : Nat} (hr : r < 12) (ht : t < 12) (hf : f ≤ t) : (nIv f t).testBit r = decide (f ≤ r ∧ r ≤ t) := by
  have h : ∀ f t r : Fin 12, f ≤ t → (nIv f.val t.val).testBit r.val = decide (f.val ≤ r.val ∧ r.val ≤ t.val) := by decide +kernel
  exact h ⟨f, by omega⟩ ⟨t, ht⟩ ⟨r, hr⟩ hf
theorem pS_iv (w : Int → Int) (f t : Nat) : ∀ n : Nat, pSum (fun r => if f ≤ r.toNat ∧ r.toNat ≤ t then sE w r else 0) n = pS w (min n (t + 1)) - pS w (min n f) ∨ t + 1 < f
  | 0 => Or.inl (by rw [Nat.zero_min, Nat.zero_min]; simp [pSum, pS])
  | n + 1 => by
    rcases pS_iv w f t n with h | h
    · by_cases ht : t + 1 < f
      · exact Or.inr ht
      refine Or.inl ?_
      rw [pSum, h]
      by_cases h1 : n < f
      · rw [if_neg (by omega), show min (n + 1) (t + 1) = n + 1 by omega, show min (n + 1) f = n + 1 by omega, show min n (t + 1) = n by omega, show min n f = n by omega]; omega
      · by_cases h2 : n ≤ t
        · rw [if_pos (by omega), show min (n + 1) (t + 1) = n + 1 by omega, show min (n + 1) f = f by omega, show min n (t + 1) = n by omega, show min n f = f by omega]
          unfold pS; rw [pSum_s]; omega
        · rw [if_neg (by omega), show min (n + 1) (t + 1) = t + 1 by omega, show min (n + 1) f = f by omega, show min n (t + 1) = t + 1 by omega, show min n f = f by omega]; omega
    · exact Or.inr h
theorem sStr_S {w : Int → Int} (h : w 0 ≤ 12) {f t : Nat} (hf : f ≤ t) (ht : (t : Int) < w 0) : sStr w f t = pS w (t + 1) - pS w f := by
  unfold sStr sEntIn
  rw [pSum_congr (g := fun r => if f ≤ r.toNat ∧ r.toNat ≤ t then sE w r else 0) (fun j hj => by
    have hj2 : j < 12 := by unfold wN at hj; omega
    rw [show (j : Int).toNat = j by omega, nIv_b hj2 (by omega) hf]
    by_cases e : f ≤ j ∧ j ≤ t
    · rw [decide_eq_true e, if_pos rfl, if_pos e]; rfl
    · rw [decide_eq_false e, if_neg (by decide), if_neg e])]
  have hn : t + 1 ≤ wN w := by unfold wN; omega
  rcases pS_iv w f t (wN w) with h1 | h1
  · rw [h1, show min (wN w) (t + 1) = t + 1 by omega, show min (wN w) f = f by omega]
  · omega
theorem pMin_c (g : Nat → Int) (c i : Int) (hc : 0 ≤ c) : ∀ n : Nat, pMin (fun j => g j + c) i n = min i (pMin g i n + c)
  | 0 => by rw [pMin, pMin]; omega
  | n + 1 => by rw [pMin, pMin, pMin_c g c i hc n]; omega
theorem pMin_cg {g h : Nat → Int} {i : Int} : ∀ {n : Nat}, (∀ j, j < n → g j = h j) → pMin g i n = pMin h i n
  | 0, _ => rfl
  | n + 1, e => by rw [pMin, pMin, pMin_cg (n := n) (fun j hj => e j (by omega)), e n (by omega)]
theorem sMgA_B {w : Int → Int} (h : w 0 ≤ 12) {K f j : Nat} (hK : 1 ≤ K) (hn : (f : Int) + K < w 0) : sMgA w (K - 1) f j = sMgB w K f j + (pS w (f + K + 1) - pS w f) := by
  unfold sMgA sMgB
  rw [show f + (K - 1) + 1 = f + K by omega, sStr_S h (by omega) (by omega)]
theorem sMg_721 {w : Int → Int} (h : w 0 ≤ 12) (k f : Nat) : 0 ≤ sMg w k k f ∧ sMg w k k f ≤ 720 * k := ⟨(sMg_bd h k k f).1, sMg_720 h k k f⟩
theorem sMgB_bd {w : Int → Int} (h : w 0 ≤ 12) {K f j : Nat} (hj : j < K) : 0 ≤ sMgB w K f j ∧ sMgB w K f j ≤ 720 * K := by
  have h1 := sMg_721 h j f
  have h2 := sMg_721 h (K - 1 - j) (f + j + 1)
  unfold sMgB; omega
theorem sMg_B {w : Int → Int} (h : w 0 ≤ 12) {K f : Nat} (hK : 1 ≤ K) (hn : (f : Int) + K < w 0) : sMg w K K f = pMin (sMgB w K f) 1000000 K + (pS w (f + K + 1) - pS w f) := by
  have h1 := sStr_S h (f := f) (t := f + K) (by omega) (by omega)
  have h2 := sEntIn_bd (w := w) (nIv f (f + K)) h
  have h6 : sStr w f (f + K) = sEntIn w (nIv f (f + K)) := rfl
  obtain ⟨k, rfl⟩ : ∃ k, K = k + 1 := ⟨K - 1, by omega⟩
  have h3 := pMin_le (g := sMgB w (k + 1) f) (i := 1000000) (n := k + 1) (j := 0) (by omega)
  have h4 := sMgB_bd h (K := k + 1) (f := f) (j := 0) (by omega)
  have h7 : pMin (sMgA w k f) 1000000 (k + 1) = pMin (fun j => sMgB w (k + 1) f j + (pS w (f + (k + 1) + 1) - pS w f)) 1000000 (k + 1) := pMin_cg (fun j _ => sMgA_B h (K := k + 1) hK hn)
  rw [sMg_s, h7, pMin_c _ _ _ (by omega)]
  omega
/-- where the least was found first: 1 more than the place -/
def pFst (g : Nat → Int) (i : Int) (n : Nat) (v : Int) : Prop := n = 0 ∨ ∃ s : Nat, s < n ∧ v = (s : Int) + 1 ∧ g s = pMin g i n ∧ ∀ t : Nat, t < s → g t ≠ pMin g i n
theorem pFst_new {g : Nat → Int} {i : Int} {n : Nat} (h : g n < pMin g i n) : pFst g i (n + 1) ((n : Int) + 1) := by
  refine Or.inr ⟨n, by omega, rfl, by rw [pMin]; omega, fun t ht e => ?_⟩
  have := pMin_le (g := g) (i := i) (n := n) (j := t) ht
  rw [pMin] at e; omega
theorem pFst_old {g : Nat → Int} {i v : Int} {n : Nat} (h : pFst g i n v) (hg : pMin g i n ≤ g n) (h0 : 1 ≤ n) : pFst g i (n + 1) v := by
  rcases h with h | ⟨s, h1, h2, h3, h4⟩
  · omega
  · have e : pMin g i (n + 1) = pMin g i n := by rw [pMin]; omega
    exact Or.inr ⟨s, by omega, h2, by rw [e]; exact h3, fun t ht => by rw [e]; exact h4 t ht⟩
theorem pFst_e {w : Int → Int} (h : w 0 ≤ 12) {K f : Nat} (hK : 1 ≤ K) (hn : (f : Int) + K < w 0) {v : Int} (hv : pFst (sMgB w K f) 1000000 K v) : v = (sFst (sMgA w (K - 1) f) (sMg w K K f) K : Int) + 1 := by
  rcases hv with h0 | ⟨s, h1, h2, h3, h4⟩
  · omega
  · rw [h2, sFst_at (s := s) (fun j hj e => h4 j hj ?_) ?_ h1]
    · rw [sMgA_B h hK hn, sMg_B h hK hn]; omega
    · rw [sMgA_B h hK hn, sMg_B h hK hn] at e; omega
/-- the costs of the stretches of fewer than K + 1 runs, and of those of K + 1 that begin ahead of f0 -/
def pBs (w : Int → Int) (I : Nat → Int → Int) (c K f0 : Nat) : Prop := ∀ k f : Nat, (f : Int) + k < w 0 → (k < K ∨ (k = K ∧ f < f0)) → I (c + 1 + 1 + f) ((f : Int) + k) = sMg w k k f
theorem pBs.at {K f0 : Nat} (h : pBs w I c K f0) {k f : Nat} {j : Int} (hj : j = (f : Int) + k) (h2 : (f : Int) + k < w 0) (h3 : k < K ∨ (k = K ∧ f < f0)) : I (c + 1 + 1 + f) j = sMg w k k f := by subst hj; exact h k f h2 h3
theorem pBs.S {K f : Nat} (h : pBs w I c K f) {j v : Int} (hj : j = (f : Int) + K) (hv : v = sMg w K K f) : pBs w (upI I (c + 1 + 1 + f) j v) c K (f + 1) := by
  intro l g h2 h3
  by_cases e : g = f
  · subst e
    by_cases e2 : l = K
    · subst e2; rw [hj, upI_at]; exact hv
    · rw [upI_nk _ _ _ _ (by omega)]; exact h l g h2 (by omega)
  · rw [upI_na _ _ _ _ (by omega)]; exact h l g h2 (by omega)
theorem pBs.nx {K f : Nat} (h : pBs w I c K f) (hf : w 0 ≤ (f : Int) + K) : pBs w I c (K + 1) 0 := fun l g h2 h3 => h l g h2 (by omega)
theorem pBs.ne {K f x : Nat} (h : pBs w I c K f) (hx : x < c + 2 ∨ c + 14 ≤ x) (hw : w 0 ≤ 12) (k v : Int) : pBs w (upI I x k v) c K f := fun l g h2 h3 => by rw [upI_na _ _ _ _ (by omega)]; exact h l g h2 h3
def pSu (w : Int → Int) (I : Nat → Int → Int) (c n : Nat) : Prop := ∀ j : Nat, j ≤ n → I (c + 27) (j : Int) = pS w j
theorem pSu.ne {n x : Nat} (h : pSu w I c n) (hx : x ≠ c + 27) (k v : Int) : pSu w (upI I x k v) c n := fun j hj => by rw [upI_na _ _ _ _ (by omega)]; exact h j hj
theorem pSu.S {n : Nat} (h : pSu w I c n) {j v : Int} (hj : j = (n : Int) + 1) (hv : v = pS w n + sE w n) : pSu w (upI I (c + 27) j v) c (n + 1) := by
  intro i hi
  by_cases e : i = n + 1
  · subst e; rw [hj, show ((n + 1 : Nat) : Int) = (n : Int) + 1 by omega, upI_at, hv]; rfl
  · rw [upI_nk _ _ _ _ (by omega)]; exact h i (by omega)
/-- the split of a stretch -/
def pSp (w : Int → Int) (I : Nat → Int → Int) (c K f : Nat) : Prop := I (c + 14 + 1 + f) ((f : Int) + K) = (sFst (sMgA w (K - 1) f) (sMg w K K f) K : Int) + 1
def xMn (c K f : Nat) (z : Nat) (T : Nat → Nat × Int) (F : Nat → Nat → Int) (I : Nat → Int → Int) (P : Nat → Nat → Option Nat) (Y : Nat → Int → Option Nat) (w : Int → Int) : Option Value → xH → Prop := fun v h' => v = none ∧ ∃ I' : Nat → Int → Int, h' = (z, T, F, I', P, Y) ∧ cFr c I I' ∧ pBs w I' c K (f + 1) ∧ pSu w I' c (wN w) ∧ pSp w I' c K f
theorem pBs_0 {K : Nat} (h : ∀ f : Nat, (f : Int) < w 0 → I (c + 1 + 1 + f) (f : Int) = 0) (hK : K ≤ 1) : pBs w I c K 0 := by
  intro k f h2 h3
  rw [show k = 0 by omega, sMg]
  have := h f (by omega)
  rw [show (f : Int) + ((0 : Nat) : Int) = (f : Int) by omega]; exact this
end CHP
set_option maxHeartbeats 4000000 in
set_option maxRecDepth 100000 in
theorem ct_X0_mergeNeighbours {E : xE} {z : Nat} {T : Nat → Nat × Int} {F : Nat → Nat → Int} {I : Nat → Int → Int} {P : Nat → Nat → Option Nat} {Y : Nat → Int → Option Nat} {c : Nat} {w : Int → Int} (hC : wCho T P Y c) (hw : 0 ≤ w 0 ∧ w 0 ≤ 12) {K f : Nat} (hK : 1 ≤ K) (hn : (f : Int) + K < w 0) (hp : pBs w I c K f) (hs : pSu w I c (wN w)) : Ct E 0 mX0_mergeNeighbours 0 0 [.ref c, J (f : Int), J ((f : Int) + K)] (z, T, F, I, P, Y) (xMn c K f z T F I P Y w) := by
  obtain ⟨k0, ⟨b1, ⟨b2, b3⟩, b4⟩, ⟨g1, ⟨g2, g3⟩, g4⟩, ⟨u1, u2, u3⟩, ⟨h1, ⟨h2, h3⟩, h4⟩, ⟨m1, m2, m3⟩, n1, n2, n3⟩ := id hC
  have hN := wN_i hw.1
  refine Ct.of [some (.ref c), some (J (f : Int)), some (J ((f : Int) + K)), none, none, none] kt_X0_mergeNeighbours rfl (Nat.le_of_ble_eq_true rfl) rfl (fun d hd => ?_)
  generalize hX : xN E _ _ _ = X
  refine xg_ldc (z := 1000000) 2 kk_RX0_57 dX0_mergeNeighbours_0 rfl rfl ?_
  refine xg_istoren 3 _ dX0_mergeNeighbours_2 rfl rfl rfl (by decide) (Or.inr rfl) ?_
  refine xg_iloadn 4 dX0_mergeNeighbours_3 rfl rfl rfl ?_
  refine xg_istore 6 _ dX0_mergeNeighbours_4 rfl rfl (by decide) (Or.inr rfl) ?_
  have loop6 : ∀ (mm : Nat) (j : Nat) (J2 : Nat → Int → Int), (j ≤ K) → cFr c I J2 → pBs w J2 c K f → pSu w J2 c (wN w) → pFst (sMgB w K f) 1000000 j (J2 (c + 14 + 1 + f) ((f : Int) + K)) → 20 - (j : Int) < (mm : Int) → xG E mX0_mergeNeighbours (xR d 0 0) X 6 [some (.ref c), some (J (f : Int)), some (J ((f : Int) + K)), some (J (pMin (sMgB w K f) 1000000 j)), some (J ((f : Int) + j)), none] [] (z, T, F, J2, P, Y) 0 0 := by
    intro mm
    induction mm with
    | zero => intro j J2 hj hf hp2 hs2 hq hm; exfalso; omega
    | succ mm ih =>
      intro j J2 hj hf hp2 hs2 hq hm
      have e5 := pMin_bd (g := sMgB w K f) (i := 1000000) (B := 1000000) (by omega) j (fun t ht => (sMgB_bd hw.2 (by omega)).1)
      refine xg_iload 8 dX0_mergeNeighbours_6 rfl rfl ?_
      refine xg_iloadn 9 dX0_mergeNeighbours_8 rfl rfl rfl ?_
      refine xg_icge 64 12 dX0_mergeNeighbours_9 rfl rfl (by omega) (fun hb9 => ?_) (fun hb9 => ?_)
      · skip
        refine xg_aloadn 65 dX0_mergeNeighbours_64 rfl rfl rfl ?_
        refine xg_getP 68 kf_RX0_11 dX0_mergeNeighbours_65 rfl (by assumption) (by assumption) ?_
        refine xg_iloadn 69 dX0_mergeNeighbours_68 rfl rfl rfl ?_
        refine xg_aald 70 dX0_mergeNeighbours_69 rfl (by assumption) (by omega) (b4 f (by omega)).1 ?_
        refine xg_iloadn 71 dX0_mergeNeighbours_70 rfl rfl rfl ?_
        refine xg_iloadn 72 dX0_mergeNeighbours_71 rfl rfl rfl ?_
        refine xg_aloadn 73 dX0_mergeNeighbours_72 rfl rfl rfl ?_
        refine xg_getP 76 kf_RX0_19 dX0_mergeNeighbours_73 rfl (by assumption) (by assumption) ?_
        refine xg_iloadn 77 dX0_mergeNeighbours_76 rfl rfl rfl ?_
        refine xg_iconst 78 dX0_mergeNeighbours_77 rfl ?_
        refine xg_iadd 79 dX0_mergeNeighbours_78 rfl ?_
        refine xg_iald 80 dX0_mergeNeighbours_79 rfl (by assumption) (by rw [u3]; omega) ?_
        rw [show (f : Int) + (K : Int) + 1 = ((f + K + 1 : Nat) : Int) by omega, hs2 (f + K + 1) (by omega)]
        refine xg_iadd 81 dX0_mergeNeighbours_80 rfl ?_
        refine xg_aloadn 82 dX0_mergeNeighbours_81 rfl rfl rfl ?_
        refine xg_getP 85 kf_RX0_19 dX0_mergeNeighbours_82 rfl (by assumption) (by assumption) ?_
        refine xg_iloadn 86 dX0_mergeNeighbours_85 rfl rfl rfl ?_
        refine xg_iald 87 dX0_mergeNeighbours_86 rfl (by assumption) (by rw [u3]; omega) ?_
        rw [hs2 f (by omega)]
        refine xg_isub 88 dX0_mergeNeighbours_87 rfl ?_
        refine xg_iast 89 dX0_mergeNeighbours_88 rfl (b4 f (by omega)).2.1 (by rw [(b4 f (by omega)).2.2]; omega) ?_
        subst hX
        refine xg_return dX0_mergeNeighbours_89 rfl ⟨Nat.le_refl _, Nat.le_refl _⟩ ?_
        have e6 : j = K := by omega
        subst e6
        have e7 := sMg_B hw.2 hK hn
        exact ⟨rfl, _, rfl, hf.up (by omega) _ _, hp2.S rfl (by omega), hs2.ne (by omega) _ _, by unfold pSp; rw [upI_na _ _ _ _ (by omega)]; exact pFst_e hw.2 hK hn hq⟩
      · skip
        refine xg_aloadn 13 dX0_mergeNeighbours_12 rfl rfl rfl ?_
        refine xg_getP 16 kf_RX0_11 dX0_mergeNeighbours_13 rfl (by assumption) (by assumption) ?_
        refine xg_iloadn 17 dX0_mergeNeighbours_16 rfl rfl rfl ?_
        refine xg_aald 18 dX0_mergeNeighbours_17 rfl (by assumption) (by omega) (b4 f (by omega)).1 ?_
        refine xg_iload 20 dX0_mergeNeighbours_18 rfl rfl ?_
        refine xg_iald 21 dX0_mergeNeighbours_20 rfl (b4 f (by omega)).2.1 (by rw [(b4 f (by omega)).2.2]; omega) ?_
        rw [hp2.at (k := j) (f := f) (j := (f : Int) + j) rfl (by omega) (by omega)]
        refine xg_aloadn 22 dX0_mergeNeighbours_21 rfl rfl rfl ?_
        refine xg_getP 25 kf_RX0_11 dX0_mergeNeighbours_22 rfl (by assumption) (by assumption) ?_
        skip
        refine xg_iload 27 dX0_mergeNeighbours_25 rfl rfl ?_
        refine xg_iconst 28 dX0_mergeNeighbours_27 rfl ?_
        refine xg_iadd 29 dX0_mergeNeighbours_28 rfl ?_
        rw [show (f : Int) + (j : Int) + 1 = ((f + j + 1 : Nat) : Int) by omega]
        refine xg_aald 30 dX0_mergeNeighbours_29 rfl (by assumption) (by omega) (b4 (f + j + 1) (by omega)).1 ?_
        refine xg_iloadn 31 dX0_mergeNeighbours_30 rfl rfl rfl ?_
        refine xg_iald 32 dX0_mergeNeighbours_31 rfl (b4 (f + j + 1) (by omega)).2.1 (by rw [(b4 (f + j + 1) (by omega)).2.2]; omega) ?_
        rw [hp2.at (k := K - 1 - j) (f := f + j + 1) (j := (f : Int) + K) (by omega) (by omega) (by omega)]
        have e1 := sMg_721 hw.2 j f
        have e2 := sMg_721 hw.2 (K - 1 - j) (f + j + 1)
        have e3 := sMgB_bd hw.2 (K := K) (f := f) (j := j) (by omega)
        have e4 : sMg w j j f + sMg w (K - 1 - j) (K - 1 - j) (f + j + 1) = sMgB w K f j := rfl
        refine xg_iadd 33 dX0_mergeNeighbours_32 rfl ?_
        rw [e4]
        refine xg_istore 35 _ dX0_mergeNeighbours_33 rfl rfl (by decide) (Or.inr rfl) ?_
        refine xg_iload 37 dX0_mergeNeighbours_35 rfl rfl ?_
        refine xg_iloadn 38 dX0_mergeNeighbours_37 rfl rfl rfl ?_
        refine xg_icge 58 41 dX0_mergeNeighbours_38 rfl rfl (by omega) (fun hb38 => ?_) (fun hb38 => ?_)
        · skip
          refine xg_iinc 61 _ dX0_mergeNeighbours_58 rfl rfl rfl rfl (by decide) (Or.inr rfl) ?_
          refine xg_goto 6 dX0_mergeNeighbours_61 rfl ?_
          have hq9 : pFst (sMgB w K f) 1000000 (j + 1) (J2 (c + 14 + 1 + f) ((f : Int) + K)) := by
            by_cases h0 : j = 0
            · exfalso; subst h0; rw [pMin] at hb38; omega
            · exact pFst_old hq (by omega) (by omega)
          exact xg_weak _ (xle_s rfl (xle_s rfl (xle_s rfl (xle_s (by rw [pMin, show min (pMin (sMgB w K f) 1000000 j) (sMgB w K f j) = pMin (sMgB w K f) 1000000 j by omega]) (xle_s (by rw [show (f : Int) + ((j + 1 : Nat) : Int) = (f : Int) + (j : Int) + 1 by omega]) (xle_n xle_0)))))) (ih (j + 1) J2 (by omega) hf hp2 hs2 hq9 (by omega))
        · skip
          refine xg_iload 43 dX0_mergeNeighbours_41 rfl rfl ?_
          refine xg_istoren 44 _ dX0_mergeNeighbours_43 rfl rfl rfl (by decide) (Or.inr rfl) ?_
          refine xg_aloadn 45 dX0_mergeNeighbours_44 rfl rfl rfl ?_
          refine xg_getP 48 kf_RX0_16 dX0_mergeNeighbours_45 rfl (by assumption) (by assumption) ?_
          refine xg_iloadn 49 dX0_mergeNeighbours_48 rfl rfl rfl ?_
          refine xg_aald 50 dX0_mergeNeighbours_49 rfl (by assumption) (by omega) (g4 f (by omega)).1 ?_
          refine xg_iloadn 51 dX0_mergeNeighbours_50 rfl rfl rfl ?_
          refine xg_iload 53 dX0_mergeNeighbours_51 rfl rfl ?_
          refine xg_iloadn 54 dX0_mergeNeighbours_53 rfl rfl rfl ?_
          refine xg_isub 55 dX0_mergeNeighbours_54 rfl ?_
          refine xg_iconst 56 dX0_mergeNeighbours_55 rfl ?_
          skip
          refine xg_iadd 57 dX0_mergeNeighbours_56 rfl ?_
          refine xg_iast 58 dX0_mergeNeighbours_57 rfl (g4 f (by omega)).2.1 (by rw [(g4 f (by omega)).2.2]; omega) ?_
          refine xg_iinc 61 _ dX0_mergeNeighbours_58 rfl rfl rfl rfl (by decide) (Or.inr rfl) ?_
          refine xg_goto 6 dX0_mergeNeighbours_61 rfl ?_
          exact xg_weak _ (xle_s rfl (xle_s rfl (xle_s rfl (xle_s (by rw [pMin, show min (pMin (sMgB w K f) 1000000 j) (sMgB w K f j) = sMgB w K f j by omega]) (xle_s (by rw [show (f : Int) + ((j + 1 : Nat) : Int) = (f : Int) + (j : Int) + 1 by omega]) (xle_n xle_0)))))) (ih (j + 1) _ (by omega) (hf.up (by omega) _ _) (hp2.ne (by omega) hw.2 _ _) (hs2.ne (by omega) _ _) (by rw [upI_at, show (f : Int) + (j : Int) - (f : Int) + 1 = (j : Int) + 1 by omega]; exact pFst_new (by omega)) (by omega))
  exact xg_weak _ (xle_s rfl (xle_s rfl (xle_s rfl (xle_s (by rw [pMin]) (xle_s (by rw [show (f : Int) + ((0 : Nat) : Int) = (f : Int) by omega]) (xle_n xle_0)))))) (loop6 30 0 I (by omega) cFr.rf hp hs (Or.inl rfl) (by omega))

theorem sChp_f {w : Int → Int} (h : 2 ≤ w 0) : sChp w false = sMg w (wN w - 1) (wN w - 1) 0 := by unfold sChp; rw [if_neg (by omega), if_neg (by decide)]
theorem sChp_t {w : Int → Int} (h : 2 ≤ w 0) : sChp w true = (sFst (sMgA w (wN w - 2) 0) (sMg w (wN w - 1) (wN w - 1) 0) (wN w - 1) : Int) + 1 := by unfold sChp; rw [if_neg (by omega), if_pos rfl]
theorem sChp_0 {w : Int → Int} (h : w 0 < 2) : sChp w false = 0 := by unfold sChp; rw [if_pos h, if_neg (by decide)]
theorem sChp_n {w : Int → Int} (h : w 0 < 2) : sChp w true = -1 := by unfold sChp; rw [if_pos h, if_pos rfl]
set_option maxHeartbeats 4000000 in
set_option maxRecDepth 100000 in
theorem ct_X0_cheapestMerge_t {E : xE} {z : Nat} {T : Nat → Nat × Int} {F : Nat → Nat → Int} {I : Nat → Int → Int} {P : Nat → Nat → Option Nat} {Y : Nat → Int → Option Nat} {a c : Nat} {w : Int → Int} (hC : wCho T P Y c) (hS : SR T F I P Y a w) : Ct E 1 mX0_cheapestMerge 0 0 [.ref c, .ref a, J (bI true)] (z, T, F, I, P, Y) (xCh c (some (J (sChp w true))) z T F I P Y) := by
  obtain ⟨k0, ⟨b1, ⟨b2, b3⟩, b4⟩, ⟨g1, ⟨g2, g3⟩, g4⟩, ⟨u1, u2, u3⟩, ⟨h1, ⟨h2, h3⟩, h4⟩, ⟨m1, m2, m3⟩, n1, n2, n3⟩ := id hC
  obtain ⟨⟨hO, hL, hTy⟩, hLw, ⟨π, hB⟩, hV, hLf⟩ := id hS
  obtain ⟨⟨⟨⟨s0, s1, s2, s3⟩, sR, ⟨s4, s5⟩, ⟨s6, sLv⟩, ⟨s7, s8⟩, ⟨s9, sJo⟩, s10, s11, s12⟩, p1, p2, p3, p4, p5⟩, ⟨⟨c1, c9, c10, c11, c12, c13, c14, c15⟩, hTl, j0, j1, j2⟩, hRn, hTb, hOt, hJo⟩ := id hB
  obtain ⟨hR, o0, o1, o2, o3, o4, o5, o6, oc, o13, o14, o16, o17, o18, ov⟩ := id hO
  have hN := wN_i o0.1
  refine Ct.of [some (.ref c), some (.ref a), some (J (bI true)), none, none, none] kt_X0_cheapestMerge rfl (Nat.le_of_ble_eq_true rfl) rfl (fun d hd => ?_)
  generalize hX : xN E _ _ _ = X
  refine xg_bipush 2 dX0_cheapestMerge_0 rfl (by decide) ?_
  refine xg_aloadn 3 dX0_cheapestMerge_2 rfl rfl rfl ?_
  refine xg_getI 6 kf_RX0_32 dX0_cheapestMerge_3 rfl (by assumption) ?_
  rw [c1]
  refine xg_mmin 9 kl_RX0_38 dX0_cheapestMerge_6 rfl (by omega) (Nat.le_of_ble_eq_true rfl) (by omega) ⟨Nat.le_refl _, Nat.le_refl _⟩ ?_
  rw [show min 12 (w 0) = w 0 by omega]
  refine xg_istoren 10 _ dX0_cheapestMerge_9 rfl rfl rfl (by decide) (Or.inr rfl) ?_
  refine xg_iloadn 11 dX0_cheapestMerge_10 rfl rfl rfl ?_
  refine xg_iconst 12 dX0_cheapestMerge_11 rfl ?_
  refine xg_icge 25 15 dX0_cheapestMerge_12 rfl rfl (by omega) (fun hb12 => ?_) (fun hb12 => ?_)
  · skip
    refine xg_aloadn 26 dX0_cheapestMerge_25 rfl rfl rfl ?_
    refine xg_getP 29 kf_RX0_19 dX0_cheapestMerge_26 rfl (by assumption) (by assumption) ?_
    refine xg_iconst 30 dX0_cheapestMerge_29 rfl ?_
    refine xg_iconst 31 dX0_cheapestMerge_30 rfl ?_
    refine xg_iast 32 dX0_cheapestMerge_31 rfl (by assumption) (by rw [u3]; omega) ?_
    refine xg_iconst 33 dX0_cheapestMerge_32 rfl ?_
    refine xg_istore 35 _ dX0_cheapestMerge_33 rfl rfl (by decide) (Or.inr rfl) ?_
    have loop35 : ∀ (mm : Nat) (r : Nat) (J2 : Nat → Int → Int), ((r : Int) ≤ w 0) → cFr c I J2 → pSu w J2 c r → (∀ f : Nat, f < r → J2 (c + 1 + 1 + f) (f : Int) = 0) → 13 - (r : Int) < (mm : Int) → xG E mX0_cheapestMerge (xR d 0 0) X 35 [some (.ref c), some (.ref a), some (J (bI true)), some (J (w 0)), some (J (r : Int)), none] [] (z, T, F, J2, P, Y) 0 0 := by
      intro mm
      induction mm with
      | zero => intro r J2 hr hf hs2 hz2 hm; exfalso; omega
      | succ mm ih =>
        intro r J2 hr hf hs2 hz2 hm
        refine xg_iload 37 dX0_cheapestMerge_35 rfl rfl ?_
        refine xg_iloadn 38 dX0_cheapestMerge_37 rfl rfl rfl ?_
        refine xg_icge 85 41 dX0_cheapestMerge_38 rfl rfl (by omega) (fun hb38 => ?_) (fun hb38 => ?_)
        · skip
          refine xg_iconst 86 dX0_cheapestMerge_85 rfl ?_
          refine xg_istore 88 _ dX0_cheapestMerge_86 rfl rfl (by decide) (Or.inr rfl) ?_
          have loop88 : ∀ (mm : Nat) (K : Nat) (J2 : Nat → Int → Int), (1 ≤ K ∧ (K : Int) ≤ w 0) → cFr c I J2 → pBs w J2 c K 0 → pSu w J2 c (wN w) → ((K : Int) = w 0 → pSp w J2 c (wN w - 1) 0) → 13 - (K : Int) < (mm : Int) → xG E mX0_cheapestMerge (xR d 0 0) X 88 [some (.ref c), some (.ref a), some (J (bI true)), some (J (w 0)), some (J ((K : Int) + 1)), none] [] (z, T, F, J2, P, Y) 0 0 := by
            intro mm
            induction mm with
            | zero => intro K J2 hK hf2 hp2 hs2 hq2 hm; exfalso; omega
            | succ mm ih1 =>
              intro K J2 hK hf2 hp2 hs2 hq2 hm
              refine xg_iload 90 dX0_cheapestMerge_88 rfl rfl ?_
              refine xg_iloadn 91 dX0_cheapestMerge_90 rfl rfl rfl ?_
              refine xg_icgt 131 94 dX0_cheapestMerge_91 rfl rfl (by omega) (fun hb91 => ?_) (fun hb91 => ?_)
              · skip
                refine xg_iloadn 132 dX0_cheapestMerge_131 rfl rfl rfl ?_
                refine xg_ifeq 148 135 dX0_cheapestMerge_132 rfl rfl (by decide) (fun hb132 => ?_) (fun hb132 => ?_)
                · exfalso; exact absurd hb132 (by decide)
                · skip
                  refine xg_aloadn 136 dX0_cheapestMerge_135 rfl rfl rfl ?_
                  refine xg_getP 139 kf_RX0_16 dX0_cheapestMerge_136 rfl (by assumption) (by assumption) ?_
                  refine xg_iconst 140 dX0_cheapestMerge_139 rfl ?_
                  refine xg_aald 141 dX0_cheapestMerge_140 rfl (by assumption) (by omega) (by exact (g4 0 (by omega)).1) ?_
                  refine xg_iloadn 142 dX0_cheapestMerge_141 rfl rfl rfl ?_
                  refine xg_iconst 143 dX0_cheapestMerge_142 rfl ?_
                  refine xg_isub 144 dX0_cheapestMerge_143 rfl ?_
                  refine xg_iald 145 dX0_cheapestMerge_144 rfl (g4 0 (by omega)).2.1 (by rw [(g4 0 (by omega)).2.2]; omega) ?_
                  refine xg_goto 158 dX0_cheapestMerge_145 rfl ?_
                  subst hX
                  exact xg_ireturn dX0_cheapestMerge_158 rfl ⟨Nat.le_refl _, Nat.le_refl _⟩ ⟨congrArg (fun v => some (J v)) (by rw [sChp_t (by omega), show wN w - 2 = wN w - 1 - 1 by omega]; have h9 := hq2 (by omega); unfold pSp at h9; rw [show ((0 : Nat) : Int) + ((wN w - 1 : Nat) : Int) = w 0 - 1 by omega] at h9; exact h9), J2, rfl, hf2⟩
              · skip
                refine xg_iconst 95 dX0_cheapestMerge_94 rfl ?_
                refine xg_istore 97 _ dX0_cheapestMerge_95 rfl rfl (by decide) (Or.inr rfl) ?_
                have loop97 : ∀ (mm : Nat) (f : Nat) (J3 : Nat → Int → Int), ((f : Int) + K ≤ w 0) → cFr c I J3 → pBs w J3 c K f → pSu w J3 c (wN w) → (f = 1 ∨ w 0 < (f : Int) + K + 1 → (K : Int) + 1 = w 0 → pSp w J3 c (wN w - 1) 0) → 20 - (f : Int) < (mm : Int) → xG E mX0_cheapestMerge (xR d 0 0) X 97 [some (.ref c), some (.ref a), some (J (bI true)), some (J (w 0)), some (J ((K : Int) + 1)), some (J (f : Int))] [] (z, T, F, J3, P, Y) 0 0 := by
                  intro mm
                  induction mm with
                  | zero => intro f J3 hf hf3 hp3 hs3 hq3 hm; exfalso; omega
                  | succ mm ih2 =>
                    intro f J3 hf hf3 hp3 hs3 hq3 hm
                    refine xg_iload 99 dX0_cheapestMerge_97 rfl rfl ?_
                    refine xg_iload 101 dX0_cheapestMerge_99 rfl rfl ?_
                    refine xg_iadd 102 dX0_cheapestMerge_101 rfl ?_
                    refine xg_iloadn 103 dX0_cheapestMerge_102 rfl rfl rfl ?_
                    refine xg_icgt 125 106 dX0_cheapestMerge_103 rfl rfl (by omega) (fun hb103 => ?_) (fun hb103 => ?_)
                    · skip
                      refine xg_iinc 128 _ dX0_cheapestMerge_125 rfl rfl rfl rfl (by decide) (Or.inr rfl) ?_
                      refine xg_goto 88 dX0_cheapestMerge_128 rfl ?_
                      exact xg_weak _ (xle_s rfl (xle_s rfl (xle_s rfl (xle_s rfl (xle_s (by rw [show ((K + 1 : Nat) : Int) + 1 = (K : Int) + 1 + 1 by omega]) (xle_n xle_0)))))) (ih1 (K + 1) J3 (by omega) hf3 (hp3.nx (by omega)) hs3 (fun e => hq3 (by omega) (by omega)) (by omega))
                    · skip
                      refine xg_aloadn 107 dX0_cheapestMerge_106 rfl rfl rfl ?_
                      refine xg_iload 109 dX0_cheapestMerge_107 rfl rfl ?_
                      refine xg_iload 111 dX0_cheapestMerge_109 rfl rfl ?_
                      refine xg_iload 113 dX0_cheapestMerge_111 rfl rfl ?_
                      refine xg_iadd 114 dX0_cheapestMerge_113 rfl ?_
                      refine xg_iconst 115 dX0_cheapestMerge_114 rfl ?_
                      refine xg_isub 116 dX0_cheapestMerge_115 rfl ?_
                      rw [show (f : Int) + ((K : Int) + 1) - 1 = (f : Int) + (K : Int) by omega]
                      refine xg_callVe 119 0 [_, _] _ kv_X0_mergeNeighbours ⟨_, _, rfl⟩ kl_RX0_53 dX0_cheapestMerge_116 rfl (by assumption) (by omega) rfl rfl (Nat.le_of_ble_eq_true rfl) (by omega) ⟨Nat.le_refl _, Nat.le_refl _⟩ (ct_X0_mergeNeighbours hC o0 (K := K) (f := f) (by omega) (by omega) hp3 hs3) rfl (fun v9 h9 e9 => ?_)
                      obtain ⟨rfl, J4, rfl, hf4, hp4, hs4, hq4⟩ := e9
                      refine xg_iinc 122 _ dX0_cheapestMerge_119 rfl rfl rfl rfl (by decide) (Or.inr rfl) ?_
                      refine xg_goto 97 dX0_cheapestMerge_122 rfl ?_
                      have hq9 : (f + 1 = 1 ∨ w 0 < ((f + 1 : Nat) : Int) + K + 1) → (K : Int) + 1 = w 0 → pSp w J4 c (wN w - 1) 0 := fun e1 e2 => by
                        have e3 : f = 0 := by omega
                        subst e3
                        rw [show wN w - 1 = K by omega]; exact hq4
                      exact xg_weak _ (xle_s rfl (xle_s rfl (xle_s rfl (xle_s rfl (xle_s rfl (xle_s rfl xle_0)))))) (ih2 (f + 1) J4 (by omega) (hf3.tr hf4) hp4 hs4 hq9 (by omega))
                exact xg_weak _ (xle_s rfl (xle_s rfl (xle_s rfl (xle_s rfl (xle_s rfl (xle_s rfl xle_0)))))) (loop97 30 0 J2 (by omega) hf2 hp2 hs2 (fun e1 e2 => by omega) (by omega))
          exact xg_weak _ (xle_s rfl (xle_s rfl (xle_s rfl (xle_s rfl (xle_s rfl (xle_n xle_0)))))) (loop88 20 1 J2 (by omega) hf (pBs_0 (fun f h9 => hz2 f (by omega)) (by omega)) (by rw [show wN w = r by omega]; exact hs2) (fun e => by omega) (by omega))
        · skip
          refine xg_aloadn 42 dX0_cheapestMerge_41 rfl rfl rfl ?_
          refine xg_getP 45 kf_RX0_19 dX0_cheapestMerge_42 rfl (by assumption) (by assumption) ?_
          refine xg_iload 47 dX0_cheapestMerge_45 rfl rfl ?_
          refine xg_iconst 48 dX0_cheapestMerge_47 rfl ?_
          refine xg_iadd 49 dX0_cheapestMerge_48 rfl ?_
          refine xg_aloadn 50 dX0_cheapestMerge_49 rfl rfl rfl ?_
          refine xg_getP 53 kf_RX0_19 dX0_cheapestMerge_50 rfl (by assumption) (by assumption) ?_
          refine xg_iload 55 dX0_cheapestMerge_53 rfl rfl ?_
          refine xg_iald 56 dX0_cheapestMerge_55 rfl (by assumption) (by rw [u3]; omega) ?_
          rw [hs2 r (by omega)]
          have e1 := pS_bd w r
          have e2 := sE_bd w (r : Int)
          refine xg_aloadn 57 dX0_cheapestMerge_56 rfl rfl rfl ?_
          refine xg_getP 60 kf_RX0_44 dX0_cheapestMerge_57 rfl (by assumption) (by assumption) ?_
          refine xg_iload 62 dX0_cheapestMerge_60 rfl rfl ?_
          refine xg_rald 63 dX0_cheapestMerge_62 rfl (by assumption) (by omega) (p1 r (by omega)) ?_
          refine xg_getI 66 kf_RX0_48 dX0_cheapestMerge_63 rfl (sR (π r) (p4 r (by omega))).1 ?_
          rw [show F (a + 2 + 3 * π r) 2 = sE w (r : Int) from (hRn r (by omega)).n]
          refine xg_iadd 67 dX0_cheapestMerge_66 rfl ?_
          refine xg_iast 68 dX0_cheapestMerge_67 rfl (by assumption) (by rw [u3]; omega) ?_
          refine xg_aloadn 69 dX0_cheapestMerge_68 rfl rfl rfl ?_
          refine xg_getP 72 kf_RX0_11 dX0_cheapestMerge_69 rfl (by assumption) (by assumption) ?_
          refine xg_iload 74 dX0_cheapestMerge_72 rfl rfl ?_
          refine xg_aald 75 dX0_cheapestMerge_74 rfl (by assumption) (by omega) (b4 r (by omega)).1 ?_
          refine xg_iload 77 dX0_cheapestMerge_75 rfl rfl ?_
          refine xg_iconst 78 dX0_cheapestMerge_77 rfl ?_
          refine xg_iast 79 dX0_cheapestMerge_78 rfl (b4 r (by omega)).2.1 (by rw [(b4 r (by omega)).2.2]; omega) ?_
          refine xg_iinc 82 _ dX0_cheapestMerge_79 rfl rfl rfl rfl (by decide) (Or.inr rfl) ?_
          refine xg_goto 35 dX0_cheapestMerge_82 rfl ?_
          have hz9 : ∀ f : Nat, f < r + 1 → upI (upI J2 (c + 27) ((r : Int) + 1) (pS w r + sE w r)) (c + 1 + 1 + r) (r : Int) 0 (c + 1 + 1 + f) (f : Int) = 0 := fun f hf2 => by
            by_cases e : f = r
            · subst e; rw [upI_at]
            · rw [upI_na _ _ _ _ (by omega), upI_na _ _ _ _ (by omega)]; exact hz2 f (by omega)
          exact xg_weak _ (xle_s rfl (xle_s rfl (xle_s rfl (xle_s rfl (xle_s rfl (xle_n xle_0)))))) (ih (r + 1) _ (by omega) ((hf.up (by omega) _ _).up (by omega) _ _) ((hs2.S rfl rfl).ne (by omega) _ _) hz9 (by omega))
    exact xg_weak _ (xle_s rfl (xle_s rfl (xle_s rfl (xle_s rfl (xle_s rfl (xle_n xle_0)))))) (loop35 20 0 _ (by omega) (cFr.rf.up (by omega) _ _) (fun j hj => by rw [show j = 0 by omega]; exact upI_at _ _ _ _) (fun f hf => by omega) (by omega))
  · skip
    refine xg_iloadn 16 dX0_cheapestMerge_15 rfl rfl rfl ?_
    refine xg_ifeq 23 19 dX0_cheapestMerge_16 rfl rfl (by decide) (fun hb16 => ?_) (fun hb16 => ?_)
    · exfalso; exact absurd hb16 (by decide)
    · skip
      refine xg_iconst 20 dX0_cheapestMerge_19 rfl ?_
      refine xg_goto 24 dX0_cheapestMerge_20 rfl ?_
      subst hX
      exact xg_ireturn dX0_cheapestMerge_24 rfl ⟨Nat.le_refl _, Nat.le_refl _⟩ ⟨by rw [sChp_n (by omega)], I, rfl, cFr.rf⟩

set_option maxHeartbeats 4000000 in
set_option maxRecDepth 100000 in
theorem ct_X0_cheapestMerge_f {E : xE} {z : Nat} {T : Nat → Nat × Int} {F : Nat → Nat → Int} {I : Nat → Int → Int} {P : Nat → Nat → Option Nat} {Y : Nat → Int → Option Nat} {a c : Nat} {w : Int → Int} (hC : wCho T P Y c) (hS : SR T F I P Y a w) : Ct E 1 mX0_cheapestMerge 0 0 [.ref c, .ref a, J (bI false)] (z, T, F, I, P, Y) (xCh c (some (J (sChp w false))) z T F I P Y) := by
  obtain ⟨k0, ⟨b1, ⟨b2, b3⟩, b4⟩, ⟨g1, ⟨g2, g3⟩, g4⟩, ⟨u1, u2, u3⟩, ⟨h1, ⟨h2, h3⟩, h4⟩, ⟨m1, m2, m3⟩, n1, n2, n3⟩ := id hC
  obtain ⟨⟨hO, hL, hTy⟩, hLw, ⟨π, hB⟩, hV, hLf⟩ := id hS
  obtain ⟨⟨⟨⟨s0, s1, s2, s3⟩, sR, ⟨s4, s5⟩, ⟨s6, sLv⟩, ⟨s7, s8⟩, ⟨s9, sJo⟩, s10, s11, s12⟩, p1, p2, p3, p4, p5⟩, ⟨⟨c1, c9, c10, c11, c12, c13, c14, c15⟩, hTl, j0, j1, j2⟩, hRn, hTb, hOt, hJo⟩ := id hB
  obtain ⟨hR, o0, o1, o2, o3, o4, o5, o6, oc, o13, o14, o16, o17, o18, ov⟩ := id hO
  have hN := wN_i o0.1
  refine Ct.of [some (.ref c), some (.ref a), some (J (bI false)), none, none, none] kt_X0_cheapestMerge rfl (Nat.le_of_ble_eq_true rfl) rfl (fun d hd => ?_)
  generalize hX : xN E _ _ _ = X
  refine xg_bipush 2 dX0_cheapestMerge_0 rfl (by decide) ?_
  refine xg_aloadn 3 dX0_cheapestMerge_2 rfl rfl rfl ?_
  refine xg_getI 6 kf_RX0_32 dX0_cheapestMerge_3 rfl (by assumption) ?_
  rw [c1]
  refine xg_mmin 9 kl_RX0_38 dX0_cheapestMerge_6 rfl (by omega) (Nat.le_of_ble_eq_true rfl) (by omega) ⟨Nat.le_refl _, Nat.le_refl _⟩ ?_
  rw [show min 12 (w 0) = w 0 by omega]
  refine xg_istoren 10 _ dX0_cheapestMerge_9 rfl rfl rfl (by decide) (Or.inr rfl) ?_
  refine xg_iloadn 11 dX0_cheapestMerge_10 rfl rfl rfl ?_
  refine xg_iconst 12 dX0_cheapestMerge_11 rfl ?_
  refine xg_icge 25 15 dX0_cheapestMerge_12 rfl rfl (by omega) (fun hb12 => ?_) (fun hb12 => ?_)
  · skip
    refine xg_aloadn 26 dX0_cheapestMerge_25 rfl rfl rfl ?_
    refine xg_getP 29 kf_RX0_19 dX0_cheapestMerge_26 rfl (by assumption) (by assumption) ?_
    refine xg_iconst 30 dX0_cheapestMerge_29 rfl ?_
    refine xg_iconst 31 dX0_cheapestMerge_30 rfl ?_
    refine xg_iast 32 dX0_cheapestMerge_31 rfl (by assumption) (by rw [u3]; omega) ?_
    refine xg_iconst 33 dX0_cheapestMerge_32 rfl ?_
    refine xg_istore 35 _ dX0_cheapestMerge_33 rfl rfl (by decide) (Or.inr rfl) ?_
    have loop35 : ∀ (mm : Nat) (r : Nat) (J2 : Nat → Int → Int), ((r : Int) ≤ w 0) → cFr c I J2 → pSu w J2 c r → (∀ f : Nat, f < r → J2 (c + 1 + 1 + f) (f : Int) = 0) → 13 - (r : Int) < (mm : Int) → xG E mX0_cheapestMerge (xR d 0 0) X 35 [some (.ref c), some (.ref a), some (J (bI false)), some (J (w 0)), some (J (r : Int)), none] [] (z, T, F, J2, P, Y) 0 0 := by
      intro mm
      induction mm with
      | zero => intro r J2 hr hf hs2 hz2 hm; exfalso; omega
      | succ mm ih =>
        intro r J2 hr hf hs2 hz2 hm
        refine xg_iload 37 dX0_cheapestMerge_35 rfl rfl ?_
        refine xg_iloadn 38 dX0_cheapestMerge_37 rfl rfl rfl ?_
        refine xg_icge 85 41 dX0_cheapestMerge_38 rfl rfl (by omega) (fun hb38 => ?_) (fun hb38 => ?_)
        · skip
          refine xg_iconst 86 dX0_cheapestMerge_85 rfl ?_
          refine xg_istore 88 _ dX0_cheapestMerge_86 rfl rfl (by decide) (Or.inr rfl) ?_
          have loop88 : ∀ (mm : Nat) (K : Nat) (J2 : Nat → Int → Int), (1 ≤ K ∧ (K : Int) ≤ w 0) → cFr c I J2 → pBs w J2 c K 0 → pSu w J2 c (wN w) → ((K : Int) = w 0 → pSp w J2 c (wN w - 1) 0) → 13 - (K : Int) < (mm : Int) → xG E mX0_cheapestMerge (xR d 0 0) X 88 [some (.ref c), some (.ref a), some (J (bI false)), some (J (w 0)), some (J ((K : Int) + 1)), none] [] (z, T, F, J2, P, Y) 0 0 := by
            intro mm
            induction mm with
            | zero => intro K J2 hK hf2 hp2 hs2 hq2 hm; exfalso; omega
            | succ mm ih1 =>
              intro K J2 hK hf2 hp2 hs2 hq2 hm
              refine xg_iload 90 dX0_cheapestMerge_88 rfl rfl ?_
              refine xg_iloadn 91 dX0_cheapestMerge_90 rfl rfl rfl ?_
              refine xg_icgt 131 94 dX0_cheapestMerge_91 rfl rfl (by omega) (fun hb91 => ?_) (fun hb91 => ?_)
              · skip
                refine xg_iloadn 132 dX0_cheapestMerge_131 rfl rfl rfl ?_
                refine xg_ifeq 148 135 dX0_cheapestMerge_132 rfl rfl (by decide) (fun hb132 => ?_) (fun hb132 => ?_)
                · skip
                  refine xg_aloadn 149 dX0_cheapestMerge_148 rfl rfl rfl ?_
                  refine xg_getP 152 kf_RX0_11 dX0_cheapestMerge_149 rfl (by assumption) (by assumption) ?_
                  refine xg_iconst 153 dX0_cheapestMerge_152 rfl ?_
                  refine xg_aald 154 dX0_cheapestMerge_153 rfl (by assumption) (by omega) (by exact (b4 0 (by omega)).1) ?_
                  refine xg_iloadn 155 dX0_cheapestMerge_154 rfl rfl rfl ?_
                  refine xg_iconst 156 dX0_cheapestMerge_155 rfl ?_
                  refine xg_isub 157 dX0_cheapestMerge_156 rfl ?_
                  refine xg_iald 158 dX0_cheapestMerge_157 rfl (b4 0 (by omega)).2.1 (by rw [(b4 0 (by omega)).2.2]; omega) ?_
                  subst hX
                  exact xg_ireturn dX0_cheapestMerge_158 rfl ⟨Nat.le_refl _, Nat.le_refl _⟩ ⟨congrArg (fun v => some (J v)) (by rw [sChp_f (by omega)]; have h9 := hp2.at (k := wN w - 1) (f := 0) (j := w 0 - 1) (by omega) (by omega) (by omega); exact h9), J2, rfl, hf2⟩
                · exfalso; exact absurd hb132 (by decide)
              · skip
                refine xg_iconst 95 dX0_cheapestMerge_94 rfl ?_
                refine xg_istore 97 _ dX0_cheapestMerge_95 rfl rfl (by decide) (Or.inr rfl) ?_
                have loop97 : ∀ (mm : Nat) (f : Nat) (J3 : Nat → Int → Int), ((f : Int) + K ≤ w 0) → cFr c I J3 → pBs w J3 c K f → pSu w J3 c (wN w) → (f = 1 ∨ w 0 < (f : Int) + K + 1 → (K : Int) + 1 = w 0 → pSp w J3 c (wN w - 1) 0) → 20 - (f : Int) < (mm : Int) → xG E mX0_cheapestMerge (xR d 0 0) X 97 [some (.ref c), some (.ref a), some (J (bI false)), some (J (w 0)), some (J ((K : Int) + 1)), some (J (f : Int))] [] (z, T, F, J3, P, Y) 0 0 := by
                  intro mm
                  induction mm with
                  | zero => intro f J3 hf hf3 hp3 hs3 hq3 hm; exfalso; omega
                  | succ mm ih2 =>
                    intro f J3 hf hf3 hp3 hs3 hq3 hm
                    refine xg_iload 99 dX0_cheapestMerge_97 rfl rfl ?_
                    refine xg_iload 101 dX0_cheapestMerge_99 rfl rfl ?_
                    refine xg_iadd 102 dX0_cheapestMerge_101 rfl ?_
                    refine xg_iloadn 103 dX0_cheapestMerge_102 rfl rfl rfl ?_
                    refine xg_icgt 125 106 dX0_cheapestMerge_103 rfl rfl (by omega) (fun hb103 => ?_) (fun hb103 => ?_)
                    · skip
                      refine xg_iinc 128 _ dX0_cheapestMerge_125 rfl rfl rfl rfl (by decide) (Or.inr rfl) ?_
                      refine xg_goto 88 dX0_cheapestMerge_128 rfl ?_
                      exact xg_weak _ (xle_s rfl (xle_s rfl (xle_s rfl (xle_s rfl (xle_s (by rw [show ((K + 1 : Nat) : Int) + 1 = (K : Int) + 1 + 1 by omega]) (xle_n xle_0)))))) (ih1 (K + 1) J3 (by omega) hf3 (hp3.nx (by omega)) hs3 (fun e => hq3 (by omega) (by omega)) (by omega))
                    · skip
                      refine xg_aloadn 107 dX0_cheapestMerge_106 rfl rfl rfl ?_
                      refine xg_iload 109 dX0_cheapestMerge_107 rfl rfl ?_
                      refine xg_iload 111 dX0_cheapestMerge_109 rfl rfl ?_
                      refine xg_iload 113 dX0_cheapestMerge_111 rfl rfl ?_
                      refine xg_iadd 114 dX0_cheapestMerge_113 rfl ?_
                      refine xg_iconst 115 dX0_cheapestMerge_114 rfl ?_
                      refine xg_isub 116 dX0_cheapestMerge_115 rfl ?_
                      rw [show (f : Int) + ((K : Int) + 1) - 1 = (f : Int) + (K : Int) by omega]
                      refine xg_callVe 119 0 [_, _] _ kv_X0_mergeNeighbours ⟨_, _, rfl⟩ kl_RX0_53 dX0_cheapestMerge_116 rfl (by assumption) (by omega) rfl rfl (Nat.le_of_ble_eq_true rfl) (by omega) ⟨Nat.le_refl _, Nat.le_refl _⟩ (ct_X0_mergeNeighbours hC o0 (K := K) (f := f) (by omega) (by omega) hp3 hs3) rfl (fun v9 h9 e9 => ?_)
                      obtain ⟨rfl, J4, rfl, hf4, hp4, hs4, hq4⟩ := e9
                      refine xg_iinc 122 _ dX0_cheapestMerge_119 rfl rfl rfl rfl (by decide) (Or.inr rfl) ?_
                      refine xg_goto 97 dX0_cheapestMerge_122 rfl ?_
                      have hq9 : (f + 1 = 1 ∨ w 0 < ((f + 1 : Nat) : Int) + K + 1) → (K : Int) + 1 = w 0 → pSp w J4 c (wN w - 1) 0 := fun e1 e2 => by
                        have e3 : f = 0 := by omega
                        subst e3
                        rw [show wN w - 1 = K by omega]; exact hq4
                      exact xg_weak _ (xle_s rfl (xle_s rfl (xle_s rfl (xle_s rfl (xle_s rfl (xle_s rfl xle_0)))))) (ih2 (f + 1) J4 (by omega) (hf3.tr hf4) hp4 hs4 hq9 (by omega))
                exact xg_weak _ (xle_s rfl (xle_s rfl (xle_s rfl (xle_s rfl (xle_s rfl (xle_s rfl xle_0)))))) (loop97 30 0 J2 (by omega) hf2 hp2 hs2 (fun e1 e2 => by omega) (by omega))
          exact xg_weak _ (xle_s rfl (xle_s rfl (xle_s rfl (xle_s rfl (xle_s rfl (xle_n xle_0)))))) (loop88 20 1 J2 (by omega) hf (pBs_0 (fun f h9 => hz2 f (by omega)) (by omega)) (by rw [show wN w = r by omega]; exact hs2) (fun e => by omega) (by omega))
        · skip
          refine xg_aloadn 42 dX0_cheapestMerge_41 rfl rfl rfl ?_
          refine xg_getP 45 kf_RX0_19 dX0_cheapestMerge_42 rfl (by assumption) (by assumption) ?_
          refine xg_iload 47 dX0_cheapestMerge_45 rfl rfl ?_
          refine xg_iconst 48 dX0_cheapestMerge_47 rfl ?_
          refine xg_iadd 49 dX0_cheapestMerge_48 rfl ?_
          refine xg_aloadn 50 dX0_cheapestMerge_49 rfl rfl rfl ?_
          refine xg_getP 53 kf_RX0_19 dX0_cheapestMerge_50 rfl (by assumption) (by assumption) ?_
          refine xg_iload 55 dX0_cheapestMerge_53 rfl rfl ?_
          refine xg_iald 56 dX0_cheapestMerge_55 rfl (by assumption) (by rw [u3]; omega) ?_
          rw [hs2 r (by omega)]
          have e1 := pS_bd w r
          have e2 := sE_bd w (r : Int)
          refine xg_aloadn 57 dX0_cheapestMerge_56 rfl rfl rfl ?_
          refine xg_getP 60 kf_RX0_44 dX0_cheapestMerge_57 rfl (by assumption) (by assumption) ?_
          refine xg_iload 62 dX0_cheapestMerge_60 rfl rfl ?_
          refine xg_rald 63 dX0_cheapestMerge_62 rfl (by assumption) (by omega) (p1 r (by omega)) ?_
          refine xg_getI 66 kf_RX0_48 dX0_cheapestMerge_63 rfl (sR (π r) (p4 r (by omega))).1 ?_
          rw [show F (a + 2 + 3 * π r) 2 = sE w (r : Int) from (hRn r (by omega)).n]
          refine xg_iadd 67 dX0_cheapestMerge_66 rfl ?_
          refine xg_iast 68 dX0_cheapestMerge_67 rfl (by assumption) (by rw [u3]; omega) ?_
          refine xg_aloadn 69 dX0_cheapestMerge_68 rfl rfl rfl ?_
          refine xg_getP 72 kf_RX0_11 dX0_cheapestMerge_69 rfl (by assumption) (by assumption) ?_
          refine xg_iload 74 dX0_cheapestMerge_72 rfl rfl ?_
          refine xg_aald 75 dX0_cheapestMerge_74 rfl (by assumption) (by omega) (b4 r (by omega)).1 ?_
          refine xg_iload 77 dX0_cheapestMerge_75 rfl rfl ?_
          refine xg_iconst 78 dX0_cheapestMerge_77 rfl ?_
          refine xg_iast 79 dX0_cheapestMerge_78 rfl (b4 r (by omega)).2.1 (by rw [(b4 r (by omega)).2.2]; omega) ?_
          refine xg_iinc 82 _ dX0_cheapestMerge_79 rfl rfl rfl rfl (by decide) (Or.inr rfl) ?_
          refine xg_goto 35 dX0_cheapestMerge_82 rfl ?_
          have hz9 : ∀ f : Nat, f < r + 1 → upI (upI J2 (c + 27) ((r : Int) + 1) (pS w r + sE w r)) (c + 1 + 1 + r) (r : Int) 0 (c + 1 + 1 + f) (f : Int) = 0 := fun f hf2 => by
            by_cases e : f = r
            · subst e; rw [upI_at]
            · rw [upI_na _ _ _ _ (by omega), upI_na _ _ _ _ (by omega)]; exact hz2 f (by omega)
          exact xg_weak _ (xle_s rfl (xle_s rfl (xle_s rfl (xle_s rfl (xle_s rfl (xle_n xle_0)))))) (ih (r + 1) _ (by omega) ((hf.up (by omega) _ _).up (by omega) _ _) ((hs2.S rfl rfl).ne (by omega) _ _) hz9 (by omega))
    exact xg_weak _ (xle_s rfl (xle_s rfl (xle_s rfl (xle_s rfl (xle_s rfl (xle_n xle_0)))))) (loop35 20 0 _ (by omega) (cFr.rf.up (by omega) _ _) (fun j hj => by rw [show j = 0 by omega]; exact upI_at _ _ _ _) (fun f hf => by omega) (by omega))
  · skip
    refine xg_iloadn 16 dX0_cheapestMerge_15 rfl rfl rfl ?_
    refine xg_ifeq 23 19 dX0_cheapestMerge_16 rfl rfl (by decide) (fun hb16 => ?_) (fun hb16 => ?_)
    · skip
      refine xg_iconst 24 dX0_cheapestMerge_23 rfl ?_
      subst hX
      exact xg_ireturn dX0_cheapestMerge_24 rfl ⟨Nat.le_refl _, Nat.le_refl _⟩ ⟨by rw [sChp_0 (by omega)], I, rfl, cFr.rf⟩
    · exfalso; exact absurd hb16 (by decide)

theorem ct_X0_cheapestMerge {E : xE} {z : Nat} {T : Nat → Nat × Int} {F : Nat → Nat → Int} {I : Nat → Int → Int} {P : Nat → Nat → Option Nat} {Y : Nat → Int → Option Nat} {a c : Nat} {w : Int → Int} (hC : wCho T P Y c) (hS : SR T F I P Y a w) {b : Bool} : Ct E 1 mX0_cheapestMerge 0 0 [.ref c, .ref a, J (bI b)] (z, T, F, I, P, Y) (xCh c (some (J (sChp w b))) z T F I P Y) := by
  cases b with
  | true => exact ct_X0_cheapestMerge_t hC hS
  | false => exact ct_X0_cheapestMerge_f hC hS
