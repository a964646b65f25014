theorem dX8_lawSum_0 : decode cX8_lawSum 0 = .ok (.aload_n 0, 1) := by decide +kernel
theorem dX8_lawSum_1 : decode cX8_lawSum 1 = .ok (.getfield 99, 3) := by decide +kernel
theorem dX8_lawSum_4 : decode cX8_lawSum 4 = .ok (.ifnull 12, 3) := by decide +kernel
theorem dX8_lawSum_7 : decode cX8_lawSum 7 = .ok (.iload_n 2, 1) := by decide +kernel
theorem dX8_lawSum_8 : decode cX8_lawSum 8 = .ok (.ifCond .lt 8, 3) := by decide +kernel
theorem dX8_lawSum_11 : decode cX8_lawSum 11 = .ok (.iload_n 2, 1) := by decide +kernel
theorem dX8_lawSum_12 : decode cX8_lawSum 12 = .ok (.iconst 4, 1) := by decide +kernel
theorem dX8_lawSum_13 : decode cX8_lawSum 13 = .ok (.if_icmp .lt 5, 3) := by decide +kernel
theorem dX8_lawSum_16 : decode cX8_lawSum 16 = .ok (.iconst 0, 1) := by decide +kernel
theorem dX8_lawSum_17 : decode cX8_lawSum 17 = .ok (.ireturn, 1) := by decide +kernel
theorem dX8_lawSum_18 : decode cX8_lawSum 18 = .ok (.aload_n 0, 1) := by decide +kernel
theorem dX8_lawSum_19 : decode cX8_lawSum 19 = .ok (.getfield 53, 3) := by decide +kernel
theorem dX8_lawSum_22 : decode cX8_lawSum 22 = .ok (.iconst 0, 1) := by decide +kernel
theorem dX8_lawSum_23 : decode cX8_lawSum 23 = .ok (.iload_n 2, 1) := by decide +kernel
theorem dX8_lawSum_24 : decode cX8_lawSum 24 = .ok (.iastore, 1) := by decide +kernel
theorem dX8_lawSum_25 : decode cX8_lawSum 25 = .ok (.aload_n 0, 1) := by decide +kernel
theorem dX8_lawSum_26 : decode cX8_lawSum 26 = .ok (.getfield 53, 3) := by decide +kernel
theorem dX8_lawSum_29 : decode cX8_lawSum 29 = .ok (.iconst 1, 1) := by decide +kernel
theorem dX8_lawSum_30 : decode cX8_lawSum 30 = .ok (.aload_n 0, 1) := by decide +kernel
theorem dX8_lawSum_31 : decode cX8_lawSum 31 = .ok (.getfield 35, 3) := by decide +kernel
theorem dX8_lawSum_34 : decode cX8_lawSum 34 = .ok (.getfield 140, 3) := by decide +kernel
theorem dX8_lawSum_37 : decode cX8_lawSum 37 = .ok (.iload_n 2, 1) := by decide +kernel
theorem dX8_lawSum_38 : decode cX8_lawSum 38 = .ok (.iaload, 1) := by decide +kernel
theorem dX8_lawSum_39 : decode cX8_lawSum 39 = .ok (.iastore, 1) := by decide +kernel
theorem dX8_lawSum_40 : decode cX8_lawSum 40 = .ok (.aload_n 0, 1) := by decide +kernel
theorem dX8_lawSum_41 : decode cX8_lawSum 41 = .ok (.getfield 53, 3) := by decide +kernel
theorem dX8_lawSum_44 : decode cX8_lawSum 44 = .ok (.iconst 2, 1) := by decide +kernel
theorem dX8_lawSum_45 : decode cX8_lawSum 45 = .ok (.aload_n 0, 1) := by decide +kernel
theorem dX8_lawSum_46 : decode cX8_lawSum 46 = .ok (.getfield 35, 3) := by decide +kernel
theorem dX8_lawSum_49 : decode cX8_lawSum 49 = .ok (.getfield 107, 3) := by decide +kernel
theorem dX8_lawSum_52 : decode cX8_lawSum 52 = .ok (.iload_n 2, 1) := by decide +kernel
theorem dX8_lawSum_53 : decode cX8_lawSum 53 = .ok (.iaload, 1) := by decide +kernel
theorem dX8_lawSum_54 : decode cX8_lawSum 54 = .ok (.iastore, 1) := by decide +kernel
theorem dX8_lawSum_55 : decode cX8_lawSum 55 = .ok (.aload_n 0, 1) := by decide +kernel
theorem dX8_lawSum_56 : decode cX8_lawSum 56 = .ok (.getfield 53, 3) := by decide +kernel
theorem dX8_lawSum_59 : decode cX8_lawSum 59 = .ok (.iconst 3, 1) := by decide +kernel
theorem dX8_lawSum_60 : decode cX8_lawSum 60 = .ok (.aload_n 0, 1) := by decide +kernel
theorem dX8_lawSum_61 : decode cX8_lawSum 61 = .ok (.invokevirtual 129, 3) := by decide +kernel
theorem dX8_lawSum_64 : decode cX8_lawSum 64 = .ok (.iastore, 1) := by decide +kernel
theorem dX8_lawSum_65 : decode cX8_lawSum 65 = .ok (.aload_n 0, 1) := by decide +kernel
theorem dX8_lawSum_66 : decode cX8_lawSum 66 = .ok (.getfield 53, 3) := by decide +kernel
theorem dX8_lawSum_69 : decode cX8_lawSum 69 = .ok (.iconst 4, 1) := by decide +kernel
theorem dX8_lawSum_70 : decode cX8_lawSum 70 = .ok (.aload_n 0, 1) := by decide +kernel
theorem dX8_lawSum_71 : decode cX8_lawSum 71 = .ok (.getfield 18, 3) := by decide +kernel
theorem dX8_lawSum_74 : decode cX8_lawSum 74 = .ok (.getfield 117, 3) := by decide +kernel
theorem dX8_lawSum_77 : decode cX8_lawSum 77 = .ok (.iastore, 1) := by decide +kernel
theorem dX8_lawSum_78 : decode cX8_lawSum 78 = .ok (.aload_n 0, 1) := by decide +kernel
theorem dX8_lawSum_79 : decode cX8_lawSum 79 = .ok (.getfield 53, 3) := by decide +kernel
theorem dX8_lawSum_82 : decode cX8_lawSum 82 = .ok (.iconst 5, 1) := by decide +kernel
theorem dX8_lawSum_83 : decode cX8_lawSum 83 = .ok (.aload_n 0, 1) := by decide +kernel
theorem dX8_lawSum_84 : decode cX8_lawSum 84 = .ok (.getfield 57, 3) := by decide +kernel
theorem dX8_lawSum_87 : decode cX8_lawSum 87 = .ok (.iastore, 1) := by decide +kernel
theorem dX8_lawSum_88 : decode cX8_lawSum 88 = .ok (.aload_n 0, 1) := by decide +kernel
theorem dX8_lawSum_89 : decode cX8_lawSum 89 = .ok (.getfield 53, 3) := by decide +kernel
theorem dX8_lawSum_92 : decode cX8_lawSum 92 = .ok (.bipush 6, 2) := by decide +kernel
theorem dX8_lawSum_94 : decode cX8_lawSum 94 = .ok (.aload_n 0, 1) := by decide +kernel
theorem dX8_lawSum_95 : decode cX8_lawSum 95 = .ok (.getfield 93, 3) := by decide +kernel
theorem dX8_lawSum_98 : decode cX8_lawSum 98 = .ok (.bipush 100, 2) := by decide +kernel
theorem dX8_lawSum_100 : decode cX8_lawSum 100 = .ok (.irem, 1) := by decide +kernel
theorem dX8_lawSum_101 : decode cX8_lawSum 101 = .ok (.iastore, 1) := by decide +kernel
theorem dX8_lawSum_102 : decode cX8_lawSum 102 = .ok (.aload_n 0, 1) := by decide +kernel
theorem dX8_lawSum_103 : decode cX8_lawSum 103 = .ok (.getfield 53, 3) := by decide +kernel
theorem dX8_lawSum_106 : decode cX8_lawSum 106 = .ok (.bipush 7, 2) := by decide +kernel
theorem dX8_lawSum_108 : decode cX8_lawSum 108 = .ok (.aload_n 0, 1) := by decide +kernel
theorem dX8_lawSum_109 : decode cX8_lawSum 109 = .ok (.getfield 28, 3) := by decide +kernel
theorem dX8_lawSum_112 : decode cX8_lawSum 112 = .ok (.getfield 143, 3) := by decide +kernel
theorem dX8_lawSum_115 : decode cX8_lawSum 115 = .ok (.ifCond .eq 7, 3) := by decide +kernel
theorem dX8_lawSum_118 : decode cX8_lawSum 118 = .ok (.iconst 1, 1) := by decide +kernel
theorem dX8_lawSum_119 : decode cX8_lawSum 119 = .ok (.goto 4, 3) := by decide +kernel
theorem dX8_lawSum_122 : decode cX8_lawSum 122 = .ok (.iconst 0, 1) := by decide +kernel
theorem dX8_lawSum_123 : decode cX8_lawSum 123 = .ok (.iastore, 1) := by decide +kernel
theorem dX8_lawSum_124 : decode cX8_lawSum 124 = .ok (.aload_n 0, 1) := by decide +kernel
theorem dX8_lawSum_125 : decode cX8_lawSum 125 = .ok (.getfield 53, 3) := by decide +kernel
theorem dX8_lawSum_128 : decode cX8_lawSum 128 = .ok (.bipush 8, 2) := by decide +kernel
theorem dX8_lawSum_130 : decode cX8_lawSum 130 = .ok (.aload_n 0, 1) := by decide +kernel
theorem dX8_lawSum_131 : decode cX8_lawSum 131 = .ok (.getfield 89, 3) := by decide +kernel
theorem dX8_lawSum_134 : decode cX8_lawSum 134 = .ok (.ifCond .eq 7, 3) := by decide +kernel
theorem dX8_lawSum_137 : decode cX8_lawSum 137 = .ok (.iconst 0, 1) := by decide +kernel
theorem dX8_lawSum_138 : decode cX8_lawSum 138 = .ok (.goto 4, 3) := by decide +kernel
theorem dX8_lawSum_141 : decode cX8_lawSum 141 = .ok (.iconst 1, 1) := by decide +kernel
theorem dX8_lawSum_142 : decode cX8_lawSum 142 = .ok (.iastore, 1) := by decide +kernel
theorem dX8_lawSum_143 : decode cX8_lawSum 143 = .ok (.aload_n 0, 1) := by decide +kernel
theorem dX8_lawSum_144 : decode cX8_lawSum 144 = .ok (.getfield 53, 3) := by decide +kernel
theorem dX8_lawSum_147 : decode cX8_lawSum 147 = .ok (.bipush 9, 2) := by decide +kernel
theorem dX8_lawSum_149 : decode cX8_lawSum 149 = .ok (.aload_n 0, 1) := by decide +kernel
theorem dX8_lawSum_150 : decode cX8_lawSum 150 = .ok (.getfield 18, 3) := by decide +kernel
theorem dX8_lawSum_153 : decode cX8_lawSum 153 = .ok (.getfield 117, 3) := by decide +kernel
theorem dX8_lawSum_156 : decode cX8_lawSum 156 = .ok (.aload_n 0, 1) := by decide +kernel
theorem dX8_lawSum_157 : decode cX8_lawSum 157 = .ok (.getfield 61, 3) := by decide +kernel
theorem dX8_lawSum_160 : decode cX8_lawSum 160 = .ok (.if_icmp .lt 7, 3) := by decide +kernel
theorem dX8_lawSum_163 : decode cX8_lawSum 163 = .ok (.iconst 1, 1) := by decide +kernel
theorem dX8_lawSum_164 : decode cX8_lawSum 164 = .ok (.goto 4, 3) := by decide +kernel
theorem dX8_lawSum_167 : decode cX8_lawSum 167 = .ok (.iconst 0, 1) := by decide +kernel
theorem dX8_lawSum_168 : decode cX8_lawSum 168 = .ok (.iastore, 1) := by decide +kernel
theorem dX8_lawSum_169 : decode cX8_lawSum 169 = .ok (.iconst 0, 1) := by decide +kernel
theorem dX8_lawSum_170 : decode cX8_lawSum 170 = .ok (.istore_n 3, 1) := by decide +kernel
theorem dX8_lawSum_171 : decode cX8_lawSum 171 = .ok (.iconst 0, 1) := by decide +kernel
theorem dX8_lawSum_172 : decode cX8_lawSum 172 = .ok (.istore 4, 2) := by decide +kernel
theorem dX8_lawSum_174 : decode cX8_lawSum 174 = .ok (.iload 4, 2) := by decide +kernel
theorem dX8_lawSum_176 : decode cX8_lawSum 176 = .ok (.aload_n 0, 1) := by decide +kernel
theorem dX8_lawSum_177 : decode cX8_lawSum 177 = .ok (.getfield 99, 3) := by decide +kernel
theorem dX8_lawSum_180 : decode cX8_lawSum 180 = .ok (.getfield 146, 3) := by decide +kernel
theorem dX8_lawSum_183 : decode cX8_lawSum 183 = .ok (.if_icmp .ge 52, 3) := by decide +kernel
theorem dX8_lawSum_186 : decode cX8_lawSum 186 = .ok (.aload_n 0, 1) := by decide +kernel
theorem dX8_lawSum_187 : decode cX8_lawSum 187 = .ok (.getfield 99, 3) := by decide +kernel
theorem dX8_lawSum_190 : decode cX8_lawSum 190 = .ok (.getfield 151, 3) := by decide +kernel
theorem dX8_lawSum_193 : decode cX8_lawSum 193 = .ok (.iload 4, 2) := by decide +kernel
theorem dX8_lawSum_195 : decode cX8_lawSum 195 = .ok (.iaload, 1) := by decide +kernel
theorem dX8_lawSum_196 : decode cX8_lawSum 196 = .ok (.iload_n 1, 1) := by decide +kernel
theorem dX8_lawSum_197 : decode cX8_lawSum 197 = .ok (.if_icmp .ne 32, 3) := by decide +kernel
theorem dX8_lawSum_200 : decode cX8_lawSum 200 = .ok (.aload_n 0, 1) := by decide +kernel
theorem dX8_lawSum_201 : decode cX8_lawSum 201 = .ok (.getfield 99, 3) := by decide +kernel
theorem dX8_lawSum_204 : decode cX8_lawSum 204 = .ok (.iload 4, 2) := by decide +kernel
theorem dX8_lawSum_206 : decode cX8_lawSum 206 = .ok (.aload_n 0, 1) := by decide +kernel
theorem dX8_lawSum_207 : decode cX8_lawSum 207 = .ok (.getfield 53, 3) := by decide +kernel
theorem dX8_lawSum_210 : decode cX8_lawSum 210 = .ok (.invokevirtual 154, 3) := by decide +kernel
theorem dX8_lawSum_213 : decode cX8_lawSum 213 = .ok (.ifCond .eq 16, 3) := by decide +kernel
theorem dX8_lawSum_216 : decode cX8_lawSum 216 = .ok (.iload_n 3, 1) := by decide +kernel
theorem dX8_lawSum_217 : decode cX8_lawSum 217 = .ok (.aload_n 0, 1) := by decide +kernel
theorem dX8_lawSum_218 : decode cX8_lawSum 218 = .ok (.getfield 99, 3) := by decide +kernel
theorem dX8_lawSum_221 : decode cX8_lawSum 221 = .ok (.getfield 158, 3) := by decide +kernel
theorem dX8_lawSum_224 : decode cX8_lawSum 224 = .ok (.iload 4, 2) := by decide +kernel
theorem dX8_lawSum_226 : decode cX8_lawSum 226 = .ok (.iaload, 1) := by decide +kernel
theorem dX8_lawSum_227 : decode cX8_lawSum 227 = .ok (.iadd, 1) := by decide +kernel
theorem dX8_lawSum_228 : decode cX8_lawSum 228 = .ok (.istore_n 3, 1) := by decide +kernel
theorem dX8_lawSum_229 : decode cX8_lawSum 229 = .ok (.iinc 4 1, 3) := by decide +kernel
theorem dX8_lawSum_232 : decode cX8_lawSum 232 = .ok (.goto (-58), 3) := by decide +kernel
theorem dX8_lawSum_235 : decode cX8_lawSum 235 = .ok (.iload_n 3, 1) := by decide +kernel
theorem dX8_lawSum_236 : decode cX8_lawSum 236 = .ok (.ireturn, 1) := by decide +kernel
set_option maxHeartbeats 4000000 in
set_option maxRecDepth 100000 in
theorem ct_X8_lawSum0 {E : xE} {z : Nat} {T : Nat → Nat × Int} {F : Nat → Nat → Int} {I : Nat → Int → Int} {P : Nat → Nat → Option Nat} {Y : Nat → Int → Option Nat} {a : Nat} {w : Int → Int} (hS : SR T F I P Y a w) (hr : wRn w) {wh level : Nat} (hwh : wh ≤ 2) (hlv : level < 4) (hn : P a 16 = none) : Ct E 0 mX8_lawSum 0 0 [.ref a, J (10 + (wh : Int)), J (level : Int)] (z, T, F, I, P, Y) (xQ a (some (J (sSumOf w (wh : Int) (level : Int)))) z T F I P Y w) := by
  obtain ⟨⟨hO, hL, hTy⟩, hLw, ⟨π, hB⟩, hV, hLf⟩ := id hS
  obtain ⟨⟨⟨⟨s0, s1, s2, s3⟩, sR, ⟨s4, s5⟩, ⟨s6, sLv⟩, ⟨s7, s8⟩, ⟨s9, sJo⟩, s10, s11, s12⟩, p1, p2, p3, p4, p5⟩, ⟨⟨c1, c9, c10, c11, c12, c13, c14, c15⟩, hTl, j0, j1, j2⟩, hRn, hTb, hOt, hJo⟩ := id hB
  obtain ⟨hR, o0, o1, o2, o3, o4, o5, o6, oc, o13, o14, o16, o17, o18, ov⟩ := id hO
  have hN := wN_i o0.1
  refine Ct.of [some (.ref a), some (J (10 + (wh : Int))), some (J (level : Int)), none, none] kt_X8_lawSum rfl (Nat.le_of_ble_eq_true rfl) rfl (fun d hd => ?_)
  generalize hX : xN E _ _ _ = X
  refine xg_aloadn 1 dX8_lawSum_0 rfl rfl rfl ?_
  refine xg_get0 4 kf_RX8_99 dX8_lawSum_1 rfl (by assumption) (by assumption) ?_
  refine xg_ifn0 16 dX8_lawSum_4 rfl ?_
  refine xg_iconst 17 dX8_lawSum_16 rfl ?_
  subst hX
  exact xg_ireturn dX8_lawSum_17 rfl ⟨Nat.le_refl _, Nat.le_refl _⟩ ⟨congrArg (fun v => some (J v)) (by have h2 : w 2 = 0 := (by rcases hLw with ⟨-, h2⟩ | ⟨l, h2, -⟩; exact h2; rw [hn] at h2; cases h2); unfold sSumOf; rw [if_neg (by omega)]), F, I, P, Y, rfl, hS, SF.rf⟩

theorem facts10 {w u : Int → Int} {level c : Nat} (hd : sDebt w = sLeft w + sOwed w) (hc : c < 10) : (wS (wS (wS (wS (wS (wS (wS (wS (wS (wS u 0 (level : Int)) 1 (sMany w (level : Int))) 2 (sEntIn w (sRuns w (level : Int)))) 3 (sLeft w + sOwed w)) 4 (sEnt w 19)) 5 (w 4)) 6 (w 13 % 100)) 7 (w 16)) 8 (1 - w 3)) 9 (if w 5 ≤ sEnt w 19 then 1 else 0)) (c : Int) = sFact w (level : Int) (c : Int) 0 := by
  rw [← hd]
  rcases (show c = 0 ∨ c = 1 ∨ c = 2 ∨ c = 3 ∨ c = 4 ∨ c = 5 ∨ c = 6 ∨ c = 7 ∨ c = 8 ∨ c = 9 by omega) with h | h | h | h | h | h | h | h | h | h <;> subst h <;> rfl
set_option maxHeartbeats 4000000 in
set_option maxRecDepth 100000 in
theorem ct_X8_lawSum1 {E : xE} {z : Nat} {T : Nat → Nat × Int} {F : Nat → Nat → Int} {I : Nat → Int → Int} {P : Nat → Nat → Option Nat} {Y : Nat → Int → Option Nat} {a : Nat} {w : Int → Int} (hS : SR T F I P Y a w) (hr : wRn w) {wh level : Nat} (hwh : wh ≤ 2) (hlv : level < 4) {l : Nat} (hn : P a 16 = some l) : Ct E 1 mX8_lawSum 0 0 [.ref a, J (10 + (wh : Int)), J (level : Int)] (z, T, F, I, P, Y) (xQ a (some (J (sSumOf w (wh : Int) (level : Int)))) z T F I P Y w) := by
  obtain ⟨⟨hO, hL, hTy⟩, hLw, ⟨π, hB⟩, hV, hLf⟩ := id hS
  obtain ⟨⟨⟨⟨s0, s1, s2, s3⟩, sR, ⟨s4, s5⟩, ⟨s6, sLv⟩, ⟨s7, s8⟩, ⟨s9, sJo⟩, s10, s11, s12⟩, p1, p2, p3, p4, p5⟩, ⟨⟨c1, c9, c10, c11, c12, c13, c14, c15⟩, hTl, j0, j1, j2⟩, hRn, hTb, hOt, hJo⟩ := id hB
  obtain ⟨hR, o0, o1, o2, o3, o4, o5, o6, oc, o13, o14, o16, o17, o18, ov⟩ := id hO
  have hN := wN_i o0.1
  rcases hLw with ⟨h9, -⟩ | ⟨l2, h9, hW, hdj⟩
  · rw [hn] at h9; cases h9
  rw [hn] at h9; cases h9
  obtain ⟨l0, ⟨l1, l2, l3, l4⟩, ⟨m1, n1⟩, ⟨m2, n2⟩, ⟨m3, n3⟩, m4, n4⟩ := sLv
  obtain ⟨t0, t1, ⟨t2, t3, t4, t5, t6⟩, ⟨b1, k1⟩, ⟨b2, k2⟩, ⟨b3, k3⟩, ⟨b4, k4⟩, ⟨b5, k5⟩, e0, e1⟩ := id hW
  have hLL := hL t0
  have ht := sR (π 12) (p4 12 (by omega))
  have ht0 := ht.1
  have hht := hTb.n
  have het := sEnt_bd w 19
  have hown := sDebt_eq hr o0
  have hdb := sDebt_bd (w := w) o0.2
  have hv2 : I (a + 45 + 2) (level : Int) = sMany w (level : Int) := (hV.1 level hlv).2.1
  have hv3 : I (a + 45 + 3) (level : Int) = sEntIn w (sRuns w (level : Int)) := (hV.1 level hlv).2.2.1
  refine Ct.of [some (.ref a), some (J (10 + (wh : Int))), some (J (level : Int)), none, none] kt_X8_lawSum rfl (Nat.le_of_ble_eq_true rfl) rfl (fun d hd => ?_)
  generalize hX : xN E _ _ _ = X
  refine xg_aloadn 1 dX8_lawSum_0 rfl rfl rfl ?_
  refine xg_getP 4 kf_RX8_99 dX8_lawSum_1 rfl (by assumption) (by assumption) ?_
  skip
  refine xg_ifn 7 dX8_lawSum_4 rfl ?_
  refine xg_iloadn 8 dX8_lawSum_7 rfl rfl rfl ?_
  refine xg_iflt 16 11 dX8_lawSum_8 rfl rfl (by omega) (fun hb8 => ?_) (fun hb8 => ?_)
  · exfalso; omega
  · skip
    refine xg_iloadn 12 dX8_lawSum_11 rfl rfl rfl ?_
    refine xg_iconst 13 dX8_lawSum_12 rfl ?_
    refine xg_iclt 18 16 dX8_lawSum_13 rfl rfl (by omega) (fun hb13 => ?_) (fun hb13 => ?_)
    · skip
      refine xg_own1 (a + 56) ?_
      refine xg_aloadn 19 dX8_lawSum_18 rfl rfl rfl ?_
      refine xg_getP 22 kf_RX8_53 dX8_lawSum_19 rfl (by assumption) (by assumption) ?_
      refine xg_iconst 23 dX8_lawSum_22 rfl ?_
      refine xg_iloadn 24 dX8_lawSum_23 rfl rfl rfl ?_
      refine xg_iastW 25 dX8_lawSum_24 rfl (by assumption) (by omega) ?_
      skip
      refine xg_aloadn 26 dX8_lawSum_25 rfl rfl rfl ?_
      refine xg_getP 29 kf_RX8_53 dX8_lawSum_26 rfl (by assumption) (by assumption) ?_
      refine xg_iconst 30 dX8_lawSum_29 rfl ?_
      refine xg_aloadn 31 dX8_lawSum_30 rfl rfl rfl ?_
      refine xg_getP 34 kf_RX8_35 dX8_lawSum_31 rfl (by assumption) (by assumption) ?_
      refine xg_getP 37 kf_RX8_140 dX8_lawSum_34 rfl (by assumption) (by assumption) ?_
      refine xg_iloadn 38 dX8_lawSum_37 rfl rfl rfl ?_
      refine xg_iald 39 dX8_lawSum_38 rfl (by assumption) (by omega) ?_
      rw [upA_na _ _ _ (show _ ≠ a + 56 by omega)]
      rw [hv2]
      refine xg_iastW 40 dX8_lawSum_39 rfl (by assumption) (by omega) ?_
      refine xg_aloadn 41 dX8_lawSum_40 rfl rfl rfl ?_
      refine xg_getP 44 kf_RX8_53 dX8_lawSum_41 rfl (by assumption) (by assumption) ?_
      refine xg_iconst 45 dX8_lawSum_44 rfl ?_
      refine xg_aloadn 46 dX8_lawSum_45 rfl rfl rfl ?_
      refine xg_getP 49 kf_RX8_35 dX8_lawSum_46 rfl (by assumption) (by assumption) ?_
      refine xg_getP 52 kf_RX8_107 dX8_lawSum_49 rfl (by assumption) (by assumption) ?_
      refine xg_iloadn 53 dX8_lawSum_52 rfl rfl rfl ?_
      refine xg_iald 54 dX8_lawSum_53 rfl (by assumption) (by omega) ?_
      rw [upA_na _ _ _ (show _ ≠ a + 56 by omega)]
      rw [hv3]
      refine xg_iastW 55 dX8_lawSum_54 rfl (by assumption) (by omega) ?_
      refine xg_aloadn 56 dX8_lawSum_55 rfl rfl rfl ?_
      refine xg_getP 59 kf_RX8_53 dX8_lawSum_56 rfl (by assumption) (by assumption) ?_
      refine xg_iconst 60 dX8_lawSum_59 rfl ?_
      refine xg_aloadn 61 dX8_lawSum_60 rfl rfl rfl ?_
      refine xg_callV 64 8 [] _ kv_X8_debtNow ⟨_, _, rfl⟩ kl_RX8_129 dX8_lawSum_61 rfl (by assumption) (by omega) rfl rfl (Nat.le_of_ble_eq_true rfl) (by omega) ⟨Nat.le_refl _, Nat.le_refl _⟩ (ct_X8_debtNow (hS.lawI (fun b hb _ => upA_na _ _ _ hb))) rfl ?_
      refine xg_iastW 65 dX8_lawSum_64 rfl (by assumption) (by omega) ?_
      refine xg_aloadn 66 dX8_lawSum_65 rfl rfl rfl ?_
      refine xg_getP 69 kf_RX8_53 dX8_lawSum_66 rfl (by assumption) (by assumption) ?_
      refine xg_iconst 70 dX8_lawSum_69 rfl ?_
      refine xg_aloadn 71 dX8_lawSum_70 rfl rfl rfl ?_
      refine xg_getP 74 kf_RX8_18 dX8_lawSum_71 rfl (by assumption) (by assumption) ?_
      refine xg_getI 77 kf_RX8_117 dX8_lawSum_74 rfl (by assumption) ?_
      rw [hht]
      refine xg_iastW 78 dX8_lawSum_77 rfl (by assumption) (by omega) ?_
      refine xg_aloadn 79 dX8_lawSum_78 rfl rfl rfl ?_
      refine xg_getP 82 kf_RX8_53 dX8_lawSum_79 rfl (by assumption) (by assumption) ?_
      refine xg_iconst 83 dX8_lawSum_82 rfl ?_
      refine xg_aloadn 84 dX8_lawSum_83 rfl rfl rfl ?_
      refine xg_getI 87 kf_RX8_57 dX8_lawSum_84 rfl (by assumption) ?_
      rw [c10]
      refine xg_iastW 88 dX8_lawSum_87 rfl (by assumption) (by omega) ?_
      refine xg_aloadn 89 dX8_lawSum_88 rfl rfl rfl ?_
      refine xg_getP 92 kf_RX8_53 dX8_lawSum_89 rfl (by assumption) (by assumption) ?_
      refine xg_bipush 94 dX8_lawSum_92 rfl (by decide) ?_
      refine xg_aloadn 95 dX8_lawSum_94 rfl rfl rfl ?_
      refine xg_getI 98 kf_RX8_93 dX8_lawSum_95 rfl (by assumption) ?_
      rw [c13]
      refine xg_bipush 100 dX8_lawSum_98 rfl (by decide) ?_
      refine xg_irem 101 dX8_lawSum_100 rfl ⟨by omega, by omega, by omega, by omega⟩ ?_
      refine xg_iastW 102 dX8_lawSum_101 rfl (by assumption) (by omega) ?_
      refine xg_aloadn 103 dX8_lawSum_102 rfl rfl rfl ?_
      refine xg_getP 106 kf_RX8_53 dX8_lawSum_103 rfl (by assumption) (by assumption) ?_
      have join123 : ∀ (x : Int), (x = w 16) → xG E mX8_lawSum (xR d 0 0) X 123 [some (.ref a), some (J (10 + (wh : Int))), some (J (level : Int)), none, none] [J x, J 7, .ref (a + 56)] (z, T, F, upA I (a + 56) (wS (wS (wS (wS (wS (wS (wS (I (a + 56)) 0 (level : Int)) 1 (sMany w (level : Int))) 2 (sEntIn w (sRuns w (level : Int)))) 3 (sLeft w + sOwed w)) 4 (sEnt w 19)) 5 (w 4)) 6 (w 13 % 100)), P, Y) 0 0 := by
        intro x hx
        subst hx
        refine xg_iastW 124 dX8_lawSum_123 rfl (by assumption) (by omega) ?_
        refine xg_aloadn 125 dX8_lawSum_124 rfl rfl rfl ?_
        refine xg_getP 128 kf_RX8_53 dX8_lawSum_125 rfl (by assumption) (by assumption) ?_
        have join142 : ∀ (x : Int), (x = 1 - w 3) → xG E mX8_lawSum (xR d 0 0) X 142 [some (.ref a), some (J (10 + (wh : Int))), some (J (level : Int)), none, none] [J x, J 8, .ref (a + 56)] (z, T, F, upA I (a + 56) (wS (wS (wS (wS (wS (wS (wS (wS (I (a + 56)) 0 (level : Int)) 1 (sMany w (level : Int))) 2 (sEntIn w (sRuns w (level : Int)))) 3 (sLeft w + sOwed w)) 4 (sEnt w 19)) 5 (w 4)) 6 (w 13 % 100)) 7 (w 16)), P, Y) 0 0 := by
          intro x hx
          subst hx
          refine xg_iastW 143 dX8_lawSum_142 rfl (by assumption) (by omega) ?_
          refine xg_aloadn 144 dX8_lawSum_143 rfl rfl rfl ?_
          refine xg_getP 147 kf_RX8_53 dX8_lawSum_144 rfl (by assumption) (by assumption) ?_
          have join168 : ∀ (x : Int), (x = if w 5 ≤ sEnt w 19 then 1 else 0) → xG E mX8_lawSum (xR d 0 0) X 168 [some (.ref a), some (J (10 + (wh : Int))), some (J (level : Int)), none, none] [J x, J 9, .ref (a + 56)] (z, T, F, upA I (a + 56) (wS (wS (wS (wS (wS (wS (wS (wS (wS (I (a + 56)) 0 (level : Int)) 1 (sMany w (level : Int))) 2 (sEntIn w (sRuns w (level : Int)))) 3 (sLeft w + sOwed w)) 4 (sEnt w 19)) 5 (w 4)) 6 (w 13 % 100)) 7 (w 16)) 8 (1 - w 3)), P, Y) 0 0 := by
            intro x hx
            subst hx
            refine xg_iastW 169 dX8_lawSum_168 rfl (by assumption) (by omega) ?_
            refine xg_iconst 170 dX8_lawSum_169 rfl ?_
            refine xg_istoren 171 _ dX8_lawSum_170 rfl rfl rfl (by decide) (Or.inr rfl) ?_
            refine xg_iconst 172 dX8_lawSum_171 rfl ?_
            refine xg_istore 174 _ dX8_lawSum_172 rfl rfl (by decide) (Or.inr rfl) ?_
            have loop174 : ∀ (mm : Nat) (n : Nat) (I' : Nat → Int → Int), ((n : Int) ≤ w 1903) → (∀ b : Nat, b ≠ a + 56 → b ≠ l + 5 → I' b = I b) → (∀ c : Nat, c < 10 → I' (a + 56) (c : Int) = sFact w (level : Int) (c : Int) 0) → w 1903 - (n : Int) < (mm : Int) → xG E mX8_lawSum (xR d 0 0) X 174 [some (.ref a), some (J (10 + (wh : Int))), some (J (level : Int)), some (J (pSum (fSum w (wh : Int) (level : Int)) n)), some (J (n : Int))] [] (z, T, F, I', P, Y) 0 0 := by
              intro mm
              induction mm with
              | zero => intro n I' hn1 hI hfc hm; exfalso; omega
              | succ mm ih =>
                intro n I' hn1 hI hfc hm
                have hsb := pSumL_bd hL t0 (wh : Int) (level : Int) hn1
                refine xg_iload 176 dX8_lawSum_174 rfl rfl ?_
                refine xg_aloadn 177 dX8_lawSum_176 rfl rfl rfl ?_
                refine xg_getP 180 kf_RX8_99 dX8_lawSum_177 rfl (by assumption) (by assumption) ?_
                refine xg_getI 183 kf_RX8_146 dX8_lawSum_180 rfl (by assumption) ?_
                refine xg_icge 235 186 dX8_lawSum_183 rfl rfl (by omega) (fun hb183 => ?_) (fun hb183 => ?_)
                · skip
                  refine xg_iloadn 236 dX8_lawSum_235 rfl rfl rfl ?_
                  subst hX
                  exact xg_ireturn dX8_lawSum_236 rfl ⟨Nat.le_refl _, Nat.le_refl _⟩ ⟨congrArg (fun v => some (J v)) (by unfold sSumOf; rw [if_pos t0, show n = (w 1903).toNat by omega]), F, I', P, Y, rfl, hS.lawI (fun b h1 h2 => hI b h1 (h2 l hn)), SF.lawI (fun b h1 h2 => hI b h1 (h2 l hn))⟩
                · skip
                  refine xg_aloadn 187 dX8_lawSum_186 rfl rfl rfl ?_
                  refine xg_getP 190 kf_RX8_99 dX8_lawSum_187 rfl (by assumption) (by assumption) ?_
                  refine xg_getP 193 kf_RX8_151 dX8_lawSum_190 rfl (by assumption) (by assumption) ?_
                  refine xg_iload 195 dX8_lawSum_193 rfl rfl ?_
                  refine xg_iald 196 dX8_lawSum_195 rfl (by assumption) (by omega) ?_
                  rw [hI (l + 1) (by omega) (by omega)]
                  obtain ⟨y1, y2, -⟩ := e1 n (by omega)
                  have hln := (hLL.2 n (by omega)).1
                  rw [y1]
                  refine xg_iloadn 197 dX8_lawSum_196 rfl rfl rfl ?_
                  refine xg_icne 229 200 dX8_lawSum_197 rfl rfl (by omega) (fun hb197 => ?_) (fun hb197 => ?_)
                  · skip
                    refine xg_iinc 232 _ dX8_lawSum_229 rfl rfl rfl rfl (by decide) (Or.inr rfl) ?_
                    refine xg_goto 174 dX8_lawSum_232 rfl ?_
                    exact xg_weak _ (xle_s rfl (xle_s rfl (xle_s rfl (xle_s (by rw [pSum_s]; unfold fSum; rw [if_neg (by omega), Int.add_zero]) (xle_s rfl xle_0))))) (ih (n + 1) I' (by omega) hI hfc (by omega))
                  · skip
                    refine xg_aloadn 201 dX8_lawSum_200 rfl rfl rfl ?_
                    refine xg_getP 204 kf_RX8_99 dX8_lawSum_201 rfl (by assumption) (by assumption) ?_
                    refine xg_iload 206 dX8_lawSum_204 rfl rfl ?_
                    refine xg_aloadn 207 dX8_lawSum_206 rfl rfl rfl ?_
                    refine xg_getP 210 kf_RX8_53 dX8_lawSum_207 rfl (by assumption) (by assumption) ?_
                    refine xg_callVu 213 3 [_, _] _ kv_X3_holds ⟨_, _, rfl⟩ kl_RX8_154 dX8_lawSum_210 rfl (by assumption) (by omega) rfl rfl (Nat.le_of_ble_eq_true rfl) (by omega) ⟨Nat.le_refl _, Nat.le_refl _⟩ (ct_X3_holds (hW.heap rfl (hI _ (by omega) (by omega)) (hI _ (by omega) (by omega)) (hI _ (by omega) (by omega)) (hI _ (by omega) (by omega))) hO (by omega) (hLL.2 n (by omega)) (hTy t0 n (by omega)) (by omega) ⟨by assumption, by assumption, by omega⟩ hfc) rfl (fun u9 => ?_)
                    refine xg_beq 229 216 dX8_lawSum_213 rfl rfl (fun hb213 => ?_) (fun hb213 => ?_)
                    · skip
                      refine xg_iinc 232 _ dX8_lawSum_229 rfl rfl rfl rfl (by decide) (Or.inr rfl) ?_
                      refine xg_goto 174 dX8_lawSum_232 rfl ?_
                      exact xg_weak _ (xle_s rfl (xle_s rfl (xle_s rfl (xle_s (by rw [pSum_s]; unfold fSum; rw [if_pos (by omega), if_neg (by rw [hb213]; decide), Int.add_zero]) (xle_s rfl xle_0))))) (ih (n + 1) _ (by omega) (fun b h1 h2 => by rw [upA_na _ _ _ h2]; exact hI b h1 h2) (fun c hc => by rw [upA_na _ _ _ (by omega)]; exact hfc c hc) (by omega))
                    · skip
                      refine xg_iloadn 217 dX8_lawSum_216 rfl rfl rfl ?_
                      refine xg_aloadn 218 dX8_lawSum_217 rfl rfl rfl ?_
                      refine xg_getP 221 kf_RX8_99 dX8_lawSum_218 rfl (by assumption) (by assumption) ?_
                      refine xg_getP 224 kf_RX8_158 dX8_lawSum_221 rfl (by assumption) (by assumption) ?_
                      refine xg_iload 226 dX8_lawSum_224 rfl rfl ?_
                      refine xg_iald 227 dX8_lawSum_226 rfl (by assumption) (by omega) ?_
                      rw [upA_na _ _ _ (show l + 2 ≠ l + 5 by omega), hI (l + 2) (by omega) (by omega), y2]
                      refine xg_iadd 228 dX8_lawSum_227 rfl ?_
                      refine xg_istoren 229 _ dX8_lawSum_228 rfl rfl rfl (by decide) (Or.inr rfl) ?_
                      refine xg_iinc 232 _ dX8_lawSum_229 rfl rfl rfl rfl (by decide) (Or.inr rfl) ?_
                      refine xg_goto 174 dX8_lawSum_232 rfl ?_
                      exact xg_weak _ (xle_s rfl (xle_s rfl (xle_s rfl (xle_s (by rw [pSum_s]; unfold fSum; rw [if_pos (by omega), if_pos hb213]) (xle_s rfl xle_0))))) (ih (n + 1) _ (by omega) (fun b h1 h2 => by rw [upA_na _ _ _ h2]; exact hI b h1 h2) (fun c hc => by rw [upA_na _ _ _ (by omega)]; exact hfc c hc) (by omega))
            exact xg_weak _ (xle_s rfl (xle_s rfl (xle_s rfl (xle_s rfl (xle_s rfl xle_0))))) (loop174 14 0 _ (by omega) (fun b h1 h2 => upA_na _ _ _ h1) (fun c hc => by rw [upA_at]; exact facts10 hown hc) (by omega))
          refine xg_bipush 149 dX8_lawSum_147 rfl (by decide) ?_
          refine xg_aloadn 150 dX8_lawSum_149 rfl rfl rfl ?_
          refine xg_getP 153 kf_RX8_18 dX8_lawSum_150 rfl (by assumption) (by assumption) ?_
          refine xg_getI 156 kf_RX8_117 dX8_lawSum_153 rfl (by assumption) ?_
          refine xg_aloadn 157 dX8_lawSum_156 rfl rfl rfl ?_
          refine xg_getI 160 kf_RX8_61 dX8_lawSum_157 rfl (by assumption) ?_
          refine xg_iclt 167 163 dX8_lawSum_160 rfl rfl (by omega) (fun hb160 => ?_) (fun hb160 => ?_)
          · skip
            refine xg_iconst 168 dX8_lawSum_167 rfl ?_
            refine join168 _ ?_
            first | omega | (rw [if_pos (by omega)]) | (rw [if_neg (by omega)])
          · skip
            refine xg_iconst 164 dX8_lawSum_163 rfl ?_
            refine xg_goto 168 dX8_lawSum_164 rfl ?_
            refine join168 _ ?_
            first | omega | (rw [if_pos (by omega)]) | (rw [if_neg (by omega)])
        refine xg_bipush 130 dX8_lawSum_128 rfl (by decide) ?_
        refine xg_aloadn 131 dX8_lawSum_130 rfl rfl rfl ?_
        refine xg_getI 134 kf_RX8_89 dX8_lawSum_131 rfl (by assumption) ?_
        refine xg_ifeq 141 137 dX8_lawSum_134 rfl rfl (by omega) (fun hb134 => ?_) (fun hb134 => ?_)
        · skip
          refine xg_iconst 142 dX8_lawSum_141 rfl ?_
          refine join142 _ ?_
          first | omega | (rw [if_pos (by omega)]) | (rw [if_neg (by omega)])
        · skip
          refine xg_iconst 138 dX8_lawSum_137 rfl ?_
          refine xg_goto 142 dX8_lawSum_138 rfl ?_
          refine join142 _ ?_
          first | omega | (rw [if_pos (by omega)]) | (rw [if_neg (by omega)])
      refine xg_bipush 108 dX8_lawSum_106 rfl (by decide) ?_
      refine xg_aloadn 109 dX8_lawSum_108 rfl rfl rfl ?_
      refine xg_getP 112 kf_RX8_28 dX8_lawSum_109 rfl (by assumption) (by assumption) ?_
      refine xg_getI 115 kf_RX8_143 dX8_lawSum_112 rfl (by assumption) ?_
      refine xg_ifeq 122 118 dX8_lawSum_115 rfl rfl (by omega) (fun hb115 => ?_) (fun hb115 => ?_)
      · skip
        refine xg_iconst 123 dX8_lawSum_122 rfl ?_
        refine join123 _ ?_
        first | omega | (rw [if_pos (by omega)]) | (rw [if_neg (by omega)])
      · skip
        refine xg_iconst 119 dX8_lawSum_118 rfl ?_
        refine xg_goto 123 dX8_lawSum_119 rfl ?_
        refine join123 _ ?_
        first | omega | (rw [if_pos (by omega)]) | (rw [if_neg (by omega)])
    · exfalso; omega

theorem ct_X8_lawSum {E : xE} {z : Nat} {T : Nat → Nat × Int} {F : Nat → Nat → Int} {I : Nat → Int → Int} {P : Nat → Nat → Option Nat} {Y : Nat → Int → Option Nat} {a : Nat} {w : Int → Int} (hS : SR T F I P Y a w) (hr : wRn w) {wh level : Nat} (hwh : wh ≤ 2) (hlv : level < 4) : Ct E 1 mX8_lawSum 0 0 [.ref a, J (10 + (wh : Int)), J (level : Int)] (z, T, F, I, P, Y) (xQ a (some (J (sSumOf w (wh : Int) (level : Int)))) z T F I P Y w) := by
  cases hn : P a 16 with
  | none => exact fun d hd => ct_X8_lawSum0 hS hr hwh hlv hn d (by omega)
  | some l => exact ct_X8_lawSum1 hS hr hwh hlv hn
