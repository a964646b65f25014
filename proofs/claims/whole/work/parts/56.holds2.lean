theorem dX3_holds_0 : decode cX3_holds 0 = .ok (.iload_n 1, 1) := by decide +kernel
theorem dX3_holds_1 : decode cX3_holds 1 = .ok (.ifCond .lt 28, 3) := by decide +kernel
theorem dX3_holds_4 : decode cX3_holds 4 = .ok (.iload_n 1, 1) := by decide +kernel
theorem dX3_holds_5 : decode cX3_holds 5 = .ok (.aload_n 0, 1) := by decide +kernel
theorem dX3_holds_6 : decode cX3_holds 6 = .ok (.getfield 16, 3) := by decide +kernel
theorem dX3_holds_9 : decode cX3_holds 9 = .ok (.if_icmp .ge 20, 3) := by decide +kernel
theorem dX3_holds_12 : decode cX3_holds 12 = .ok (.aload_n 0, 1) := by decide +kernel
theorem dX3_holds_13 : decode cX3_holds 13 = .ok (.getfield 29, 3) := by decide +kernel
theorem dX3_holds_16 : decode cX3_holds 16 = .ok (.iload_n 1, 1) := by decide +kernel
theorem dX3_holds_17 : decode cX3_holds 17 = .ok (.iaload, 1) := by decide +kernel
theorem dX3_holds_18 : decode cX3_holds 18 = .ok (.aload_n 0, 1) := by decide +kernel
theorem dX3_holds_19 : decode cX3_holds 19 = .ok (.getfield 29, 3) := by decide +kernel
theorem dX3_holds_22 : decode cX3_holds 22 = .ok (.iload_n 1, 1) := by decide +kernel
theorem dX3_holds_23 : decode cX3_holds 23 = .ok (.iconst 1, 1) := by decide +kernel
theorem dX3_holds_24 : decode cX3_holds 24 = .ok (.iadd, 1) := by decide +kernel
theorem dX3_holds_25 : decode cX3_holds 25 = .ok (.iaload, 1) := by decide +kernel
theorem dX3_holds_26 : decode cX3_holds 26 = .ok (.if_icmp .lt 5, 3) := by decide +kernel
theorem dX3_holds_29 : decode cX3_holds 29 = .ok (.iconst 1, 1) := by decide +kernel
theorem dX3_holds_30 : decode cX3_holds 30 = .ok (.ireturn, 1) := by decide +kernel
theorem dX3_holds_31 : decode cX3_holds 31 = .ok (.iconst 0, 1) := by decide +kernel
theorem dX3_holds_32 : decode cX3_holds 32 = .ok (.istore_n 3, 1) := by decide +kernel
theorem dX3_holds_33 : decode cX3_holds 33 = .ok (.aload_n 0, 1) := by decide +kernel
theorem dX3_holds_34 : decode cX3_holds 34 = .ok (.getfield 29, 3) := by decide +kernel
theorem dX3_holds_37 : decode cX3_holds 37 = .ok (.iload_n 1, 1) := by decide +kernel
theorem dX3_holds_38 : decode cX3_holds 38 = .ok (.iaload, 1) := by decide +kernel
theorem dX3_holds_39 : decode cX3_holds 39 = .ok (.istore 4, 2) := by decide +kernel
theorem dX3_holds_41 : decode cX3_holds 41 = .ok (.iload 4, 2) := by decide +kernel
theorem dX3_holds_43 : decode cX3_holds 43 = .ok (.aload_n 0, 1) := by decide +kernel
theorem dX3_holds_44 : decode cX3_holds 44 = .ok (.getfield 29, 3) := by decide +kernel
theorem dX3_holds_47 : decode cX3_holds 47 = .ok (.iload_n 1, 1) := by decide +kernel
theorem dX3_holds_48 : decode cX3_holds 48 = .ok (.iconst 1, 1) := by decide +kernel
theorem dX3_holds_49 : decode cX3_holds 49 = .ok (.iadd, 1) := by decide +kernel
theorem dX3_holds_50 : decode cX3_holds 50 = .ok (.iaload, 1) := by decide +kernel
theorem dX3_holds_51 : decode cX3_holds 51 = .ok (.if_icmp .ge 282, 3) := by decide +kernel
theorem dX3_holds_54 : decode cX3_holds 54 = .ok (.iload 4, 2) := by decide +kernel
theorem dX3_holds_56 : decode cX3_holds 56 = .ok (.aload_n 0, 1) := by decide +kernel
theorem dX3_holds_57 : decode cX3_holds 57 = .ok (.getfield 38, 3) := by decide +kernel
theorem dX3_holds_60 : decode cX3_holds 60 = .ok (.arraylength, 1) := by decide +kernel
theorem dX3_holds_61 : decode cX3_holds 61 = .ok (.if_icmp .ge 272, 3) := by decide +kernel
theorem dX3_holds_64 : decode cX3_holds 64 = .ok (.aload_n 0, 1) := by decide +kernel
theorem dX3_holds_65 : decode cX3_holds 65 = .ok (.getfield 38, 3) := by decide +kernel
theorem dX3_holds_68 : decode cX3_holds 68 = .ok (.iload 4, 2) := by decide +kernel
theorem dX3_holds_70 : decode cX3_holds 70 = .ok (.iaload, 1) := by decide +kernel
theorem dX3_holds_71 : decode cX3_holds 71 = .ok (.istore 5, 2) := by decide +kernel
theorem dX3_holds_73 : decode cX3_holds 73 = .ok (.iload 5, 2) := by decide +kernel
theorem dX3_holds_75 : decode cX3_holds 75 = .ok (.ifCond .ge 10, 3) := by decide +kernel
theorem dX3_holds_78 : decode cX3_holds 78 = .ok (.iload 5, 2) := by decide +kernel
theorem dX3_holds_80 : decode cX3_holds 80 = .ok (.bipush (-10), 2) := by decide +kernel
theorem dX3_holds_82 : decode cX3_holds 82 = .ok (.if_icmp .gt 53, 3) := by decide +kernel
theorem dX3_holds_85 : decode cX3_holds 85 = .ok (.iload_n 3, 1) := by decide +kernel
theorem dX3_holds_86 : decode cX3_holds 86 = .ok (.aload_n 0, 1) := by decide +kernel
theorem dX3_holds_87 : decode cX3_holds 87 = .ok (.getfield 41, 3) := by decide +kernel
theorem dX3_holds_90 : decode cX3_holds 90 = .ok (.arraylength, 1) := by decide +kernel
theorem dX3_holds_91 : decode cX3_holds 91 = .ok (.if_icmp .ge 13, 3) := by decide +kernel
theorem dX3_holds_94 : decode cX3_holds 94 = .ok (.bipush (-10), 2) := by decide +kernel
theorem dX3_holds_96 : decode cX3_holds 96 = .ok (.iload 5, 2) := by decide +kernel
theorem dX3_holds_98 : decode cX3_holds 98 = .ok (.isub, 1) := by decide +kernel
theorem dX3_holds_99 : decode cX3_holds 99 = .ok (.aload_n 2, 1) := by decide +kernel
theorem dX3_holds_100 : decode cX3_holds 100 = .ok (.arraylength, 1) := by decide +kernel
theorem dX3_holds_101 : decode cX3_holds 101 = .ok (.if_icmp .lt 5, 3) := by decide +kernel
theorem dX3_holds_104 : decode cX3_holds 104 = .ok (.iconst 0, 1) := by decide +kernel
theorem dX3_holds_105 : decode cX3_holds 105 = .ok (.ireturn, 1) := by decide +kernel
theorem dX3_holds_106 : decode cX3_holds 106 = .ok (.aload_n 0, 1) := by decide +kernel
theorem dX3_holds_107 : decode cX3_holds 107 = .ok (.getfield 41, 3) := by decide +kernel
theorem dX3_holds_110 : decode cX3_holds 110 = .ok (.iload_n 3, 1) := by decide +kernel
theorem dX3_holds_111 : decode cX3_holds 111 = .ok (.iload 5, 2) := by decide +kernel
theorem dX3_holds_113 : decode cX3_holds 113 = .ok (.ifCond .lt 8, 3) := by decide +kernel
theorem dX3_holds_116 : decode cX3_holds 116 = .ok (.iload 5, 2) := by decide +kernel
theorem dX3_holds_118 : decode cX3_holds 118 = .ok (.goto 10, 3) := by decide +kernel
theorem dX3_holds_121 : decode cX3_holds 121 = .ok (.aload_n 2, 1) := by decide +kernel
theorem dX3_holds_122 : decode cX3_holds 122 = .ok (.bipush (-10), 2) := by decide +kernel
theorem dX3_holds_124 : decode cX3_holds 124 = .ok (.iload 5, 2) := by decide +kernel
theorem dX3_holds_126 : decode cX3_holds 126 = .ok (.isub, 1) := by decide +kernel
theorem dX3_holds_127 : decode cX3_holds 127 = .ok (.iaload, 1) := by decide +kernel
theorem dX3_holds_128 : decode cX3_holds 128 = .ok (.iastore, 1) := by decide +kernel
theorem dX3_holds_129 : decode cX3_holds 129 = .ok (.iinc 3 1, 3) := by decide +kernel
theorem dX3_holds_132 : decode cX3_holds 132 = .ok (.goto 195, 3) := by decide +kernel
theorem dX3_holds_135 : decode cX3_holds 135 = .ok (.iload 5, 2) := by decide +kernel
theorem dX3_holds_137 : decode cX3_holds 137 = .ok (.bipush (-3), 2) := by decide +kernel
theorem dX3_holds_139 : decode cX3_holds 139 = .ok (.if_icmp .ne 28, 3) := by decide +kernel
theorem dX3_holds_142 : decode cX3_holds 142 = .ok (.iload_n 3, 1) := by decide +kernel
theorem dX3_holds_143 : decode cX3_holds 143 = .ok (.ifCond .le 24, 3) := by decide +kernel
theorem dX3_holds_146 : decode cX3_holds 146 = .ok (.aload_n 0, 1) := by decide +kernel
theorem dX3_holds_147 : decode cX3_holds 147 = .ok (.getfield 41, 3) := by decide +kernel
theorem dX3_holds_150 : decode cX3_holds 150 = .ok (.iload_n 3, 1) := by decide +kernel
theorem dX3_holds_151 : decode cX3_holds 151 = .ok (.iconst 1, 1) := by decide +kernel
theorem dX3_holds_152 : decode cX3_holds 152 = .ok (.isub, 1) := by decide +kernel
theorem dX3_holds_153 : decode cX3_holds 153 = .ok (.iconst 1, 1) := by decide +kernel
theorem dX3_holds_154 : decode cX3_holds 154 = .ok (.aload_n 0, 1) := by decide +kernel
theorem dX3_holds_155 : decode cX3_holds 155 = .ok (.getfield 41, 3) := by decide +kernel
theorem dX3_holds_158 : decode cX3_holds 158 = .ok (.iload_n 3, 1) := by decide +kernel
theorem dX3_holds_159 : decode cX3_holds 159 = .ok (.iconst 1, 1) := by decide +kernel
theorem dX3_holds_160 : decode cX3_holds 160 = .ok (.isub, 1) := by decide +kernel
theorem dX3_holds_161 : decode cX3_holds 161 = .ok (.iaload, 1) := by decide +kernel
theorem dX3_holds_162 : decode cX3_holds 162 = .ok (.isub, 1) := by decide +kernel
theorem dX3_holds_163 : decode cX3_holds 163 = .ok (.iastore, 1) := by decide +kernel
theorem dX3_holds_164 : decode cX3_holds 164 = .ok (.goto 163, 3) := by decide +kernel
theorem dX3_holds_167 : decode cX3_holds 167 = .ok (.iload 5, 2) := by decide +kernel
theorem dX3_holds_169 : decode cX3_holds 169 = .ok (.bipush (-3), 2) := by decide +kernel
theorem dX3_holds_171 : decode cX3_holds 171 = .ok (.if_icmp .eq 156, 3) := by decide +kernel
theorem dX3_holds_174 : decode cX3_holds 174 = .ok (.iload_n 3, 1) := by decide +kernel
theorem dX3_holds_175 : decode cX3_holds 175 = .ok (.iconst 1, 1) := by decide +kernel
theorem dX3_holds_176 : decode cX3_holds 176 = .ok (.if_icmp .le 151, 3) := by decide +kernel
theorem dX3_holds_179 : decode cX3_holds 179 = .ok (.iinc 3 (-1), 3) := by decide +kernel
theorem dX3_holds_182 : decode cX3_holds 182 = .ok (.aload_n 0, 1) := by decide +kernel
theorem dX3_holds_183 : decode cX3_holds 183 = .ok (.getfield 41, 3) := by decide +kernel
theorem dX3_holds_186 : decode cX3_holds 186 = .ok (.iload_n 3, 1) := by decide +kernel
theorem dX3_holds_187 : decode cX3_holds 187 = .ok (.iconst 1, 1) := by decide +kernel
theorem dX3_holds_188 : decode cX3_holds 188 = .ok (.isub, 1) := by decide +kernel
theorem dX3_holds_189 : decode cX3_holds 189 = .ok (.iaload, 1) := by decide +kernel
theorem dX3_holds_190 : decode cX3_holds 190 = .ok (.istore 6, 2) := by decide +kernel
theorem dX3_holds_192 : decode cX3_holds 192 = .ok (.aload_n 0, 1) := by decide +kernel
theorem dX3_holds_193 : decode cX3_holds 193 = .ok (.getfield 41, 3) := by decide +kernel
theorem dX3_holds_196 : decode cX3_holds 196 = .ok (.iload_n 3, 1) := by decide +kernel
theorem dX3_holds_197 : decode cX3_holds 197 = .ok (.iaload, 1) := by decide +kernel
theorem dX3_holds_198 : decode cX3_holds 198 = .ok (.istore 7, 2) := by decide +kernel
theorem dX3_holds_200 : decode cX3_holds 200 = .ok (.iload 5, 2) := by decide +kernel
theorem dX3_holds_202 : decode cX3_holds 202 = .ok (.tableswitch 105 (-5) (-1) #[82, 66, 105, 50, 34], 34) := by decide +kernel
theorem dX3_holds_236 : decode cX3_holds 236 = .ok (.aload_n 0, 1) := by decide +kernel
theorem dX3_holds_237 : decode cX3_holds 237 = .ok (.getfield 41, 3) := by decide +kernel
theorem dX3_holds_240 : decode cX3_holds 240 = .ok (.iload_n 3, 1) := by decide +kernel
theorem dX3_holds_241 : decode cX3_holds 241 = .ok (.iconst 1, 1) := by decide +kernel
theorem dX3_holds_242 : decode cX3_holds 242 = .ok (.isub, 1) := by decide +kernel
theorem dX3_holds_243 : decode cX3_holds 243 = .ok (.iload 6, 2) := by decide +kernel
theorem dX3_holds_245 : decode cX3_holds 245 = .ok (.iload 7, 2) := by decide +kernel
theorem dX3_holds_247 : decode cX3_holds 247 = .ok (.iand, 1) := by decide +kernel
theorem dX3_holds_248 : decode cX3_holds 248 = .ok (.iastore, 1) := by decide +kernel
theorem dX3_holds_249 : decode cX3_holds 249 = .ok (.goto 78, 3) := by decide +kernel
theorem dX3_holds_252 : decode cX3_holds 252 = .ok (.aload_n 0, 1) := by decide +kernel
theorem dX3_holds_253 : decode cX3_holds 253 = .ok (.getfield 41, 3) := by decide +kernel
theorem dX3_holds_256 : decode cX3_holds 256 = .ok (.iload_n 3, 1) := by decide +kernel
theorem dX3_holds_257 : decode cX3_holds 257 = .ok (.iconst 1, 1) := by decide +kernel
theorem dX3_holds_258 : decode cX3_holds 258 = .ok (.isub, 1) := by decide +kernel
theorem dX3_holds_259 : decode cX3_holds 259 = .ok (.iload 6, 2) := by decide +kernel
theorem dX3_holds_261 : decode cX3_holds 261 = .ok (.iload 7, 2) := by decide +kernel
theorem dX3_holds_263 : decode cX3_holds 263 = .ok (.ior, 1) := by decide +kernel
theorem dX3_holds_264 : decode cX3_holds 264 = .ok (.iastore, 1) := by decide +kernel
theorem dX3_holds_265 : decode cX3_holds 265 = .ok (.goto 62, 3) := by decide +kernel
theorem dX3_holds_268 : decode cX3_holds 268 = .ok (.aload_n 0, 1) := by decide +kernel
theorem dX3_holds_269 : decode cX3_holds 269 = .ok (.getfield 41, 3) := by decide +kernel
theorem dX3_holds_272 : decode cX3_holds 272 = .ok (.iload_n 3, 1) := by decide +kernel
theorem dX3_holds_273 : decode cX3_holds 273 = .ok (.iconst 1, 1) := by decide +kernel
theorem dX3_holds_274 : decode cX3_holds 274 = .ok (.isub, 1) := by decide +kernel
theorem dX3_holds_275 : decode cX3_holds 275 = .ok (.iload 6, 2) := by decide +kernel
theorem dX3_holds_277 : decode cX3_holds 277 = .ok (.iload 7, 2) := by decide +kernel
theorem dX3_holds_279 : decode cX3_holds 279 = .ok (.iadd, 1) := by decide +kernel
theorem dX3_holds_280 : decode cX3_holds 280 = .ok (.iastore, 1) := by decide +kernel
theorem dX3_holds_281 : decode cX3_holds 281 = .ok (.goto 46, 3) := by decide +kernel
theorem dX3_holds_284 : decode cX3_holds 284 = .ok (.aload_n 0, 1) := by decide +kernel
theorem dX3_holds_285 : decode cX3_holds 285 = .ok (.getfield 41, 3) := by decide +kernel
theorem dX3_holds_288 : decode cX3_holds 288 = .ok (.iload_n 3, 1) := by decide +kernel
theorem dX3_holds_289 : decode cX3_holds 289 = .ok (.iconst 1, 1) := by decide +kernel
theorem dX3_holds_290 : decode cX3_holds 290 = .ok (.isub, 1) := by decide +kernel
theorem dX3_holds_291 : decode cX3_holds 291 = .ok (.iload 6, 2) := by decide +kernel
theorem dX3_holds_293 : decode cX3_holds 293 = .ok (.iload 7, 2) := by decide +kernel
theorem dX3_holds_295 : decode cX3_holds 295 = .ok (.if_icmp .ge 7, 3) := by decide +kernel
theorem dX3_holds_298 : decode cX3_holds 298 = .ok (.iconst 1, 1) := by decide +kernel
theorem dX3_holds_299 : decode cX3_holds 299 = .ok (.goto 4, 3) := by decide +kernel
theorem dX3_holds_302 : decode cX3_holds 302 = .ok (.iconst 0, 1) := by decide +kernel
theorem dX3_holds_303 : decode cX3_holds 303 = .ok (.iastore, 1) := by decide +kernel
theorem dX3_holds_304 : decode cX3_holds 304 = .ok (.goto 23, 3) := by decide +kernel
theorem dX3_holds_307 : decode cX3_holds 307 = .ok (.aload_n 0, 1) := by decide +kernel
theorem dX3_holds_308 : decode cX3_holds 308 = .ok (.getfield 41, 3) := by decide +kernel
theorem dX3_holds_311 : decode cX3_holds 311 = .ok (.iload_n 3, 1) := by decide +kernel
theorem dX3_holds_312 : decode cX3_holds 312 = .ok (.iconst 1, 1) := by decide +kernel
theorem dX3_holds_313 : decode cX3_holds 313 = .ok (.isub, 1) := by decide +kernel
theorem dX3_holds_314 : decode cX3_holds 314 = .ok (.iload 6, 2) := by decide +kernel
theorem dX3_holds_316 : decode cX3_holds 316 = .ok (.iload 7, 2) := by decide +kernel
theorem dX3_holds_318 : decode cX3_holds 318 = .ok (.if_icmp .le 7, 3) := by decide +kernel
theorem dX3_holds_321 : decode cX3_holds 321 = .ok (.iconst 1, 1) := by decide +kernel
theorem dX3_holds_322 : decode cX3_holds 322 = .ok (.goto 4, 3) := by decide +kernel
theorem dX3_holds_325 : decode cX3_holds 325 = .ok (.iconst 0, 1) := by decide +kernel
theorem dX3_holds_326 : decode cX3_holds 326 = .ok (.iastore, 1) := by decide +kernel
theorem dX3_holds_327 : decode cX3_holds 327 = .ok (.iinc 4 1, 3) := by decide +kernel
theorem dX3_holds_330 : decode cX3_holds 330 = .ok (.goto (-289), 3) := by decide +kernel
theorem dX3_holds_333 : decode cX3_holds 333 = .ok (.aload_n 0, 1) := by decide +kernel
theorem dX3_holds_334 : decode cX3_holds 334 = .ok (.getfield 41, 3) := by decide +kernel
theorem dX3_holds_337 : decode cX3_holds 337 = .ok (.iconst 0, 1) := by decide +kernel
theorem dX3_holds_338 : decode cX3_holds 338 = .ok (.iaload, 1) := by decide +kernel
theorem dX3_holds_339 : decode cX3_holds 339 = .ok (.ifCond .eq 7, 3) := by decide +kernel
theorem dX3_holds_342 : decode cX3_holds 342 = .ok (.iconst 1, 1) := by decide +kernel
theorem dX3_holds_343 : decode cX3_holds 343 = .ok (.goto 4, 3) := by decide +kernel
theorem dX3_holds_346 : decode cX3_holds 346 = .ok (.iconst 0, 1) := by decide +kernel
theorem dX3_holds_347 : decode cX3_holds 347 = .ok (.ireturn, 1) := by decide +kernel
set_option maxHeartbeats 4000000 in
set_option maxRecDepth 100000 in
theorem ct_X3_holds {E : xE} {z : Nat} {T : Nat → Nat × Int} {F : Nat → Nat → Int} {I : Nat → Int → Int} {P : Nat → Nat → Option Nat} {Y : Nat → Int → Option Nat} {l n fa : Nat} {w : Int → Int} {level : Int} (hW : rLaw T F I P l w) (hO : wOk w) (hn : (n : Int) < w 1903 ∧ w 1903 ≤ 12) (hLn : wLine w n) (hTy : wFrom w n = wTo w n ∨ cTy (wLcode w n) [] = some [true]) (hl : 0 ≤ level ∧ level < 4) (hfa : (T fa).1 = 14 ∧ (T fa).2 = 10 ∧ fa ≠ l + 5) (hf : ∀ c : Nat, c < 10 → I fa (c : Int) = sFact w level (c : Int) 0) : Ct E 0 mX3_holds 0 0 [.ref l, J (n : Int), .ref fa] (z, T, F, I, P, Y) (fun v h2 => v = some (J (bI (sHolds w n level))) ∧ ∃ u, h2 = (z, T, F, upA I (l + 5) u, P, Y)) := by
  obtain ⟨a0, a1, ⟨a2, a3, a4, a5, a6⟩, ⟨b1, k1⟩, ⟨b2, k2⟩, ⟨b3, k3⟩, ⟨b4, k4⟩, ⟨b5, k5⟩, e0, e1⟩ := id hW
  obtain ⟨e2, e3, e4, e5, e6, e7⟩ := e1 n hn.1
  obtain ⟨f1, f2, f3⟩ := hfa
  obtain ⟨-, -, g3, g4, -⟩ := hLn
  obtain ⟨fr, hfr⟩ : ∃ fr : Nat, (fr : Int) = wFrom w n := ⟨(wFrom w n).toNat, by omega⟩
  obtain ⟨to, hto⟩ : ∃ to : Nat, (to : Int) = wTo w n := ⟨(wTo w n).toNat, by omega⟩
  refine Ct.of [some (.ref l), some (J (n : Int)), some (.ref fa), none, none, none, none, none] kt_X3_holds rfl (Nat.le_of_ble_eq_true rfl) rfl (fun d hd => ?_)
  generalize hX : xN E _ _ _ = X
  refine xg_iloadn 1 dX3_holds_0 rfl rfl rfl ?_
  refine xg_iflt 29 4 dX3_holds_1 rfl rfl (by omega) (fun hb1 => ?_) (fun hb1 => ?_)
  · exfalso; omega
  · skip
    refine xg_iloadn 5 dX3_holds_4 rfl rfl rfl ?_
    refine xg_aloadn 6 dX3_holds_5 rfl rfl rfl ?_
    refine xg_getI 9 kf_RX3_16 dX3_holds_6 rfl (by assumption) ?_
    refine xg_icge 29 12 dX3_holds_9 rfl rfl (by omega) (fun hb9 => ?_) (fun hb9 => ?_)
    · skip
      refine xg_iconst 30 dX3_holds_29 rfl ?_
      subst hX
      exact xg_zreturn dX3_holds_30 rfl (by first | exact bI_01 _ | omega) ⟨Nat.le_refl _, Nat.le_refl _⟩ ⟨congrArg (fun v => some (J v)) (by unfold sHolds wLcode; rw [show (wTo w n - wFrom w n).toNat = 0 by omega]; rfl), I (l + 5), by rw [upA_id]⟩
    · skip
      refine xg_aloadn 13 dX3_holds_12 rfl rfl rfl ?_
      refine xg_getP 16 kf_RX3_29 dX3_holds_13 rfl (by assumption) (by assumption) ?_
      refine xg_iloadn 17 dX3_holds_16 rfl rfl rfl ?_
      refine xg_iald 18 dX3_holds_17 rfl (by assumption) (by omega) ?_
      refine xg_aloadn 19 dX3_holds_18 rfl rfl rfl ?_
      refine xg_getP 22 kf_RX3_29 dX3_holds_19 rfl (by assumption) (by assumption) ?_
      refine xg_iloadn 23 dX3_holds_22 rfl rfl rfl ?_
      refine xg_iconst 24 dX3_holds_23 rfl ?_
      refine xg_iadd 25 dX3_holds_24 rfl ?_
      refine xg_iald 26 dX3_holds_25 rfl (by assumption) (by omega) ?_
      refine xg_iclt 31 29 dX3_holds_26 rfl rfl (by omega) (fun hb26 => ?_) (fun hb26 => ?_)
      · skip
        refine xg_iconst 32 dX3_holds_31 rfl ?_
        refine xg_istoren 33 _ dX3_holds_32 rfl rfl rfl (by decide) (Or.inr rfl) ?_
        refine xg_aloadn 34 dX3_holds_33 rfl rfl rfl ?_
        refine xg_getP 37 kf_RX3_29 dX3_holds_34 rfl (by assumption) (by assumption) ?_
        refine xg_iloadn 38 dX3_holds_37 rfl rfl rfl ?_
        refine xg_iald 39 dX3_holds_38 rfl (by assumption) (by omega) ?_
        refine xg_istore 41 _ dX3_holds_39 rfl rfl (by decide) (Or.inr rfl) ?_
        have loop41 : ∀ (mm : Nat) (i k : Nat) (st : List Int) (u : Int → Int), (i + k = to ∧ fr ≤ i) → hInv w (sFact w level) (sEv (sFact w level) (wLcode w n) []) i k st u → (k : Int) < (mm : Int) → xG E mX3_holds (xR d 0 0) X 41 [some (.ref l), some (J (n : Int)), some (.ref fa), some (J (st.length : Int)), some (J (i : Int)), none, none, none] [] (z, T, F, upA I (l + 5) u, P, Y) 0 0 := by
          intro mm
          induction mm with
          | zero => intro i k st u hi h hm; exfalso; omega
          | succ mm ih =>
            intro i k st u hi h hm
            refine xg_iload 43 dX3_holds_41 rfl rfl ?_
            refine xg_aloadn 44 dX3_holds_43 rfl rfl rfl ?_
            refine xg_getP 47 kf_RX3_29 dX3_holds_44 rfl (by assumption) (by assumption) ?_
            refine xg_iloadn 48 dX3_holds_47 rfl rfl rfl ?_
            refine xg_iconst 49 dX3_holds_48 rfl ?_
            refine xg_iadd 50 dX3_holds_49 rfl ?_
            refine xg_iald 51 dX3_holds_50 rfl (by assumption) (by omega) ?_
            rw [upA_na _ _ _ (show _ ≠ l + 5 by omega)]
            refine xg_icge 333 54 dX3_holds_51 rfl rfl (by omega) (fun hb51 => ?_) (fun hb51 => ?_)
            · skip
              refine xg_aloadn 334 dX3_holds_333 rfl rfl rfl ?_
              refine xg_getP 337 kf_RX3_41 dX3_holds_334 rfl (by assumption) (by assumption) ?_
              refine xg_iconst 338 dX3_holds_337 rfl ?_
              refine xg_ialdW 339 dX3_holds_338 rfl (by assumption) (by omega) ?_
              obtain ⟨x, hx, hx2, hx3⟩ := (show hInv w (sFact w level) (sEv (sFact w level) (wLcode w n) []) i 0 st u by rw [show k = 0 by omega] at h; exact h).fin
              rw [hx3]
              refine xg_ifeq 346 342 dX3_holds_339 rfl rfl (by omega) (fun hb339 => ?_) (fun hb339 => ?_)
              · skip
                refine xg_iconst 347 dX3_holds_346 rfl ?_
                subst hX
                refine xg_zreturn dX3_holds_347 rfl (by first | exact bI_01 _ | omega) ⟨Nat.le_refl _, Nat.le_refl _⟩ ?_
                exact ⟨congrArg (fun v => some (J v)) (by unfold sHolds; rw [hx]; first | exact (bI_t (by omega)).symm | exact (bI_f (by omega)).symm), u, rfl⟩
              · skip
                refine xg_iconst 343 dX3_holds_342 rfl ?_
                refine xg_goto 347 dX3_holds_343 rfl ?_
                subst hX
                refine xg_zreturn dX3_holds_347 rfl (by first | exact bI_01 _ | omega) ⟨Nat.le_refl _, Nat.le_refl _⟩ ?_
                exact ⟨congrArg (fun v => some (J v)) (by unfold sHolds; rw [hx]; first | exact (bI_t (by omega)).symm | exact (bI_f (by omega)).symm), u, rfl⟩
            · skip
              refine xg_iload 56 dX3_holds_54 rfl rfl ?_
              refine xg_aloadn 57 dX3_holds_56 rfl rfl rfl ?_
              refine xg_getP 60 kf_RX3_38 dX3_holds_57 rfl (by assumption) (by assumption) ?_
              refine xg_alen 61 dX3_holds_60 rfl (by assumption) rfl ?_
              refine xg_icge 333 64 dX3_holds_61 rfl rfl (by omega) (fun hb61 => ?_) (fun hb61 => ?_)
              · exfalso; omega
              · skip
                refine xg_aloadn 65 dX3_holds_64 rfl rfl rfl ?_
                refine xg_getP 68 kf_RX3_38 dX3_holds_65 rfl (by assumption) (by assumption) ?_
                refine xg_iload 70 dX3_holds_68 rfl rfl ?_
                refine xg_iald 71 dX3_holds_70 rfl (by assumption) (by omega) ?_
                rw [upA_na _ _ _ (show _ ≠ l + 5 by omega)]
                obtain ⟨m, rfl⟩ : ∃ m, k = m + 1 := ⟨k - 1, by omega⟩
                have hc := g4 (i : Int) (by omega) (by omega)
                have hq := h.q
                have hE := cEnc_q (c := w (1952 + 2 * (i : Int))) (a := w (1952 + 2 * (i : Int) + 1)) hc.1
                rw [e7 (i : Int) (by omega) (by omega) (by omega)]
                refine xg_istore 73 _ dX3_holds_71 rfl rfl (by decide) (Or.inr rfl) ?_
                rcases hE with ⟨hE1, hE2⟩ | ⟨hE1, hE2⟩ | ⟨hE1, hE2⟩ | ⟨hE1, hE2⟩ | ⟨hE1, hE2⟩ | ⟨hE1, hE2⟩ | ⟨hE1, hE2⟩ | ⟨hE1, hE2⟩
                · rw [hE2]
                  have hq1 := hq.1
                  clear hq
                  refine xg_iload 75 dX3_holds_73 rfl rfl ?_
                  refine xg_ifge 85 78 dX3_holds_75 rfl rfl (by omega) (fun hb75 => ?_) (fun hb75 => ?_)
                  · exfalso; omega
                  · skip
                    refine xg_iload 80 dX3_holds_78 rfl rfl ?_
                    refine xg_bipush 82 dX3_holds_80 rfl (by decide) ?_
                    refine xg_icgt 135 85 dX3_holds_82 rfl rfl (by omega) (fun hb82 => ?_) (fun hb82 => ?_)
                    · exfalso; omega
                    · skip
                      refine xg_iloadn 86 dX3_holds_85 rfl rfl rfl ?_
                      refine xg_aloadn 87 dX3_holds_86 rfl rfl rfl ?_
                      refine xg_getP 90 kf_RX3_41 dX3_holds_87 rfl (by assumption) (by assumption) ?_
                      refine xg_alen 91 dX3_holds_90 rfl (by assumption) rfl ?_
                      refine xg_icge 104 94 dX3_holds_91 rfl rfl (by omega) (fun hb91 => ?_) (fun hb91 => ?_)
                      · exfalso; omega
                      · skip
                        refine xg_bipush 96 dX3_holds_94 rfl (by decide) ?_
                        refine xg_iload 98 dX3_holds_96 rfl rfl ?_
                        refine xg_isub 99 dX3_holds_98 rfl ?_
                        refine xg_aloadn 100 dX3_holds_99 rfl rfl rfl ?_
                        refine xg_alen 101 dX3_holds_100 rfl (by assumption) rfl ?_
                        refine xg_iclt 106 104 dX3_holds_101 rfl rfl (by omega) (fun hb101 => ?_) (fun hb101 => ?_)
                        · skip
                          refine xg_aloadn 107 dX3_holds_106 rfl rfl rfl ?_
                          refine xg_getP 110 kf_RX3_41 dX3_holds_107 rfl (by assumption) (by assumption) ?_
                          refine xg_iloadn 111 dX3_holds_110 rfl rfl rfl ?_
                          refine xg_iload 113 dX3_holds_111 rfl rfl ?_
                          refine xg_iflt 121 116 dX3_holds_113 rfl rfl (by omega) (fun hb113 => ?_) (fun hb113 => ?_)
                          · skip
                            refine xg_aloadn 122 dX3_holds_121 rfl rfl rfl ?_
                            refine xg_bipush 124 dX3_holds_122 rfl (by decide) ?_
                            refine xg_iload 126 dX3_holds_124 rfl rfl ?_
                            refine xg_isub 127 dX3_holds_126 rfl ?_
                            refine xg_iald 128 dX3_holds_127 rfl (by assumption) (by omega) ?_
                            rw [upA_na _ _ _ (show _ ≠ l + 5 by omega)]
                            obtain ⟨c9, hc9⟩ : ∃ c9 : Nat, (c9 : Int) = w (1952 + 2 * (i : Int)) := ⟨(w (1952 + 2 * (i : Int))).toNat, by omega⟩
                            rw [show (-10 : Int) - (-10 - w (1952 + 2 * (i : Int))) = (c9 : Int) by omega, hf c9 (by omega), hc9, ← sFact_lo (a := w (1952 + 2 * (i : Int) + 1)) (by omega)]
                            have hfb := sFact_bd hO (level := level) (code := w (1952 + 2 * (i : Int))) (arg := w (1952 + 2 * (i : Int) + 1)) hl hc.2
                            generalize hfv : sFact w level (w (1952 + 2 * (i : Int))) (w (1952 + 2 * (i : Int) + 1)) = fv at hfb
                            replace hfv := hfv.symm
                            refine xg_iastW 129 dX3_holds_128 rfl (by assumption) (by omega) ?_
                            refine xg_iinc 132 _ dX3_holds_129 rfl rfl rfl rfl (by decide) (Or.inr rfl) ?_
                            refine xg_goto 327 dX3_holds_132 rfl ?_
                            refine xg_iinc 330 _ dX3_holds_327 rfl rfl rfl rfl (by decide) (Or.inr rfl) ?_
                            refine xg_goto 41 dX3_holds_330 rfl ?_
                            exact xg_weak _ (xle_s rfl (xle_s rfl (xle_s rfl (xle_s rfl (xle_s rfl (xle_n (xle_n (xle_n xle_0)))))))) (ih (i + 1) m (_ :: st) _ (by omega) (h.push (by omega) (v := _) hfv (by omega) (fun q7 q9 => by rw [hfv]; exact sFact_01 hO ⟨q7, q9⟩)) (by omega))
                          · exfalso; omega
                        · exfalso; omega
                · rw [hE2]
                  have hq1 := hq.1
                  clear hq
                  refine xg_iload 75 dX3_holds_73 rfl rfl ?_
                  refine xg_ifge 85 78 dX3_holds_75 rfl rfl (by omega) (fun hb75 => ?_) (fun hb75 => ?_)
                  · skip
                    refine xg_iloadn 86 dX3_holds_85 rfl rfl rfl ?_
                    refine xg_aloadn 87 dX3_holds_86 rfl rfl rfl ?_
                    refine xg_getP 90 kf_RX3_41 dX3_holds_87 rfl (by assumption) (by assumption) ?_
                    refine xg_alen 91 dX3_holds_90 rfl (by assumption) rfl ?_
                    refine xg_icge 104 94 dX3_holds_91 rfl rfl (by omega) (fun hb91 => ?_) (fun hb91 => ?_)
                    · exfalso; omega
                    · skip
                      refine xg_bipush 96 dX3_holds_94 rfl (by decide) ?_
                      refine xg_iload 98 dX3_holds_96 rfl rfl ?_
                      refine xg_isub 99 dX3_holds_98 rfl ?_
                      refine xg_aloadn 100 dX3_holds_99 rfl rfl rfl ?_
                      refine xg_alen 101 dX3_holds_100 rfl (by assumption) rfl ?_
                      refine xg_iclt 106 104 dX3_holds_101 rfl rfl (by omega) (fun hb101 => ?_) (fun hb101 => ?_)
                      · skip
                        refine xg_aloadn 107 dX3_holds_106 rfl rfl rfl ?_
                        refine xg_getP 110 kf_RX3_41 dX3_holds_107 rfl (by assumption) (by assumption) ?_
                        refine xg_iloadn 111 dX3_holds_110 rfl rfl rfl ?_
                        refine xg_iload 113 dX3_holds_111 rfl rfl ?_
                        refine xg_iflt 121 116 dX3_holds_113 rfl rfl (by omega) (fun hb113 => ?_) (fun hb113 => ?_)
                        · exfalso; omega
                        · skip
                          refine xg_iload 118 dX3_holds_116 rfl rfl ?_
                          refine xg_goto 128 dX3_holds_118 rfl ?_
                          skip
                          refine xg_iastW 129 dX3_holds_128 rfl (by assumption) (by omega) ?_
                          refine xg_iinc 132 _ dX3_holds_129 rfl rfl rfl rfl (by decide) (Or.inr rfl) ?_
                          refine xg_goto 327 dX3_holds_132 rfl ?_
                          refine xg_iinc 330 _ dX3_holds_327 rfl rfl rfl rfl (by decide) (Or.inr rfl) ?_
                          refine xg_goto 41 dX3_holds_330 rfl ?_
                          exact xg_weak _ (xle_s rfl (xle_s rfl (xle_s rfl (xle_s rfl (xle_s rfl (xle_n (xle_n (xle_n xle_0)))))))) (ih (i + 1) m (_ :: st) _ (by omega) (h.push (by omega) (v := _) (by rw [sFact_10 (by omega)]) (by omega) (fun _ _ => by omega)) (by omega))
                      · exfalso; omega
                  · exfalso; omega
                · rw [hE2]
                  obtain ⟨a, b, r, rfl, hx, hx1, hu, hu2, hI2⟩ := h.bin (by omega)
                  rw [show (((b :: a :: r).length : Nat) : Int) = (r.length : Int) + 2 from by simp; omega]
                  have hq1 := hq.1
                  simp only [List.length_cons] at hq1
                  clear hq
                  rw [sOp_add hE1] at hI2
                  refine xg_iload 75 dX3_holds_73 rfl rfl ?_
                  refine xg_ifge 85 78 dX3_holds_75 rfl rfl (by omega) (fun hb75 => ?_) (fun hb75 => ?_)
                  · exfalso; omega
                  · skip
                    refine xg_iload 80 dX3_holds_78 rfl rfl ?_
                    refine xg_bipush 82 dX3_holds_80 rfl (by decide) ?_
                    refine xg_icgt 135 85 dX3_holds_82 rfl rfl (by omega) (fun hb82 => ?_) (fun hb82 => ?_)
                    · skip
                      refine xg_iload 137 dX3_holds_135 rfl rfl ?_
                      refine xg_bipush 139 dX3_holds_137 rfl (by decide) ?_
                      refine xg_icne 167 142 dX3_holds_139 rfl rfl (by omega) (fun hb139 => ?_) (fun hb139 => ?_)
                      · skip
                        refine xg_iload 169 dX3_holds_167 rfl rfl ?_
                        refine xg_bipush 171 dX3_holds_169 rfl (by decide) ?_
                        refine xg_iceq 327 174 dX3_holds_171 rfl rfl (by omega) (fun hb171 => ?_) (fun hb171 => ?_)
                        · exfalso; omega
                        · skip
                          refine xg_iloadn 175 dX3_holds_174 rfl rfl rfl ?_
                          refine xg_iconst 176 dX3_holds_175 rfl ?_
                          refine xg_icle 327 179 dX3_holds_176 rfl rfl (by omega) (fun hb176 => ?_) (fun hb176 => ?_)
                          · exfalso; omega
                          · skip
                            refine xg_iinc 182 _ dX3_holds_179 rfl rfl rfl rfl (by decide) (Or.inr rfl) ?_
                            refine xg_aloadn 183 dX3_holds_182 rfl rfl rfl ?_
                            refine xg_getP 186 kf_RX3_41 dX3_holds_183 rfl (by assumption) (by assumption) ?_
                            refine xg_iloadn 187 dX3_holds_186 rfl rfl rfl ?_
                            refine xg_iconst 188 dX3_holds_187 rfl ?_
                            refine xg_isub 189 dX3_holds_188 rfl ?_
                            refine xg_ialdW 190 dX3_holds_189 rfl (by assumption) (by omega) ?_
                            rw [show (r.length : Int) + 2 + -1 - 1 = (r.length : Int) by omega, hu]
                            refine xg_istore 192 _ dX3_holds_190 rfl rfl (by decide) (Or.inr rfl) ?_
                            refine xg_aloadn 193 dX3_holds_192 rfl rfl rfl ?_
                            refine xg_getP 196 kf_RX3_41 dX3_holds_193 rfl (by assumption) (by assumption) ?_
                            refine xg_iloadn 197 dX3_holds_196 rfl rfl rfl ?_
                            refine xg_ialdW 198 dX3_holds_197 rfl (by assumption) (by omega) ?_
                            rw [show (r.length : Int) + 2 + -1 = (r.length : Int) + 1 by omega, hu2]
                            refine xg_istore 200 _ dX3_holds_198 rfl rfl (by decide) (Or.inr rfl) ?_
                            refine xg_iload 202 dX3_holds_200 rfl rfl ?_
                            refine xg_tin (o := 66) 268 dX3_holds_202 (by omega) ⟨by omega, by omega⟩ rfl rfl ?_
                            refine xg_aloadn 269 dX3_holds_268 rfl rfl rfl ?_
                            refine xg_getP 272 kf_RX3_41 dX3_holds_269 rfl (by assumption) (by assumption) ?_
                            refine xg_iloadn 273 dX3_holds_272 rfl rfl rfl ?_
                            refine xg_iconst 274 dX3_holds_273 rfl ?_
                            refine xg_isub 275 dX3_holds_274 rfl ?_
                            refine xg_iload 277 dX3_holds_275 rfl rfl ?_
                            refine xg_iload 279 dX3_holds_277 rfl rfl ?_
                            refine xg_iadd 280 dX3_holds_279 rfl ?_
                            refine xg_iastW 281 dX3_holds_280 rfl (by assumption) (by omega) ?_
                            refine xg_goto 327 dX3_holds_281 rfl ?_
                            refine xg_iinc 330 _ dX3_holds_327 rfl rfl rfl rfl (by decide) (Or.inr rfl) ?_
                            refine xg_goto 41 dX3_holds_330 rfl ?_
                            rw [show (r.length : Int) + 1 - 1 = (r.length : Int) by omega]
                            exact xg_weak _ (xle_s rfl (xle_s rfl (xle_s rfl (xle_s (congrArg (fun v => some (J v)) (by simp only [List.length_cons]; omega)) (xle_s rfl (xle_n (xle_n (xle_n xle_0)))))))) (ih (i + 1) m (_ :: r) _ (by omega) hI2 (by omega))
                      · exfalso; omega
                    · exfalso; omega
                · rw [hE2]
                  obtain ⟨a, b, r, rfl, hx, hx1, hu, hu2, hI2⟩ := h.bin (by omega)
                  rw [show (((b :: a :: r).length : Nat) : Int) = (r.length : Int) + 2 from by simp; omega]
                  have hq1 := hq.1
                  simp only [List.length_cons] at hq1
                  clear hq
                  skip
                  refine xg_iload 75 dX3_holds_73 rfl rfl ?_
                  refine xg_ifge 85 78 dX3_holds_75 rfl rfl (by omega) (fun hb75 => ?_) (fun hb75 => ?_)
                  · exfalso; omega
                  · skip
                    refine xg_iload 80 dX3_holds_78 rfl rfl ?_
                    refine xg_bipush 82 dX3_holds_80 rfl (by decide) ?_
                    refine xg_icgt 135 85 dX3_holds_82 rfl rfl (by omega) (fun hb82 => ?_) (fun hb82 => ?_)
                    · skip
                      refine xg_iload 137 dX3_holds_135 rfl rfl ?_
                      refine xg_bipush 139 dX3_holds_137 rfl (by decide) ?_
                      refine xg_icne 167 142 dX3_holds_139 rfl rfl (by omega) (fun hb139 => ?_) (fun hb139 => ?_)
                      · skip
                        refine xg_iload 169 dX3_holds_167 rfl rfl ?_
                        refine xg_bipush 171 dX3_holds_169 rfl (by decide) ?_
                        refine xg_iceq 327 174 dX3_holds_171 rfl rfl (by omega) (fun hb171 => ?_) (fun hb171 => ?_)
                        · exfalso; omega
                        · skip
                          refine xg_iloadn 175 dX3_holds_174 rfl rfl rfl ?_
                          refine xg_iconst 176 dX3_holds_175 rfl ?_
                          refine xg_icle 327 179 dX3_holds_176 rfl rfl (by omega) (fun hb176 => ?_) (fun hb176 => ?_)
                          · exfalso; omega
                          · skip
                            refine xg_iinc 182 _ dX3_holds_179 rfl rfl rfl rfl (by decide) (Or.inr rfl) ?_
                            refine xg_aloadn 183 dX3_holds_182 rfl rfl rfl ?_
                            refine xg_getP 186 kf_RX3_41 dX3_holds_183 rfl (by assumption) (by assumption) ?_
                            refine xg_iloadn 187 dX3_holds_186 rfl rfl rfl ?_
                            refine xg_iconst 188 dX3_holds_187 rfl ?_
                            refine xg_isub 189 dX3_holds_188 rfl ?_
                            refine xg_ialdW 190 dX3_holds_189 rfl (by assumption) (by omega) ?_
                            rw [show (r.length : Int) + 2 + -1 - 1 = (r.length : Int) by omega, hu]
                            refine xg_istore 192 _ dX3_holds_190 rfl rfl (by decide) (Or.inr rfl) ?_
                            refine xg_aloadn 193 dX3_holds_192 rfl rfl rfl ?_
                            refine xg_getP 196 kf_RX3_41 dX3_holds_193 rfl (by assumption) (by assumption) ?_
                            refine xg_iloadn 197 dX3_holds_196 rfl rfl rfl ?_
                            refine xg_ialdW 198 dX3_holds_197 rfl (by assumption) (by omega) ?_
                            rw [show (r.length : Int) + 2 + -1 = (r.length : Int) + 1 by omega, hu2]
                            refine xg_istore 200 _ dX3_holds_198 rfl rfl (by decide) (Or.inr rfl) ?_
                            refine xg_iload 202 dX3_holds_200 rfl rfl ?_
                            refine xg_tin (o := 82) 284 dX3_holds_202 (by omega) ⟨by omega, by omega⟩ rfl rfl ?_
                            refine xg_aloadn 285 dX3_holds_284 rfl rfl rfl ?_
                            refine xg_getP 288 kf_RX3_41 dX3_holds_285 rfl (by assumption) (by assumption) ?_
                            refine xg_iloadn 289 dX3_holds_288 rfl rfl rfl ?_
                            refine xg_iconst 290 dX3_holds_289 rfl ?_
                            refine xg_isub 291 dX3_holds_290 rfl ?_
                            refine xg_iload 293 dX3_holds_291 rfl rfl ?_
                            refine xg_iload 295 dX3_holds_293 rfl rfl ?_
                            refine xg_icge 302 298 dX3_holds_295 rfl rfl (by omega) (fun hb295 => ?_) (fun hb295 => ?_)
                            · skip
                              refine xg_iconst 303 dX3_holds_302 rfl ?_
                              refine xg_iastW 304 dX3_holds_303 rfl (by assumption) (by omega) ?_
                              refine xg_goto 327 dX3_holds_304 rfl ?_
                              refine xg_iinc 330 _ dX3_holds_327 rfl rfl rfl rfl (by decide) (Or.inr rfl) ?_
                              refine xg_goto 41 dX3_holds_330 rfl ?_
                              rw [sOp_lt0 hE1 hb295] at hI2
                              rw [show (r.length : Int) + 1 - 1 = (r.length : Int) by omega]
                              exact xg_weak _ (xle_s rfl (xle_s rfl (xle_s rfl (xle_s (congrArg (fun v => some (J v)) (by simp only [List.length_cons]; omega)) (xle_s rfl (xle_n (xle_n (xle_n xle_0)))))))) (ih (i + 1) m (_ :: r) _ (by omega) hI2 (by omega))
                            · skip
                              refine xg_iconst 299 dX3_holds_298 rfl ?_
                              refine xg_goto 303 dX3_holds_299 rfl ?_
                              refine xg_iastW 304 dX3_holds_303 rfl (by assumption) (by omega) ?_
                              refine xg_goto 327 dX3_holds_304 rfl ?_
                              refine xg_iinc 330 _ dX3_holds_327 rfl rfl rfl rfl (by decide) (Or.inr rfl) ?_
                              refine xg_goto 41 dX3_holds_330 rfl ?_
                              rw [sOp_lt1 hE1 hb295] at hI2
                              rw [show (r.length : Int) + 1 - 1 = (r.length : Int) by omega]
                              exact xg_weak _ (xle_s rfl (xle_s rfl (xle_s rfl (xle_s (congrArg (fun v => some (J v)) (by simp only [List.length_cons]; omega)) (xle_s rfl (xle_n (xle_n (xle_n xle_0)))))))) (ih (i + 1) m (_ :: r) _ (by omega) hI2 (by omega))
                      · exfalso; omega
                    · exfalso; omega
                · rw [hE2]
                  obtain ⟨a, b, r, rfl, hx, hx1, hu, hu2, hI2⟩ := h.bin (by omega)
                  rw [show (((b :: a :: r).length : Nat) : Int) = (r.length : Int) + 2 from by simp; omega]
                  have hq1 := hq.1
                  simp only [List.length_cons] at hq1
                  clear hq
                  skip
                  refine xg_iload 75 dX3_holds_73 rfl rfl ?_
                  refine xg_ifge 85 78 dX3_holds_75 rfl rfl (by omega) (fun hb75 => ?_) (fun hb75 => ?_)
                  · exfalso; omega
                  · skip
                    refine xg_iload 80 dX3_holds_78 rfl rfl ?_
                    refine xg_bipush 82 dX3_holds_80 rfl (by decide) ?_
                    refine xg_icgt 135 85 dX3_holds_82 rfl rfl (by omega) (fun hb82 => ?_) (fun hb82 => ?_)
                    · skip
                      refine xg_iload 137 dX3_holds_135 rfl rfl ?_
                      refine xg_bipush 139 dX3_holds_137 rfl (by decide) ?_
                      refine xg_icne 167 142 dX3_holds_139 rfl rfl (by omega) (fun hb139 => ?_) (fun hb139 => ?_)
                      · skip
                        refine xg_iload 169 dX3_holds_167 rfl rfl ?_
                        refine xg_bipush 171 dX3_holds_169 rfl (by decide) ?_
                        refine xg_iceq 327 174 dX3_holds_171 rfl rfl (by omega) (fun hb171 => ?_) (fun hb171 => ?_)
                        · exfalso; omega
                        · skip
                          refine xg_iloadn 175 dX3_holds_174 rfl rfl rfl ?_
                          refine xg_iconst 176 dX3_holds_175 rfl ?_
                          refine xg_icle 327 179 dX3_holds_176 rfl rfl (by omega) (fun hb176 => ?_) (fun hb176 => ?_)
                          · exfalso; omega
                          · skip
                            refine xg_iinc 182 _ dX3_holds_179 rfl rfl rfl rfl (by decide) (Or.inr rfl) ?_
                            refine xg_aloadn 183 dX3_holds_182 rfl rfl rfl ?_
                            refine xg_getP 186 kf_RX3_41 dX3_holds_183 rfl (by assumption) (by assumption) ?_
                            refine xg_iloadn 187 dX3_holds_186 rfl rfl rfl ?_
                            refine xg_iconst 188 dX3_holds_187 rfl ?_
                            refine xg_isub 189 dX3_holds_188 rfl ?_
                            refine xg_ialdW 190 dX3_holds_189 rfl (by assumption) (by omega) ?_
                            rw [show (r.length : Int) + 2 + -1 - 1 = (r.length : Int) by omega, hu]
                            refine xg_istore 192 _ dX3_holds_190 rfl rfl (by decide) (Or.inr rfl) ?_
                            refine xg_aloadn 193 dX3_holds_192 rfl rfl rfl ?_
                            refine xg_getP 196 kf_RX3_41 dX3_holds_193 rfl (by assumption) (by assumption) ?_
                            refine xg_iloadn 197 dX3_holds_196 rfl rfl rfl ?_
                            refine xg_ialdW 198 dX3_holds_197 rfl (by assumption) (by omega) ?_
                            rw [show (r.length : Int) + 2 + -1 = (r.length : Int) + 1 by omega, hu2]
                            refine xg_istore 200 _ dX3_holds_198 rfl rfl (by decide) (Or.inr rfl) ?_
                            refine xg_iload 202 dX3_holds_200 rfl rfl ?_
                            refine xg_tout 307 dX3_holds_202 (by omega) (by omega) rfl ?_
                            refine xg_aloadn 308 dX3_holds_307 rfl rfl rfl ?_
                            refine xg_getP 311 kf_RX3_41 dX3_holds_308 rfl (by assumption) (by assumption) ?_
                            refine xg_iloadn 312 dX3_holds_311 rfl rfl rfl ?_
                            refine xg_iconst 313 dX3_holds_312 rfl ?_
                            refine xg_isub 314 dX3_holds_313 rfl ?_
                            refine xg_iload 316 dX3_holds_314 rfl rfl ?_
                            refine xg_iload 318 dX3_holds_316 rfl rfl ?_
                            refine xg_icle 325 321 dX3_holds_318 rfl rfl (by omega) (fun hb318 => ?_) (fun hb318 => ?_)
                            · skip
                              refine xg_iconst 326 dX3_holds_325 rfl ?_
                              refine xg_iastW 327 dX3_holds_326 rfl (by assumption) (by omega) ?_
                              refine xg_iinc 330 _ dX3_holds_327 rfl rfl rfl rfl (by decide) (Or.inr rfl) ?_
                              refine xg_goto 41 dX3_holds_330 rfl ?_
                              rw [sOp_gt0 hE1 hb318] at hI2
                              rw [show (r.length : Int) + 1 - 1 = (r.length : Int) by omega]
                              exact xg_weak _ (xle_s rfl (xle_s rfl (xle_s rfl (xle_s (congrArg (fun v => some (J v)) (by simp only [List.length_cons]; omega)) (xle_s rfl (xle_n (xle_n (xle_n xle_0)))))))) (ih (i + 1) m (_ :: r) _ (by omega) hI2 (by omega))
                            · skip
                              refine xg_iconst 322 dX3_holds_321 rfl ?_
                              refine xg_goto 326 dX3_holds_322 rfl ?_
                              refine xg_iastW 327 dX3_holds_326 rfl (by assumption) (by omega) ?_
                              refine xg_iinc 330 _ dX3_holds_327 rfl rfl rfl rfl (by decide) (Or.inr rfl) ?_
                              refine xg_goto 41 dX3_holds_330 rfl ?_
                              rw [sOp_gt1 hE1 hb318] at hI2
                              rw [show (r.length : Int) + 1 - 1 = (r.length : Int) by omega]
                              exact xg_weak _ (xle_s rfl (xle_s rfl (xle_s rfl (xle_s (congrArg (fun v => some (J v)) (by simp only [List.length_cons]; omega)) (xle_s rfl (xle_n (xle_n (xle_n xle_0)))))))) (ih (i + 1) m (_ :: r) _ (by omega) hI2 (by omega))
                      · exfalso; omega
                    · exfalso; omega
                · rw [hE2]
                  obtain ⟨x, r, rfl, hx, hu, hI2⟩ := h.neg hE1
                  rw [show (((x :: r).length : Nat) : Int) = (r.length : Int) + 1 from by simp]
                  have hq1 := hq.1
                  simp only [List.length_cons] at hq1
                  clear hq
                  refine xg_iload 75 dX3_holds_73 rfl rfl ?_
                  refine xg_ifge 85 78 dX3_holds_75 rfl rfl (by omega) (fun hb75 => ?_) (fun hb75 => ?_)
                  · exfalso; omega
                  · skip
                    refine xg_iload 80 dX3_holds_78 rfl rfl ?_
                    refine xg_bipush 82 dX3_holds_80 rfl (by decide) ?_
                    refine xg_icgt 135 85 dX3_holds_82 rfl rfl (by omega) (fun hb82 => ?_) (fun hb82 => ?_)
                    · skip
                      refine xg_iload 137 dX3_holds_135 rfl rfl ?_
                      refine xg_bipush 139 dX3_holds_137 rfl (by decide) ?_
                      refine xg_icne 167 142 dX3_holds_139 rfl rfl (by omega) (fun hb139 => ?_) (fun hb139 => ?_)
                      · exfalso; omega
                      · skip
                        refine xg_iloadn 143 dX3_holds_142 rfl rfl rfl ?_
                        refine xg_ifle 167 146 dX3_holds_143 rfl rfl (by omega) (fun hb143 => ?_) (fun hb143 => ?_)
                        · exfalso; omega
                        · skip
                          refine xg_aloadn 147 dX3_holds_146 rfl rfl rfl ?_
                          refine xg_getP 150 kf_RX3_41 dX3_holds_147 rfl (by assumption) (by assumption) ?_
                          refine xg_iloadn 151 dX3_holds_150 rfl rfl rfl ?_
                          refine xg_iconst 152 dX3_holds_151 rfl ?_
                          refine xg_isub 153 dX3_holds_152 rfl ?_
                          refine xg_iconst 154 dX3_holds_153 rfl ?_
                          refine xg_aloadn 155 dX3_holds_154 rfl rfl rfl ?_
                          refine xg_getP 158 kf_RX3_41 dX3_holds_155 rfl (by assumption) (by assumption) ?_
                          refine xg_iloadn 159 dX3_holds_158 rfl rfl rfl ?_
                          refine xg_iconst 160 dX3_holds_159 rfl ?_
                          refine xg_isub 161 dX3_holds_160 rfl ?_
                          refine xg_ialdW 162 dX3_holds_161 rfl (by assumption) (by omega) ?_
                          rw [show (r.length : Int) + 1 - 1 = (r.length : Int) by omega, hu]
                          refine xg_isub 163 dX3_holds_162 rfl ?_
                          refine xg_iastW 164 dX3_holds_163 rfl (by assumption) (by omega) ?_
                          refine xg_goto 327 dX3_holds_164 rfl ?_
                          refine xg_iinc 330 _ dX3_holds_327 rfl rfl rfl rfl (by decide) (Or.inr rfl) ?_
                          refine xg_goto 41 dX3_holds_330 rfl ?_
                          exact xg_weak _ (xle_s rfl (xle_s rfl (xle_s rfl (xle_s (congrArg (fun v => some (J v)) (by simp only [List.length_cons]; omega)) (xle_s rfl (xle_n (xle_n (xle_n xle_0)))))))) (ih (i + 1) m (_ :: r) _ (by omega) hI2 (by omega))
                    · exfalso; omega
                · rw [hE2]
                  obtain ⟨a, b, r, rfl, hx, hx1, hu, hu2, hI2⟩ := h.bin (by omega)
                  rw [show (((b :: a :: r).length : Nat) : Int) = (r.length : Int) + 2 from by simp; omega]
                  have hq1 := hq.1
                  simp only [List.length_cons] at hq1
                  clear hq
                  rw [hE1, ← xand01 (by omega) (by omega)] at hI2
                  refine xg_iload 75 dX3_holds_73 rfl rfl ?_
                  refine xg_ifge 85 78 dX3_holds_75 rfl rfl (by omega) (fun hb75 => ?_) (fun hb75 => ?_)
                  · exfalso; omega
                  · skip
                    refine xg_iload 80 dX3_holds_78 rfl rfl ?_
                    refine xg_bipush 82 dX3_holds_80 rfl (by decide) ?_
                    refine xg_icgt 135 85 dX3_holds_82 rfl rfl (by omega) (fun hb82 => ?_) (fun hb82 => ?_)
                    · skip
                      refine xg_iload 137 dX3_holds_135 rfl rfl ?_
                      refine xg_bipush 139 dX3_holds_137 rfl (by decide) ?_
                      refine xg_icne 167 142 dX3_holds_139 rfl rfl (by omega) (fun hb139 => ?_) (fun hb139 => ?_)
                      · skip
                        refine xg_iload 169 dX3_holds_167 rfl rfl ?_
                        refine xg_bipush 171 dX3_holds_169 rfl (by decide) ?_
                        refine xg_iceq 327 174 dX3_holds_171 rfl rfl (by omega) (fun hb171 => ?_) (fun hb171 => ?_)
                        · exfalso; omega
                        · skip
                          refine xg_iloadn 175 dX3_holds_174 rfl rfl rfl ?_
                          refine xg_iconst 176 dX3_holds_175 rfl ?_
                          refine xg_icle 327 179 dX3_holds_176 rfl rfl (by omega) (fun hb176 => ?_) (fun hb176 => ?_)
                          · exfalso; omega
                          · skip
                            refine xg_iinc 182 _ dX3_holds_179 rfl rfl rfl rfl (by decide) (Or.inr rfl) ?_
                            refine xg_aloadn 183 dX3_holds_182 rfl rfl rfl ?_
                            refine xg_getP 186 kf_RX3_41 dX3_holds_183 rfl (by assumption) (by assumption) ?_
                            refine xg_iloadn 187 dX3_holds_186 rfl rfl rfl ?_
                            refine xg_iconst 188 dX3_holds_187 rfl ?_
                            refine xg_isub 189 dX3_holds_188 rfl ?_
                            refine xg_ialdW 190 dX3_holds_189 rfl (by assumption) (by omega) ?_
                            rw [show (r.length : Int) + 2 + -1 - 1 = (r.length : Int) by omega, hu]
                            refine xg_istore 192 _ dX3_holds_190 rfl rfl (by decide) (Or.inr rfl) ?_
                            refine xg_aloadn 193 dX3_holds_192 rfl rfl rfl ?_
                            refine xg_getP 196 kf_RX3_41 dX3_holds_193 rfl (by assumption) (by assumption) ?_
                            refine xg_iloadn 197 dX3_holds_196 rfl rfl rfl ?_
                            refine xg_ialdW 198 dX3_holds_197 rfl (by assumption) (by omega) ?_
                            rw [show (r.length : Int) + 2 + -1 = (r.length : Int) + 1 by omega, hu2]
                            refine xg_istore 200 _ dX3_holds_198 rfl rfl (by decide) (Or.inr rfl) ?_
                            refine xg_iload 202 dX3_holds_200 rfl rfl ?_
                            refine xg_tin (o := 34) 236 dX3_holds_202 (by omega) ⟨by omega, by omega⟩ rfl rfl ?_
                            refine xg_aloadn 237 dX3_holds_236 rfl rfl rfl ?_
                            refine xg_getP 240 kf_RX3_41 dX3_holds_237 rfl (by assumption) (by assumption) ?_
                            refine xg_iloadn 241 dX3_holds_240 rfl rfl rfl ?_
                            refine xg_iconst 242 dX3_holds_241 rfl ?_
                            refine xg_isub 243 dX3_holds_242 rfl ?_
                            refine xg_iload 245 dX3_holds_243 rfl rfl ?_
                            refine xg_iload 247 dX3_holds_245 rfl rfl ?_
                            refine xg_iand 248 dX3_holds_247 rfl ?_
                            refine xg_iastW 249 dX3_holds_248 rfl (by assumption) (by omega) ?_
                            refine xg_goto 327 dX3_holds_249 rfl ?_
                            refine xg_iinc 330 _ dX3_holds_327 rfl rfl rfl rfl (by decide) (Or.inr rfl) ?_
                            refine xg_goto 41 dX3_holds_330 rfl ?_
                            rw [show (r.length : Int) + 1 - 1 = (r.length : Int) by omega]
                            exact xg_weak _ (xle_s rfl (xle_s rfl (xle_s rfl (xle_s (congrArg (fun v => some (J v)) (by simp only [List.length_cons]; omega)) (xle_s rfl (xle_n (xle_n (xle_n xle_0)))))))) (ih (i + 1) m (_ :: r) _ (by omega) hI2 (by omega))
                      · exfalso; omega
                    · exfalso; omega
                · rw [hE2]
                  obtain ⟨a, b, r, rfl, hx, hx1, hu, hu2, hI2⟩ := h.bin (by omega)
                  rw [show (((b :: a :: r).length : Nat) : Int) = (r.length : Int) + 2 from by simp; omega]
                  have hq1 := hq.1
                  simp only [List.length_cons] at hq1
                  clear hq
                  rw [hE1, ← xor01 (by omega) (by omega)] at hI2
                  refine xg_iload 75 dX3_holds_73 rfl rfl ?_
                  refine xg_ifge 85 78 dX3_holds_75 rfl rfl (by omega) (fun hb75 => ?_) (fun hb75 => ?_)
                  · exfalso; omega
                  · skip
                    refine xg_iload 80 dX3_holds_78 rfl rfl ?_
                    refine xg_bipush 82 dX3_holds_80 rfl (by decide) ?_
                    refine xg_icgt 135 85 dX3_holds_82 rfl rfl (by omega) (fun hb82 => ?_) (fun hb82 => ?_)
                    · skip
                      refine xg_iload 137 dX3_holds_135 rfl rfl ?_
                      refine xg_bipush 139 dX3_holds_137 rfl (by decide) ?_
                      refine xg_icne 167 142 dX3_holds_139 rfl rfl (by omega) (fun hb139 => ?_) (fun hb139 => ?_)
                      · skip
                        refine xg_iload 169 dX3_holds_167 rfl rfl ?_
                        refine xg_bipush 171 dX3_holds_169 rfl (by decide) ?_
                        refine xg_iceq 327 174 dX3_holds_171 rfl rfl (by omega) (fun hb171 => ?_) (fun hb171 => ?_)
                        · exfalso; omega
                        · skip
                          refine xg_iloadn 175 dX3_holds_174 rfl rfl rfl ?_
                          refine xg_iconst 176 dX3_holds_175 rfl ?_
                          refine xg_icle 327 179 dX3_holds_176 rfl rfl (by omega) (fun hb176 => ?_) (fun hb176 => ?_)
                          · exfalso; omega
                          · skip
                            refine xg_iinc 182 _ dX3_holds_179 rfl rfl rfl rfl (by decide) (Or.inr rfl) ?_
                            refine xg_aloadn 183 dX3_holds_182 rfl rfl rfl ?_
                            refine xg_getP 186 kf_RX3_41 dX3_holds_183 rfl (by assumption) (by assumption) ?_
                            refine xg_iloadn 187 dX3_holds_186 rfl rfl rfl ?_
                            refine xg_iconst 188 dX3_holds_187 rfl ?_
                            refine xg_isub 189 dX3_holds_188 rfl ?_
                            refine xg_ialdW 190 dX3_holds_189 rfl (by assumption) (by omega) ?_
                            rw [show (r.length : Int) + 2 + -1 - 1 = (r.length : Int) by omega, hu]
                            refine xg_istore 192 _ dX3_holds_190 rfl rfl (by decide) (Or.inr rfl) ?_
                            refine xg_aloadn 193 dX3_holds_192 rfl rfl rfl ?_
                            refine xg_getP 196 kf_RX3_41 dX3_holds_193 rfl (by assumption) (by assumption) ?_
                            refine xg_iloadn 197 dX3_holds_196 rfl rfl rfl ?_
                            refine xg_ialdW 198 dX3_holds_197 rfl (by assumption) (by omega) ?_
                            rw [show (r.length : Int) + 2 + -1 = (r.length : Int) + 1 by omega, hu2]
                            refine xg_istore 200 _ dX3_holds_198 rfl rfl (by decide) (Or.inr rfl) ?_
                            refine xg_iload 202 dX3_holds_200 rfl rfl ?_
                            refine xg_tin (o := 50) 252 dX3_holds_202 (by omega) ⟨by omega, by omega⟩ rfl rfl ?_
                            refine xg_aloadn 253 dX3_holds_252 rfl rfl rfl ?_
                            refine xg_getP 256 kf_RX3_41 dX3_holds_253 rfl (by assumption) (by assumption) ?_
                            refine xg_iloadn 257 dX3_holds_256 rfl rfl rfl ?_
                            refine xg_iconst 258 dX3_holds_257 rfl ?_
                            refine xg_isub 259 dX3_holds_258 rfl ?_
                            refine xg_iload 261 dX3_holds_259 rfl rfl ?_
                            refine xg_iload 263 dX3_holds_261 rfl rfl ?_
                            refine xg_ior 264 dX3_holds_263 rfl ?_
                            refine xg_iastW 265 dX3_holds_264 rfl (by assumption) (by omega) ?_
                            refine xg_goto 327 dX3_holds_265 rfl ?_
                            refine xg_iinc 330 _ dX3_holds_327 rfl rfl rfl rfl (by decide) (Or.inr rfl) ?_
                            refine xg_goto 41 dX3_holds_330 rfl ?_
                            rw [show (r.length : Int) + 1 - 1 = (r.length : Int) by omega]
                            exact xg_weak _ (xle_s rfl (xle_s rfl (xle_s rfl (xle_s (congrArg (fun v => some (J v)) (by simp only [List.length_cons]; omega)) (xle_s rfl (xle_n (xle_n (xle_n xle_0)))))))) (ih (i + 1) m (_ :: r) _ (by omega) hI2 (by omega))
                      · exfalso; omega
                    · exfalso; omega
        rw [e4, ← hfr]
        refine xg_own1 (l + 5) ?_
        exact xg_weak _ (xle_s rfl (xle_s rfl (xle_s rfl (xle_s rfl (xle_s rfl (xle_n (xle_n (xle_n xle_0)))))))) (loop41 (to - fr + 1) fr (to - fr) [] _ ⟨by omega, by omega⟩ ⟨[], by rw [hfr, show to - fr = (wTo w n - wFrom w n).toNat by omega]; exact hTy.resolve_left (by omega), trivial, trivial, by rw [hfr, show to - fr = (wTo w n - wFrom w n).toNat by omega]; rfl, by rw [sAb]; omega⟩ (by omega))
      · skip
        refine xg_iconst 30 dX3_holds_29 rfl ?_
        subst hX
        exact xg_zreturn dX3_holds_30 rfl (by first | exact bI_01 _ | omega) ⟨Nat.le_refl _, Nat.le_refl _⟩ ⟨congrArg (fun v => some (J v)) (by unfold sHolds wLcode; rw [show (wTo w n - wFrom w n).toNat = 0 by omega]; rfl), I (l + 5), by rw [upA_id]⟩

