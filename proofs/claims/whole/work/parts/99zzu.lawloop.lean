/-! the law's loop -/
set_option maxHeartbeats 40000000 in
set_option maxRecDepth 100000 in
theorem law_loop {E : xE} {nm : MethodName} {ad adv : Nat → Nat} {sio : Option Nat} {qS v0 : Nat} {tx : String} (hV : xEnv E ad adv sio qS v0 tx) {o m b N : Nat} {xs : Nat → Int32} (hX : ∀ u : State, E.2.2.2.2 u → va_X b N xs u u.heap ∧ b < E.2.2.2.1) (hN : N ≤ 3072) : ∀ (mm : Nat) (i : Int) (z : Nat) (T : Nat → Nat × Int) (F : Nat → Nat → Int) (I : Nat → Int → Int) (P : Nat → Nat → Option Nat) (Y : Nat → Int → Option Nat) (c n : Nat) (ws : Nat → Option wWo), LI o m z T F I P Y ws → 0 ≤ i ∧ i ≤ 3078 → (c : Int) ≤ 200 + 10 * i → (n : Int) ≤ 60000 + 350 * i → 4000 - i < (mm : Int) →
    xG E (mL_law_ nm) (xR 1400 601024 7293034) (xLX E) 23 [some (.ref b), some (.ref o), some (.ref m), some (.ref (m + 12)), some (J i), none, none] [] (z, T, F, I, P, Y) c n := by
  intro mm
  induction mm with
  | zero => intro i z T F I P Y c n ws hI0 hi hc hn hm; exfalso; omega
  | succ mm ih =>
    intro i z T F I P Y c n ws hI0 hi hc hn hm
    have hBk := hI0
    refine xg_iload 25 dL_law__23 rfl rfl ?_
    refine xg_aloadn 26 dL_law__25 rfl rfl rfl ?_
    refine xg_slen 27 hX hN dL_law__26 rfl ?_
    refine xg_bipush 29 dL_law__27 rfl (by decide) ?_
    refine xg_isub 30 dL_law__29 rfl ?_
    refine xg_icgt 2324 33 dL_law__30 rfl rfl (by omega) (fun hb30 => ?_) (fun hb30 => ?_)
    · skip
      refine xg_iconst 2325 dL_law__2324 rfl ?_
      exact xg_lawret dL_law__2325 ⟨by omega, by omega⟩
    · skip
      refine xg_aloadn 34 dL_law__33 rfl rfl rfl ?_
      refine xg_iload 36 dL_law__34 rfl rfl ?_
      refine xg_ialdS 37 dL_law__36 rfl hX ⟨by omega, hN⟩ ?_
      refine xg_bipush 39 dL_law__37 rfl (by decide) ?_
      refine xg_iand 40 dL_law__39 rfl ?_
      have hvr := xand_r (xs i.toNat).toInt 63
      generalize hsv : xand (xs i.toNat).toInt 63 = sv at hvr ⊢
      rcases (show sv = 0 ∨ sv = 1 ∨ sv = 2 ∨ sv = 3 ∨ sv = 4 ∨ sv = 5 ∨ sv = 6 ∨ sv = 7 ∨ sv = 8 ∨ sv = 9 ∨ sv = 10 ∨ sv = 11 ∨ sv = 12 ∨ sv = 13 ∨ sv = 14 ∨ sv = 15 ∨ sv = 16 ∨ sv = 17 ∨ sv = 18 ∨ sv = 19 ∨ sv = 20 ∨ sv = 21 ∨ sv = 22 ∨ sv = 23 ∨ sv = 24 ∨ sv = 25 ∨ sv = 26 ∨ sv = 27 ∨ sv = 28 ∨ sv = 29 ∨ sv = 30 ∨ sv = 31 ∨ sv = 32 ∨ sv = 33 ∨ sv = 34 ∨ sv = 35 ∨ sv = 36 ∨ sv = 37 ∨ sv = 38 ∨ sv = 39 ∨ sv = 40 ∨ sv = 41 ∨ sv = 42 ∨ sv = 43 ∨ sv = 44 ∨ sv = 45 ∨ sv = 46 ∨ (sv < 0 ∨ 46 < sv) by omega) with ht | ht | ht | ht | ht | ht | ht | ht | ht | ht | ht | ht | ht | ht | ht | ht | ht | ht | ht | ht | ht | ht | ht | ht | ht | ht | ht | ht | ht | ht | ht | ht | ht | ht | ht | ht | ht | ht | ht | ht | ht | ht | ht | ht | ht | ht | ht | ht
      · refine xg_tin (o := 204) 244 dL_law__40 (by omega) ⟨by omega, by omega⟩ (by rw [show (sv - 0).toNat = 0 by omega]; rfl) rfl ?_
        have ctc := pp_feed hV hI0 (i32r (xs (i + 1).toNat)) (i32r (xs (i + 2).toNat)) (i32r (xs (i + 3).toNat)) (i32r (xs (i + 4).toNat)) (i32r (xs (i + 5).toNat))
        refine xg_aloadn 245 dL_law__244 rfl rfl rfl ?_
        refine xg_aloadn 246 dL_law__245 rfl rfl rfl ?_
        refine xg_iload 248 dL_law__246 rfl rfl ?_
        refine xg_iconst 249 dL_law__248 rfl ?_
        refine xg_iadd 250 dL_law__249 rfl ?_
        refine xg_ialdS 251 dL_law__250 rfl hX ⟨by omega, hN⟩ ?_
        refine xg_aloadn 252 dL_law__251 rfl rfl rfl ?_
        refine xg_iload 254 dL_law__252 rfl rfl ?_
        refine xg_iconst 255 dL_law__254 rfl ?_
        refine xg_iadd 256 dL_law__255 rfl ?_
        refine xg_ialdS 257 dL_law__256 rfl hX ⟨by omega, hN⟩ ?_
        refine xg_aloadn 258 dL_law__257 rfl rfl rfl ?_
        refine xg_iload 260 dL_law__258 rfl rfl ?_
        refine xg_iconst 261 dL_law__260 rfl ?_
        refine xg_iadd 262 dL_law__261 rfl ?_
        refine xg_ialdS 263 dL_law__262 rfl hX ⟨by omega, hN⟩ ?_
        refine xg_aloadn 264 dL_law__263 rfl rfl rfl ?_
        refine xg_iload 266 dL_law__264 rfl rfl ?_
        refine xg_iconst 267 dL_law__266 rfl ?_
        refine xg_iadd 268 dL_law__267 rfl ?_
        refine xg_ialdS 269 dL_law__268 rfl hX ⟨by omega, hN⟩ ?_
        refine xg_aloadn 270 dL_law__269 rfl rfl rfl ?_
        refine xg_iload 272 dL_law__270 rfl rfl ?_
        refine xg_iconst 273 dL_law__272 rfl ?_
        refine xg_iadd 274 dL_law__273 rfl ?_
        refine xg_ialdS 275 dL_law__274 rfl hX ⟨by omega, hN⟩ ?_
        refine xg_callVm 278 11 [_, _, _, _, _] _ kv_X11_feed ⟨_, _, rfl⟩ kl_RL_109 dL_law__275 rfl hI0.1.1.1 (by omega) rfl rfl (Nat.le_of_ble_eq_true rfl) (by omega) ⟨by omega, by omega⟩ (ctc) rfl (fun v9 h9 e9 => ?_)
        obtain ⟨r, z1, T1, F1, I1, P1, Y1, rfl, hr, rfl, ⟨ko, kw⟩, ctm⟩ := e9
        refine xg_aloadn 279 dL_law__278 rfl rfl rfl ?_
        refine xg_aloadn 280 dL_law__279 rfl rfl rfl ?_
        refine xg_iload 282 dL_law__280 rfl rfl ?_
        refine xg_iconst 283 dL_law__282 rfl ?_
        refine xg_iadd 284 dL_law__283 rfl ?_
        refine xg_ialdS 285 dL_law__284 rfl hX ⟨by omega, hN⟩ ?_
        refine xg_aloadn 286 dL_law__285 rfl rfl rfl ?_
        refine xg_iload 288 dL_law__286 rfl rfl ?_
        refine xg_iconst 289 dL_law__288 rfl ?_
        refine xg_iadd 290 dL_law__289 rfl ?_
        refine xg_ialdS 291 dL_law__290 rfl hX ⟨by omega, hN⟩ ?_
        refine xg_aloadn 292 dL_law__291 rfl rfl rfl ?_
        refine xg_iload 294 dL_law__292 rfl rfl ?_
        refine xg_iconst 295 dL_law__294 rfl ?_
        refine xg_iadd 296 dL_law__295 rfl ?_
        refine xg_ialdS 297 dL_law__296 rfl hX ⟨by omega, hN⟩ ?_
        refine xg_aloadn 298 dL_law__297 rfl rfl rfl ?_
        refine xg_iload 300 dL_law__298 rfl rfl ?_
        refine xg_iconst 301 dL_law__300 rfl ?_
        refine xg_iadd 302 dL_law__301 rfl ?_
        refine xg_ialdS 303 dL_law__302 rfl hX ⟨by omega, hN⟩ ?_
        refine xg_aloadn 304 dL_law__303 rfl rfl rfl ?_
        refine xg_iload 306 dL_law__304 rfl rfl ?_
        refine xg_iconst 307 dL_law__306 rfl ?_
        refine xg_iadd 308 dL_law__307 rfl ?_
        refine xg_ialdS 309 dL_law__308 rfl hX ⟨by omega, hN⟩ ?_
        refine xg_callVe 312 12 [_, _, _, _, _] _ kv_X12_feed ⟨_, _, rfl⟩ kl_RL_113 dL_law__309 rfl kw.1.1 (by omega) rfl rfl (Nat.le_of_ble_eq_true rfl) (by omega) ⟨by omega, by omega⟩ (ctm) rfl (fun v9 h9 e9 => ?_)
        obtain ⟨F2, I2, ws2, rfl, rfl, hBk⟩ := e9
        refine xg_iceq 2318 315 dL_law__312 rfl rfl (by omega) (fun hb312 => ?_) (fun hb312 => ?_)
        · skip
          refine xg_iinc 2321 _ dL_law__2318 rfl rfl rfl rfl (Nat.le_of_ble_eq_true rfl) (Or.inr rfl) ?_
          refine xg_goto 23 dL_law__2321 rfl ?_
          refine xg_less7 ?_
          exact ih _ _ _ _ _ _ _ _ _ _ hBk (by omega) (by omega) (by omega) (by omega)
        · exfalso; omega
      · refine xg_tin (o := 277) 317 dL_law__40 (by omega) ⟨by omega, by omega⟩ (by rw [show (sv - 0).toNat = 1 by omega]; rfl) rfl ?_
        have ctc := pp_end hV hI0 (i32r (xs (i + 1).toNat))
        refine xg_aloadn 318 dL_law__317 rfl rfl rfl ?_
        refine xg_aloadn 319 dL_law__318 rfl rfl rfl ?_
        refine xg_iload 321 dL_law__319 rfl rfl ?_
        refine xg_iconst 322 dL_law__321 rfl ?_
        refine xg_iadd 323 dL_law__322 rfl ?_
        refine xg_ialdS 324 dL_law__323 rfl hX ⟨by omega, hN⟩ ?_
        refine xg_callVm 327 11 [_] _ kv_X11_end ⟨_, _, rfl⟩ kl_RL_114 dL_law__324 rfl hI0.1.1.1 (by omega) rfl rfl (Nat.le_of_ble_eq_true rfl) (by omega) ⟨by omega, by omega⟩ (ctc) rfl (fun v9 h9 e9 => ?_)
        obtain ⟨r, z1, T1, F1, I1, P1, Y1, rfl, hr, rfl, ⟨ko, kw⟩, ctm⟩ := e9
        refine xg_aloadn 328 dL_law__327 rfl rfl rfl ?_
        refine xg_aloadn 329 dL_law__328 rfl rfl rfl ?_
        refine xg_iload 331 dL_law__329 rfl rfl ?_
        refine xg_iconst 332 dL_law__331 rfl ?_
        refine xg_iadd 333 dL_law__332 rfl ?_
        refine xg_ialdS 334 dL_law__333 rfl hX ⟨by omega, hN⟩ ?_
        refine xg_callVe 337 12 [_] _ kv_X12_end ⟨_, _, rfl⟩ kl_RL_118 dL_law__334 rfl kw.1.1 (by omega) rfl rfl (Nat.le_of_ble_eq_true rfl) (by omega) ⟨by omega, by omega⟩ (ctm) rfl (fun v9 h9 e9 => ?_)
        obtain ⟨F2, I2, ws2, rfl, rfl, hBk⟩ := e9
        refine xg_iceq 2318 340 dL_law__337 rfl rfl (by omega) (fun hb337 => ?_) (fun hb337 => ?_)
        · skip
          refine xg_iinc 2321 _ dL_law__2318 rfl rfl rfl rfl (Nat.le_of_ble_eq_true rfl) (Or.inr rfl) ?_
          refine xg_goto 23 dL_law__2321 rfl ?_
          refine xg_less7 ?_
          exact ih _ _ _ _ _ _ _ _ _ _ hBk (by omega) (by omega) (by omega) (by omega)
        · exfalso; omega
      · refine xg_tin (o := 302) 342 dL_law__40 (by omega) ⟨by omega, by omega⟩ (by rw [show (sv - 0).toNat = 2 by omega]; rfl) rfl ?_
        obtain ⟨k, hk, ctc⟩ := op_store hV hI0 
        refine xg_aloadn 343 dL_law__342 rfl rfl rfl ?_
        refine xg_aloadn 344 dL_law__343 rfl rfl rfl ?_
        refine xg_callSH 347 [_, _] [] kh_L_store kl_RL_119 dL_law__344 rfl rfl rfl (Nat.le_of_ble_eq_true rfl) (by omega) ⟨by omega, by omega⟩ ctc (fun v9 h9 e9 => ?_)
        obtain ⟨rfl, z1, T1, F1, I1, P1, Y1, rfl, ⟨ko, kw, k16, k1⟩, ctm⟩ := e9
        refine xg_istore 349 _ dL_law__347 rfl rfl (Nat.le_of_ble_eq_true rfl) (Or.inr rfl) ?_
        refine xg_aloadn 350 dL_law__349 rfl rfl rfl ?_
        refine xg_callVe 353 12 [] _ kv_X12_store ⟨_, _, rfl⟩ kl_RL_124 dL_law__350 rfl kw.1.1 (by omega) rfl rfl (Nat.le_of_ble_eq_true rfl) (by omega) ⟨by omega, by omega⟩ (ctm) rfl (fun v9 h9 e9 => ?_)
        obtain ⟨b9, F2, I2, ws2, rfl, hb9, rfl, hBk, hk0, hout⟩ := e9
        refine xg_istore 355 _ dL_law__353 rfl rfl (Nat.le_of_ble_eq_true rfl) (Or.inr rfl) ?_
        refine xg_aloadn 356 dL_law__355 rfl rfl rfl ?_
        refine xg_callV 359 12 [] _ kv_X12_thrown ⟨_, _, rfl⟩ kl_RL_125 dL_law__356 rfl kw.1.1 (by omega) rfl rfl (Nat.le_of_ble_eq_true rfl) (by omega) ⟨by omega, by omega⟩ (Ct.own (ct_X12_thrown (I := I2) (w := I2 (m + 1)) kw)) rfl ?_
        rw [upA_id, hk0]
        refine xg_iload 361 dL_law__359 rfl rfl ?_
        refine xg_iceq 366 364 dL_law__361 rfl rfl (by omega) (fun hb361 => ?_) (fun hb361 => ?_)
        · skip
          refine xg_iload 368 dL_law__366 rfl rfl ?_
          refine xg_ifne 383 371 dL_law__368 rfl rfl (by omega) (fun hb368 => ?_) (fun hb368 => ?_)
          · skip
            refine xg_goto 2318 dL_law__383 rfl ?_
            refine xg_iinc 2321 _ dL_law__2318 rfl rfl rfl rfl (Nat.le_of_ble_eq_true rfl) (Or.inr rfl) ?_
            refine xg_goto 23 dL_law__2321 rfl ?_
            refine xg_less7 ?_
            exact ih _ _ _ _ _ _ _ _ _ _ hBk (by omega) (by omega) (by omega) (by omega)
          · skip
            refine xg_aloadn 372 dL_law__371 rfl rfl rfl ?_
            refine xg_iconst 373 dL_law__372 rfl ?_
            refine xg_lald 374 dL_law__373 rfl k16 (by rw [k1]; omega) ?_
            rw [hout (by omega)]
            refine xg_iload 376 dL_law__374 rfl rfl ?_
            refine xg_i2l 377 dL_law__376 rfl (by omega) ?_
            refine xg_lcmp 378 dL_law__377 rfl (by omega) ?_
            rw [xcmp_self]
            refine xg_ifeq 383 381 dL_law__378 rfl rfl (by omega) (fun hb378 => ?_) (fun hb378 => ?_)
            · skip
              refine xg_goto 2318 dL_law__383 rfl ?_
              refine xg_iinc 2321 _ dL_law__2318 rfl rfl rfl rfl (Nat.le_of_ble_eq_true rfl) (Or.inr rfl) ?_
              refine xg_goto 23 dL_law__2321 rfl ?_
              refine xg_less7 ?_
              exact ih _ _ _ _ _ _ _ _ _ _ hBk (by omega) (by omega) (by omega) (by omega)
            · exfalso; omega
        · exfalso; omega
      · refine xg_tin (o := 346) 386 dL_law__40 (by omega) ⟨by omega, by omega⟩ (by rw [show (sv - 0).toNat = 3 by omega]; rfl) rfl ?_
        obtain ⟨k, hk, ctc⟩ := op_law hV hI0 
        refine xg_aloadn 387 dL_law__386 rfl rfl rfl ?_
        refine xg_aloadn 388 dL_law__387 rfl rfl rfl ?_
        refine xg_callSH 391 [_, _] [] kh_L_law kl_RL_128 dL_law__388 rfl rfl rfl (Nat.le_of_ble_eq_true rfl) (by omega) ⟨by omega, by omega⟩ ctc (fun v9 h9 e9 => ?_)
        obtain ⟨rfl, z1, T1, F1, I1, P1, Y1, rfl, ⟨ko, kw, k16, k1⟩, ctm⟩ := e9
        refine xg_istore 393 _ dL_law__391 rfl rfl (Nat.le_of_ble_eq_true rfl) (Or.inr rfl) ?_
        refine xg_aloadn 394 dL_law__393 rfl rfl rfl ?_
        refine xg_callVe 397 12 [] _ kv_X12_law ⟨_, _, rfl⟩ kl_RL_130 dL_law__394 rfl kw.1.1 (by omega) rfl rfl (Nat.le_of_ble_eq_true rfl) (by omega) ⟨by omega, by omega⟩ (ctm) rfl (fun v9 h9 e9 => ?_)
        obtain ⟨b9, F2, I2, ws2, rfl, hb9, rfl, hBk, hk0, hout⟩ := e9
        refine xg_istore 399 _ dL_law__397 rfl rfl (Nat.le_of_ble_eq_true rfl) (Or.inr rfl) ?_
        refine xg_aloadn 400 dL_law__399 rfl rfl rfl ?_
        refine xg_callV 403 12 [] _ kv_X12_thrown ⟨_, _, rfl⟩ kl_RL_125 dL_law__400 rfl kw.1.1 (by omega) rfl rfl (Nat.le_of_ble_eq_true rfl) (by omega) ⟨by omega, by omega⟩ (Ct.own (ct_X12_thrown (I := I2) (w := I2 (m + 1)) kw)) rfl ?_
        rw [upA_id, hk0]
        refine xg_iload 405 dL_law__403 rfl rfl ?_
        refine xg_iceq 410 408 dL_law__405 rfl rfl (by omega) (fun hb405 => ?_) (fun hb405 => ?_)
        · skip
          refine xg_iload 412 dL_law__410 rfl rfl ?_
          refine xg_ifne 427 415 dL_law__412 rfl rfl (by omega) (fun hb412 => ?_) (fun hb412 => ?_)
          · skip
            refine xg_goto 2318 dL_law__427 rfl ?_
            refine xg_iinc 2321 _ dL_law__2318 rfl rfl rfl rfl (Nat.le_of_ble_eq_true rfl) (Or.inr rfl) ?_
            refine xg_goto 23 dL_law__2321 rfl ?_
            refine xg_less7 ?_
            exact ih _ _ _ _ _ _ _ _ _ _ hBk (by omega) (by omega) (by omega) (by omega)
          · skip
            refine xg_aloadn 416 dL_law__415 rfl rfl rfl ?_
            refine xg_iconst 417 dL_law__416 rfl ?_
            refine xg_lald 418 dL_law__417 rfl k16 (by rw [k1]; omega) ?_
            rw [hout (by omega)]
            refine xg_iload 420 dL_law__418 rfl rfl ?_
            refine xg_i2l 421 dL_law__420 rfl (by omega) ?_
            refine xg_lcmp 422 dL_law__421 rfl (by omega) ?_
            rw [xcmp_self]
            refine xg_ifeq 427 425 dL_law__422 rfl rfl (by omega) (fun hb422 => ?_) (fun hb422 => ?_)
            · skip
              refine xg_goto 2318 dL_law__427 rfl ?_
              refine xg_iinc 2321 _ dL_law__2318 rfl rfl rfl rfl (Nat.le_of_ble_eq_true rfl) (Or.inr rfl) ?_
              refine xg_goto 23 dL_law__2321 rfl ?_
              refine xg_less7 ?_
              exact ih _ _ _ _ _ _ _ _ _ _ hBk (by omega) (by omega) (by omega) (by omega)
            · exfalso; omega
        · exfalso; omega
      · refine xg_tin (o := 390) 430 dL_law__40 (by omega) ⟨by omega, by omega⟩ (by rw [show (sv - 0).toNat = 4 by omega]; rfl) rfl ?_
        have ctc := pp_fault hV hI0 
        refine xg_aloadn 431 dL_law__430 rfl rfl rfl ?_
        refine xg_callVm 434 11 [] _ kv_X11_fault ⟨_, _, rfl⟩ kl_RL_131 dL_law__431 rfl hI0.1.1.1 (by omega) rfl rfl (Nat.le_of_ble_eq_true rfl) (by omega) ⟨by omega, by omega⟩ (ctc) rfl (fun v9 h9 e9 => ?_)
        obtain ⟨r, z1, T1, F1, I1, P1, Y1, rfl, hr, rfl, ⟨ko, kw⟩, ctm⟩ := e9
        refine xg_aloadn 435 dL_law__434 rfl rfl rfl ?_
        refine xg_callVe 438 12 [] _ kv_X12_fault ⟨_, _, rfl⟩ kl_RL_134 dL_law__435 rfl kw.1.1 (by omega) rfl rfl (Nat.le_of_ble_eq_true rfl) (by omega) ⟨by omega, by omega⟩ (ctm) rfl (fun v9 h9 e9 => ?_)
        obtain ⟨F2, I2, ws2, rfl, rfl, hBk⟩ := e9
        refine xg_iceq 2318 441 dL_law__438 rfl rfl (by omega) (fun hb438 => ?_) (fun hb438 => ?_)
        · skip
          refine xg_iinc 2321 _ dL_law__2318 rfl rfl rfl rfl (Nat.le_of_ble_eq_true rfl) (Or.inr rfl) ?_
          refine xg_goto 23 dL_law__2321 rfl ?_
          refine xg_less7 ?_
          exact ih _ _ _ _ _ _ _ _ _ _ hBk (by omega) (by omega) (by omega) (by omega)
        · exfalso; omega
      · refine xg_tin (o := 403) 443 dL_law__40 (by omega) ⟨by omega, by omega⟩ (by rw [show (sv - 0).toNat = 5 by omega]; rfl) rfl ?_
        obtain ⟨k, hk, ctc⟩ := op_run hV hI0 (i32r (xs (i + 1).toNat)) (i32r (xs (i + 2).toNat))
        refine xg_aloadn 444 dL_law__443 rfl rfl rfl ?_
        refine xg_aloadn 445 dL_law__444 rfl rfl rfl ?_
        refine xg_iload 447 dL_law__445 rfl rfl ?_
        refine xg_iconst 448 dL_law__447 rfl ?_
        refine xg_iadd 449 dL_law__448 rfl ?_
        refine xg_ialdS 450 dL_law__449 rfl hX ⟨by omega, hN⟩ ?_
        refine xg_aloadn 451 dL_law__450 rfl rfl rfl ?_
        refine xg_iload 453 dL_law__451 rfl rfl ?_
        refine xg_iconst 454 dL_law__453 rfl ?_
        refine xg_iadd 455 dL_law__454 rfl ?_
        refine xg_ialdS 456 dL_law__455 rfl hX ⟨by omega, hN⟩ ?_
        refine xg_aloadn 457 dL_law__456 rfl rfl rfl ?_
        refine xg_callSH 460 [_, _, _, _] [] kh_L_run kl_RL_135 dL_law__457 rfl rfl rfl (Nat.le_of_ble_eq_true rfl) (by omega) ⟨by omega, by omega⟩ ctc (fun v9 h9 e9 => ?_)
        obtain ⟨rfl, z1, T1, F1, I1, P1, Y1, rfl, ⟨ko, kw, k16, k1⟩, ctm⟩ := e9
        refine xg_istore 462 _ dL_law__460 rfl rfl (Nat.le_of_ble_eq_true rfl) (Or.inr rfl) ?_
        refine xg_aloadn 463 dL_law__462 rfl rfl rfl ?_
        refine xg_aloadn 464 dL_law__463 rfl rfl rfl ?_
        refine xg_iload 466 dL_law__464 rfl rfl ?_
        refine xg_iconst 467 dL_law__466 rfl ?_
        refine xg_iadd 468 dL_law__467 rfl ?_
        refine xg_ialdS 469 dL_law__468 rfl hX ⟨by omega, hN⟩ ?_
        refine xg_aloadn 470 dL_law__469 rfl rfl rfl ?_
        refine xg_iload 472 dL_law__470 rfl rfl ?_
        refine xg_iconst 473 dL_law__472 rfl ?_
        refine xg_iadd 474 dL_law__473 rfl ?_
        refine xg_ialdS 475 dL_law__474 rfl hX ⟨by omega, hN⟩ ?_
        refine xg_callVe 478 12 [_, _] _ kv_X12_run ⟨_, _, rfl⟩ kl_RL_138 dL_law__475 rfl kw.1.1 (by omega) rfl rfl (Nat.le_of_ble_eq_true rfl) (by omega) ⟨by omega, by omega⟩ (ctm) rfl (fun v9 h9 e9 => ?_)
        obtain ⟨b9, F2, I2, ws2, rfl, hb9, rfl, hBk, hk0, hout⟩ := e9
        refine xg_istore 480 _ dL_law__478 rfl rfl (Nat.le_of_ble_eq_true rfl) (Or.inr rfl) ?_
        refine xg_aloadn 481 dL_law__480 rfl rfl rfl ?_
        refine xg_callV 484 12 [] _ kv_X12_thrown ⟨_, _, rfl⟩ kl_RL_125 dL_law__481 rfl kw.1.1 (by omega) rfl rfl (Nat.le_of_ble_eq_true rfl) (by omega) ⟨by omega, by omega⟩ (Ct.own (ct_X12_thrown (I := I2) (w := I2 (m + 1)) kw)) rfl ?_
        rw [upA_id, hk0]
        refine xg_iload 486 dL_law__484 rfl rfl ?_
        refine xg_iceq 491 489 dL_law__486 rfl rfl (by omega) (fun hb486 => ?_) (fun hb486 => ?_)
        · skip
          refine xg_iload 493 dL_law__491 rfl rfl ?_
          refine xg_ifne 508 496 dL_law__493 rfl rfl (by omega) (fun hb493 => ?_) (fun hb493 => ?_)
          · skip
            refine xg_goto 2318 dL_law__508 rfl ?_
            refine xg_iinc 2321 _ dL_law__2318 rfl rfl rfl rfl (Nat.le_of_ble_eq_true rfl) (Or.inr rfl) ?_
            refine xg_goto 23 dL_law__2321 rfl ?_
            refine xg_less7 ?_
            exact ih _ _ _ _ _ _ _ _ _ _ hBk (by omega) (by omega) (by omega) (by omega)
          · skip
            refine xg_aloadn 497 dL_law__496 rfl rfl rfl ?_
            refine xg_iconst 498 dL_law__497 rfl ?_
            refine xg_lald 499 dL_law__498 rfl k16 (by rw [k1]; omega) ?_
            rw [hout (by omega)]
            refine xg_iload 501 dL_law__499 rfl rfl ?_
            refine xg_i2l 502 dL_law__501 rfl (by omega) ?_
            refine xg_lcmp 503 dL_law__502 rfl (by omega) ?_
            rw [xcmp_self]
            refine xg_ifeq 508 506 dL_law__503 rfl rfl (by omega) (fun hb503 => ?_) (fun hb503 => ?_)
            · skip
              refine xg_goto 2318 dL_law__508 rfl ?_
              refine xg_iinc 2321 _ dL_law__2318 rfl rfl rfl rfl (Nat.le_of_ble_eq_true rfl) (Or.inr rfl) ?_
              refine xg_goto 23 dL_law__2321 rfl ?_
              refine xg_less7 ?_
              exact ih _ _ _ _ _ _ _ _ _ _ hBk (by omega) (by omega) (by omega) (by omega)
            · exfalso; omega
        · exfalso; omega
      · refine xg_tin (o := 471) 511 dL_law__40 (by omega) ⟨by omega, by omega⟩ (by rw [show (sv - 0).toNat = 6 by omega]; rfl) rfl ?_
        obtain ⟨k, hk, ctc⟩ := op_entry hV hI0 (i32r (xs (i + 1).toNat)) (i32r (xs (i + 2).toNat)) (i32r (xs (i + 3).toNat))
        refine xg_aloadn 512 dL_law__511 rfl rfl rfl ?_
        refine xg_aloadn 513 dL_law__512 rfl rfl rfl ?_
        refine xg_iload 515 dL_law__513 rfl rfl ?_
        refine xg_iconst 516 dL_law__515 rfl ?_
        refine xg_iadd 517 dL_law__516 rfl ?_
        refine xg_ialdS 518 dL_law__517 rfl hX ⟨by omega, hN⟩ ?_
        refine xg_aloadn 519 dL_law__518 rfl rfl rfl ?_
        refine xg_iload 521 dL_law__519 rfl rfl ?_
        refine xg_iconst 522 dL_law__521 rfl ?_
        refine xg_iadd 523 dL_law__522 rfl ?_
        refine xg_ialdS 524 dL_law__523 rfl hX ⟨by omega, hN⟩ ?_
        refine xg_aloadn 525 dL_law__524 rfl rfl rfl ?_
        refine xg_iload 527 dL_law__525 rfl rfl ?_
        refine xg_iconst 528 dL_law__527 rfl ?_
        refine xg_iadd 529 dL_law__528 rfl ?_
        refine xg_ialdS 530 dL_law__529 rfl hX ⟨by omega, hN⟩ ?_
        refine xg_aloadn 531 dL_law__530 rfl rfl rfl ?_
        refine xg_callSH 534 [_, _, _, _, _] [] kh_L_entry kl_RL_139 dL_law__531 rfl rfl rfl (Nat.le_of_ble_eq_true rfl) (by omega) ⟨by omega, by omega⟩ ctc (fun v9 h9 e9 => ?_)
        obtain ⟨rfl, z1, T1, F1, I1, P1, Y1, rfl, ⟨ko, kw, k16, k1⟩, ctm⟩ := e9
        refine xg_istore 536 _ dL_law__534 rfl rfl (Nat.le_of_ble_eq_true rfl) (Or.inr rfl) ?_
        refine xg_aloadn 537 dL_law__536 rfl rfl rfl ?_
        refine xg_aloadn 538 dL_law__537 rfl rfl rfl ?_
        refine xg_iload 540 dL_law__538 rfl rfl ?_
        refine xg_iconst 541 dL_law__540 rfl ?_
        refine xg_iadd 542 dL_law__541 rfl ?_
        refine xg_ialdS 543 dL_law__542 rfl hX ⟨by omega, hN⟩ ?_
        refine xg_aloadn 544 dL_law__543 rfl rfl rfl ?_
        refine xg_iload 546 dL_law__544 rfl rfl ?_
        refine xg_iconst 547 dL_law__546 rfl ?_
        refine xg_iadd 548 dL_law__547 rfl ?_
        refine xg_ialdS 549 dL_law__548 rfl hX ⟨by omega, hN⟩ ?_
        refine xg_aloadn 550 dL_law__549 rfl rfl rfl ?_
        refine xg_iload 552 dL_law__550 rfl rfl ?_
        refine xg_iconst 553 dL_law__552 rfl ?_
        refine xg_iadd 554 dL_law__553 rfl ?_
        refine xg_ialdS 555 dL_law__554 rfl hX ⟨by omega, hN⟩ ?_
        refine xg_callVe 558 12 [_, _, _] _ kv_X12_entry ⟨_, _, rfl⟩ kl_RL_142 dL_law__555 rfl kw.1.1 (by omega) rfl rfl (Nat.le_of_ble_eq_true rfl) (by omega) ⟨by omega, by omega⟩ (ctm) rfl (fun v9 h9 e9 => ?_)
        obtain ⟨b9, F2, I2, ws2, rfl, hb9, rfl, hBk, hk0, hout⟩ := e9
        refine xg_istore 560 _ dL_law__558 rfl rfl (Nat.le_of_ble_eq_true rfl) (Or.inr rfl) ?_
        refine xg_aloadn 561 dL_law__560 rfl rfl rfl ?_
        refine xg_callV 564 12 [] _ kv_X12_thrown ⟨_, _, rfl⟩ kl_RL_125 dL_law__561 rfl kw.1.1 (by omega) rfl rfl (Nat.le_of_ble_eq_true rfl) (by omega) ⟨by omega, by omega⟩ (Ct.own (ct_X12_thrown (I := I2) (w := I2 (m + 1)) kw)) rfl ?_
        rw [upA_id, hk0]
        refine xg_iload 566 dL_law__564 rfl rfl ?_
        refine xg_iceq 571 569 dL_law__566 rfl rfl (by omega) (fun hb566 => ?_) (fun hb566 => ?_)
        · skip
          refine xg_iload 573 dL_law__571 rfl rfl ?_
          refine xg_ifne 588 576 dL_law__573 rfl rfl (by omega) (fun hb573 => ?_) (fun hb573 => ?_)
          · skip
            refine xg_goto 2318 dL_law__588 rfl ?_
            refine xg_iinc 2321 _ dL_law__2318 rfl rfl rfl rfl (Nat.le_of_ble_eq_true rfl) (Or.inr rfl) ?_
            refine xg_goto 23 dL_law__2321 rfl ?_
            refine xg_less7 ?_
            exact ih _ _ _ _ _ _ _ _ _ _ hBk (by omega) (by omega) (by omega) (by omega)
          · skip
            refine xg_aloadn 577 dL_law__576 rfl rfl rfl ?_
            refine xg_iconst 578 dL_law__577 rfl ?_
            refine xg_lald 579 dL_law__578 rfl k16 (by rw [k1]; omega) ?_
            rw [hout (by omega)]
            refine xg_iload 581 dL_law__579 rfl rfl ?_
            refine xg_i2l 582 dL_law__581 rfl (by omega) ?_
            refine xg_lcmp 583 dL_law__582 rfl (by omega) ?_
            rw [xcmp_self]
            refine xg_ifeq 588 586 dL_law__583 rfl rfl (by omega) (fun hb583 => ?_) (fun hb583 => ?_)
            · skip
              refine xg_goto 2318 dL_law__588 rfl ?_
              refine xg_iinc 2321 _ dL_law__2318 rfl rfl rfl rfl (Nat.le_of_ble_eq_true rfl) (Or.inr rfl) ?_
              refine xg_goto 23 dL_law__2321 rfl ?_
              refine xg_less7 ?_
              exact ih _ _ _ _ _ _ _ _ _ _ hBk (by omega) (by omega) (by omega) (by omega)
            · exfalso; omega
        · exfalso; omega
      · refine xg_tin (o := 551) 591 dL_law__40 (by omega) ⟨by omega, by omega⟩ (by rw [show (sv - 0).toNat = 7 by omega]; rfl) rfl ?_
        obtain ⟨k, hk, ctc⟩ := op_level hV hI0 (i32r (xs (i + 1).toNat)) (i32r (xs (i + 2).toNat))
        refine xg_aloadn 592 dL_law__591 rfl rfl rfl ?_
        refine xg_aloadn 593 dL_law__592 rfl rfl rfl ?_
        refine xg_iload 595 dL_law__593 rfl rfl ?_
        refine xg_iconst 596 dL_law__595 rfl ?_
        refine xg_iadd 597 dL_law__596 rfl ?_
        refine xg_ialdS 598 dL_law__597 rfl hX ⟨by omega, hN⟩ ?_
        refine xg_aloadn 599 dL_law__598 rfl rfl rfl ?_
        refine xg_iload 601 dL_law__599 rfl rfl ?_
        refine xg_iconst 602 dL_law__601 rfl ?_
        refine xg_iadd 603 dL_law__602 rfl ?_
        refine xg_ialdS 604 dL_law__603 rfl hX ⟨by omega, hN⟩ ?_
        refine xg_aloadn 605 dL_law__604 rfl rfl rfl ?_
        refine xg_callSH 608 [_, _, _, _] [] kh_L_level kl_RL_143 dL_law__605 rfl rfl rfl (Nat.le_of_ble_eq_true rfl) (by omega) ⟨by omega, by omega⟩ ctc (fun v9 h9 e9 => ?_)
        obtain ⟨rfl, z1, T1, F1, I1, P1, Y1, rfl, ⟨ko, kw, k16, k1⟩, ctm⟩ := e9
        refine xg_istore 610 _ dL_law__608 rfl rfl (Nat.le_of_ble_eq_true rfl) (Or.inr rfl) ?_
        refine xg_aloadn 611 dL_law__610 rfl rfl rfl ?_
        refine xg_aloadn 612 dL_law__611 rfl rfl rfl ?_
        refine xg_iload 614 dL_law__612 rfl rfl ?_
        refine xg_iconst 615 dL_law__614 rfl ?_
        refine xg_iadd 616 dL_law__615 rfl ?_
        refine xg_ialdS 617 dL_law__616 rfl hX ⟨by omega, hN⟩ ?_
        refine xg_aloadn 618 dL_law__617 rfl rfl rfl ?_
        refine xg_iload 620 dL_law__618 rfl rfl ?_
        refine xg_iconst 621 dL_law__620 rfl ?_
        refine xg_iadd 622 dL_law__621 rfl ?_
        refine xg_ialdS 623 dL_law__622 rfl hX ⟨by omega, hN⟩ ?_
        refine xg_callVe 626 12 [_, _] _ kv_X12_level ⟨_, _, rfl⟩ kl_RL_145 dL_law__623 rfl kw.1.1 (by omega) rfl rfl (Nat.le_of_ble_eq_true rfl) (by omega) ⟨by omega, by omega⟩ (ctm) rfl (fun v9 h9 e9 => ?_)
        obtain ⟨b9, F2, I2, ws2, rfl, hb9, rfl, hBk, hk0, hout⟩ := e9
        refine xg_istore 628 _ dL_law__626 rfl rfl (Nat.le_of_ble_eq_true rfl) (Or.inr rfl) ?_
        refine xg_aloadn 629 dL_law__628 rfl rfl rfl ?_
        refine xg_callV 632 12 [] _ kv_X12_thrown ⟨_, _, rfl⟩ kl_RL_125 dL_law__629 rfl kw.1.1 (by omega) rfl rfl (Nat.le_of_ble_eq_true rfl) (by omega) ⟨by omega, by omega⟩ (Ct.own (ct_X12_thrown (I := I2) (w := I2 (m + 1)) kw)) rfl ?_
        rw [upA_id, hk0]
        refine xg_iload 634 dL_law__632 rfl rfl ?_
        refine xg_iceq 639 637 dL_law__634 rfl rfl (by omega) (fun hb634 => ?_) (fun hb634 => ?_)
        · skip
          refine xg_iload 641 dL_law__639 rfl rfl ?_
          refine xg_ifne 656 644 dL_law__641 rfl rfl (by omega) (fun hb641 => ?_) (fun hb641 => ?_)
          · skip
            refine xg_goto 2318 dL_law__656 rfl ?_
            refine xg_iinc 2321 _ dL_law__2318 rfl rfl rfl rfl (Nat.le_of_ble_eq_true rfl) (Or.inr rfl) ?_
            refine xg_goto 23 dL_law__2321 rfl ?_
            refine xg_less7 ?_
            exact ih _ _ _ _ _ _ _ _ _ _ hBk (by omega) (by omega) (by omega) (by omega)
          · skip
            refine xg_aloadn 645 dL_law__644 rfl rfl rfl ?_
            refine xg_iconst 646 dL_law__645 rfl ?_
            refine xg_lald 647 dL_law__646 rfl k16 (by rw [k1]; omega) ?_
            rw [hout (by omega)]
            refine xg_iload 649 dL_law__647 rfl rfl ?_
            refine xg_i2l 650 dL_law__649 rfl (by omega) ?_
            refine xg_lcmp 651 dL_law__650 rfl (by omega) ?_
            rw [xcmp_self]
            refine xg_ifeq 656 654 dL_law__651 rfl rfl (by omega) (fun hb651 => ?_) (fun hb651 => ?_)
            · skip
              refine xg_goto 2318 dL_law__656 rfl ?_
              refine xg_iinc 2321 _ dL_law__2318 rfl rfl rfl rfl (Nat.le_of_ble_eq_true rfl) (Or.inr rfl) ?_
              refine xg_goto 23 dL_law__2321 rfl ?_
              refine xg_less7 ?_
              exact ih _ _ _ _ _ _ _ _ _ _ hBk (by omega) (by omega) (by omega) (by omega)
            · exfalso; omega
        · exfalso; omega
      · refine xg_tin (o := 619) 659 dL_law__40 (by omega) ⟨by omega, by omega⟩ (by rw [show (sv - 0).toNat = 8 by omega]; rfl) rfl ?_
        obtain ⟨k, hk, ctc⟩ := op_job hV hI0 (i32r (xs (i + 1).toNat))
        refine xg_aloadn 660 dL_law__659 rfl rfl rfl ?_
        refine xg_aloadn 661 dL_law__660 rfl rfl rfl ?_
        refine xg_iload 663 dL_law__661 rfl rfl ?_
        refine xg_iconst 664 dL_law__663 rfl ?_
        refine xg_iadd 665 dL_law__664 rfl ?_
        refine xg_ialdS 666 dL_law__665 rfl hX ⟨by omega, hN⟩ ?_
        refine xg_aloadn 667 dL_law__666 rfl rfl rfl ?_
        refine xg_callSH 670 [_, _, _] [] kh_L_job kl_RL_146 dL_law__667 rfl rfl rfl (Nat.le_of_ble_eq_true rfl) (by omega) ⟨by omega, by omega⟩ ctc (fun v9 h9 e9 => ?_)
        obtain ⟨rfl, z1, T1, F1, I1, P1, Y1, rfl, ⟨ko, kw, k16, k1⟩, ctm⟩ := e9
        refine xg_istore 672 _ dL_law__670 rfl rfl (Nat.le_of_ble_eq_true rfl) (Or.inr rfl) ?_
        refine xg_aloadn 673 dL_law__672 rfl rfl rfl ?_
        refine xg_aloadn 674 dL_law__673 rfl rfl rfl ?_
        refine xg_iload 676 dL_law__674 rfl rfl ?_
        refine xg_iconst 677 dL_law__676 rfl ?_
        refine xg_iadd 678 dL_law__677 rfl ?_
        refine xg_ialdS 679 dL_law__678 rfl hX ⟨by omega, hN⟩ ?_
        refine xg_callVe 682 12 [_] _ kv_X12_job ⟨_, _, rfl⟩ kl_RL_149 dL_law__679 rfl kw.1.1 (by omega) rfl rfl (Nat.le_of_ble_eq_true rfl) (by omega) ⟨by omega, by omega⟩ (ctm) rfl (fun v9 h9 e9 => ?_)
        obtain ⟨b9, F2, I2, ws2, rfl, hb9, rfl, hBk, hk0, hout⟩ := e9
        refine xg_istore 684 _ dL_law__682 rfl rfl (Nat.le_of_ble_eq_true rfl) (Or.inr rfl) ?_
        refine xg_aloadn 685 dL_law__684 rfl rfl rfl ?_
        refine xg_callV 688 12 [] _ kv_X12_thrown ⟨_, _, rfl⟩ kl_RL_125 dL_law__685 rfl kw.1.1 (by omega) rfl rfl (Nat.le_of_ble_eq_true rfl) (by omega) ⟨by omega, by omega⟩ (Ct.own (ct_X12_thrown (I := I2) (w := I2 (m + 1)) kw)) rfl ?_
        rw [upA_id, hk0]
        refine xg_iload 690 dL_law__688 rfl rfl ?_
        refine xg_iceq 695 693 dL_law__690 rfl rfl (by omega) (fun hb690 => ?_) (fun hb690 => ?_)
        · skip
          refine xg_iload 697 dL_law__695 rfl rfl ?_
          refine xg_ifne 712 700 dL_law__697 rfl rfl (by omega) (fun hb697 => ?_) (fun hb697 => ?_)
          · skip
            refine xg_goto 2318 dL_law__712 rfl ?_
            refine xg_iinc 2321 _ dL_law__2318 rfl rfl rfl rfl (Nat.le_of_ble_eq_true rfl) (Or.inr rfl) ?_
            refine xg_goto 23 dL_law__2321 rfl ?_
            refine xg_less7 ?_
            exact ih _ _ _ _ _ _ _ _ _ _ hBk (by omega) (by omega) (by omega) (by omega)
          · skip
            refine xg_aloadn 701 dL_law__700 rfl rfl rfl ?_
            refine xg_iconst 702 dL_law__701 rfl ?_
            refine xg_lald 703 dL_law__702 rfl k16 (by rw [k1]; omega) ?_
            rw [hout (by omega)]
            refine xg_iload 705 dL_law__703 rfl rfl ?_
            refine xg_i2l 706 dL_law__705 rfl (by omega) ?_
            refine xg_lcmp 707 dL_law__706 rfl (by omega) ?_
            rw [xcmp_self]
            refine xg_ifeq 712 710 dL_law__707 rfl rfl (by omega) (fun hb707 => ?_) (fun hb707 => ?_)
            · skip
              refine xg_goto 2318 dL_law__712 rfl ?_
              refine xg_iinc 2321 _ dL_law__2318 rfl rfl rfl rfl (Nat.le_of_ble_eq_true rfl) (Or.inr rfl) ?_
              refine xg_goto 23 dL_law__2321 rfl ?_
              refine xg_less7 ?_
              exact ih _ _ _ _ _ _ _ _ _ _ hBk (by omega) (by omega) (by omega) (by omega)
            · exfalso; omega
        · exfalso; omega
      · refine xg_tin (o := 675) 715 dL_law__40 (by omega) ⟨by omega, by omega⟩ (by rw [show (sv - 0).toNat = 9 by omega]; rfl) rfl ?_
        have ctc := pp_debt hV hI0 
        refine xg_aloadn 716 dL_law__715 rfl rfl rfl ?_
        refine xg_callVm 719 11 [] _ kv_X11_debt ⟨_, _, rfl⟩ kl_RL_150 dL_law__716 rfl hI0.1.1.1 (by omega) rfl rfl (Nat.le_of_ble_eq_true rfl) (by omega) ⟨by omega, by omega⟩ (ctc) rfl (fun v9 h9 e9 => ?_)
        obtain ⟨r, z1, T1, F1, I1, P1, Y1, rfl, hr, rfl, ⟨ko, kw⟩, ctm⟩ := e9
        refine xg_aloadn 720 dL_law__719 rfl rfl rfl ?_
        refine xg_callVe 723 12 [] _ kv_X12_debt ⟨_, _, rfl⟩ kl_RL_153 dL_law__720 rfl kw.1.1 (by omega) rfl rfl (Nat.le_of_ble_eq_true rfl) (by omega) ⟨by omega, by omega⟩ (ctm) rfl (fun v9 h9 e9 => ?_)
        obtain ⟨F2, I2, ws2, rfl, rfl, hBk⟩ := e9
        refine xg_iceq 2318 726 dL_law__723 rfl rfl (by omega) (fun hb723 => ?_) (fun hb723 => ?_)
        · skip
          refine xg_iinc 2321 _ dL_law__2318 rfl rfl rfl rfl (Nat.le_of_ble_eq_true rfl) (Or.inr rfl) ?_
          refine xg_goto 23 dL_law__2321 rfl ?_
          refine xg_less7 ?_
          exact ih _ _ _ _ _ _ _ _ _ _ hBk (by omega) (by omega) (by omega) (by omega)
        · exfalso; omega
      · refine xg_tin (o := 688) 728 dL_law__40 (by omega) ⟨by omega, by omega⟩ (by rw [show (sv - 0).toNat = 10 by omega]; rfl) rfl ?_
        have ctc := pp_slice hV hI0 
        refine xg_aloadn 729 dL_law__728 rfl rfl rfl ?_
        refine xg_callVm 732 11 [] _ kv_X11_slice ⟨_, _, rfl⟩ kl_RL_154 dL_law__729 rfl hI0.1.1.1 (by omega) rfl rfl (Nat.le_of_ble_eq_true rfl) (by omega) ⟨by omega, by omega⟩ (ctc) rfl (fun v9 h9 e9 => ?_)
        obtain ⟨r, z1, T1, F1, I1, P1, Y1, rfl, hr, rfl, ⟨ko, kw⟩, ctm⟩ := e9
        refine xg_aloadn 733 dL_law__732 rfl rfl rfl ?_
        refine xg_callVe 736 12 [] _ kv_X12_slice ⟨_, _, rfl⟩ kl_RL_157 dL_law__733 rfl kw.1.1 (by omega) rfl rfl (Nat.le_of_ble_eq_true rfl) (by omega) ⟨by omega, by omega⟩ (ctm) rfl (fun v9 h9 e9 => ?_)
        obtain ⟨F2, I2, ws2, rfl, rfl, hBk⟩ := e9
        refine xg_iceq 2318 739 dL_law__736 rfl rfl (by omega) (fun hb736 => ?_) (fun hb736 => ?_)
        · skip
          refine xg_iinc 2321 _ dL_law__2318 rfl rfl rfl rfl (Nat.le_of_ble_eq_true rfl) (Or.inr rfl) ?_
          refine xg_goto 23 dL_law__2321 rfl ?_
          refine xg_less7 ?_
          exact ih _ _ _ _ _ _ _ _ _ _ hBk (by omega) (by omega) (by omega) (by omega)
        · exfalso; omega
      · refine xg_tin (o := 701) 741 dL_law__40 (by omega) ⟨by omega, by omega⟩ (by rw [show (sv - 0).toNat = 11 by omega]; rfl) rfl ?_
        obtain ⟨k, hk, ctc⟩ := op_ticks hV hI0 (i32r (xs (i + 1).toNat))
        refine xg_aloadn 742 dL_law__741 rfl rfl rfl ?_
        refine xg_aloadn 743 dL_law__742 rfl rfl rfl ?_
        refine xg_iload 745 dL_law__743 rfl rfl ?_
        refine xg_iconst 746 dL_law__745 rfl ?_
        refine xg_iadd 747 dL_law__746 rfl ?_
        refine xg_ialdS 748 dL_law__747 rfl hX ⟨by omega, hN⟩ ?_
        refine xg_aloadn 749 dL_law__748 rfl rfl rfl ?_
        refine xg_callSH 752 [_, _, _] [] kh_L_ticks kl_RL_158 dL_law__749 rfl rfl rfl (Nat.le_of_ble_eq_true rfl) (by omega) ⟨by omega, by omega⟩ ctc (fun v9 h9 e9 => ?_)
        obtain ⟨rfl, z1, T1, F1, I1, P1, Y1, rfl, ⟨ko, kw, k16, k1⟩, ctm⟩ := e9
        refine xg_istore 754 _ dL_law__752 rfl rfl (Nat.le_of_ble_eq_true rfl) (Or.inr rfl) ?_
        refine xg_aloadn 755 dL_law__754 rfl rfl rfl ?_
        refine xg_aloadn 756 dL_law__755 rfl rfl rfl ?_
        refine xg_iload 758 dL_law__756 rfl rfl ?_
        refine xg_iconst 759 dL_law__758 rfl ?_
        refine xg_iadd 760 dL_law__759 rfl ?_
        refine xg_ialdS 761 dL_law__760 rfl hX ⟨by omega, hN⟩ ?_
        refine xg_callVe 764 12 [_] _ kv_X12_ticks ⟨_, _, rfl⟩ kl_RL_160 dL_law__761 rfl kw.1.1 (by omega) rfl rfl (Nat.le_of_ble_eq_true rfl) (by omega) ⟨by omega, by omega⟩ (ctm) rfl (fun v9 h9 e9 => ?_)
        obtain ⟨b9, F2, I2, ws2, rfl, hb9, rfl, hBk, hk0, hout⟩ := e9
        refine xg_istore 766 _ dL_law__764 rfl rfl (Nat.le_of_ble_eq_true rfl) (Or.inr rfl) ?_
        refine xg_aloadn 767 dL_law__766 rfl rfl rfl ?_
        refine xg_callV 770 12 [] _ kv_X12_thrown ⟨_, _, rfl⟩ kl_RL_125 dL_law__767 rfl kw.1.1 (by omega) rfl rfl (Nat.le_of_ble_eq_true rfl) (by omega) ⟨by omega, by omega⟩ (Ct.own (ct_X12_thrown (I := I2) (w := I2 (m + 1)) kw)) rfl ?_
        rw [upA_id, hk0]
        refine xg_iload 772 dL_law__770 rfl rfl ?_
        refine xg_iceq 777 775 dL_law__772 rfl rfl (by omega) (fun hb772 => ?_) (fun hb772 => ?_)
        · skip
          refine xg_iload 779 dL_law__777 rfl rfl ?_
          refine xg_ifne 794 782 dL_law__779 rfl rfl (by omega) (fun hb779 => ?_) (fun hb779 => ?_)
          · skip
            refine xg_goto 2318 dL_law__794 rfl ?_
            refine xg_iinc 2321 _ dL_law__2318 rfl rfl rfl rfl (Nat.le_of_ble_eq_true rfl) (Or.inr rfl) ?_
            refine xg_goto 23 dL_law__2321 rfl ?_
            refine xg_less7 ?_
            exact ih _ _ _ _ _ _ _ _ _ _ hBk (by omega) (by omega) (by omega) (by omega)
          · skip
            refine xg_aloadn 783 dL_law__782 rfl rfl rfl ?_
            refine xg_iconst 784 dL_law__783 rfl ?_
            refine xg_lald 785 dL_law__784 rfl k16 (by rw [k1]; omega) ?_
            rw [hout (by omega)]
            refine xg_iload 787 dL_law__785 rfl rfl ?_
            refine xg_i2l 788 dL_law__787 rfl (by omega) ?_
            refine xg_lcmp 789 dL_law__788 rfl (by omega) ?_
            rw [xcmp_self]
            refine xg_ifeq 794 792 dL_law__789 rfl rfl (by omega) (fun hb789 => ?_) (fun hb789 => ?_)
            · skip
              refine xg_goto 2318 dL_law__794 rfl ?_
              refine xg_iinc 2321 _ dL_law__2318 rfl rfl rfl rfl (Nat.le_of_ble_eq_true rfl) (Or.inr rfl) ?_
              refine xg_goto 23 dL_law__2321 rfl ?_
              refine xg_less7 ?_
              exact ih _ _ _ _ _ _ _ _ _ _ hBk (by omega) (by omega) (by omega) (by omega)
            · exfalso; omega
        · exfalso; omega
      · refine xg_tin (o := 757) 797 dL_law__40 (by omega) ⟨by omega, by omega⟩ (by rw [show (sv - 0).toNat = 12 by omega]; rfl) rfl ?_
        obtain ⟨k, hk, ctc⟩ := op_put hV hI0 (i32r (xs (i + 1).toNat)) (i32r (xs (i + 2).toNat))
        refine xg_aloadn 798 dL_law__797 rfl rfl rfl ?_
        refine xg_aloadn 799 dL_law__798 rfl rfl rfl ?_
        refine xg_iload 801 dL_law__799 rfl rfl ?_
        refine xg_iconst 802 dL_law__801 rfl ?_
        refine xg_iadd 803 dL_law__802 rfl ?_
        refine xg_ialdS 804 dL_law__803 rfl hX ⟨by omega, hN⟩ ?_
        refine xg_aloadn 805 dL_law__804 rfl rfl rfl ?_
        refine xg_iload 807 dL_law__805 rfl rfl ?_
        refine xg_iconst 808 dL_law__807 rfl ?_
        refine xg_iadd 809 dL_law__808 rfl ?_
        refine xg_ialdS 810 dL_law__809 rfl hX ⟨by omega, hN⟩ ?_
        refine xg_aloadn 811 dL_law__810 rfl rfl rfl ?_
        refine xg_callSH 814 [_, _, _, _] [] kh_L_put kl_RL_161 dL_law__811 rfl rfl rfl (Nat.le_of_ble_eq_true rfl) (by omega) ⟨by omega, by omega⟩ ctc (fun v9 h9 e9 => ?_)
        obtain ⟨rfl, z1, T1, F1, I1, P1, Y1, rfl, ⟨ko, kw, k16, k1⟩, ctm⟩ := e9
        refine xg_istore 816 _ dL_law__814 rfl rfl (Nat.le_of_ble_eq_true rfl) (Or.inr rfl) ?_
        refine xg_aloadn 817 dL_law__816 rfl rfl rfl ?_
        refine xg_aloadn 818 dL_law__817 rfl rfl rfl ?_
        refine xg_iload 820 dL_law__818 rfl rfl ?_
        refine xg_iconst 821 dL_law__820 rfl ?_
        refine xg_iadd 822 dL_law__821 rfl ?_
        refine xg_ialdS 823 dL_law__822 rfl hX ⟨by omega, hN⟩ ?_
        refine xg_aloadn 824 dL_law__823 rfl rfl rfl ?_
        refine xg_iload 826 dL_law__824 rfl rfl ?_
        refine xg_iconst 827 dL_law__826 rfl ?_
        refine xg_iadd 828 dL_law__827 rfl ?_
        refine xg_ialdS 829 dL_law__828 rfl hX ⟨by omega, hN⟩ ?_
        refine xg_callVe 832 12 [_, _] _ kv_X12_put ⟨_, _, rfl⟩ kl_RL_163 dL_law__829 rfl kw.1.1 (by omega) rfl rfl (Nat.le_of_ble_eq_true rfl) (by omega) ⟨by omega, by omega⟩ (ctm) rfl (fun v9 h9 e9 => ?_)
        obtain ⟨b9, F2, I2, ws2, rfl, hb9, rfl, hBk, hk0, hout⟩ := e9
        refine xg_istore 834 _ dL_law__832 rfl rfl (Nat.le_of_ble_eq_true rfl) (Or.inr rfl) ?_
        refine xg_aloadn 835 dL_law__834 rfl rfl rfl ?_
        refine xg_callV 838 12 [] _ kv_X12_thrown ⟨_, _, rfl⟩ kl_RL_125 dL_law__835 rfl kw.1.1 (by omega) rfl rfl (Nat.le_of_ble_eq_true rfl) (by omega) ⟨by omega, by omega⟩ (Ct.own (ct_X12_thrown (I := I2) (w := I2 (m + 1)) kw)) rfl ?_
        rw [upA_id, hk0]
        refine xg_iload 840 dL_law__838 rfl rfl ?_
        refine xg_iceq 845 843 dL_law__840 rfl rfl (by omega) (fun hb840 => ?_) (fun hb840 => ?_)
        · skip
          refine xg_iload 847 dL_law__845 rfl rfl ?_
          refine xg_ifne 862 850 dL_law__847 rfl rfl (by omega) (fun hb847 => ?_) (fun hb847 => ?_)
          · skip
            refine xg_goto 2318 dL_law__862 rfl ?_
            refine xg_iinc 2321 _ dL_law__2318 rfl rfl rfl rfl (Nat.le_of_ble_eq_true rfl) (Or.inr rfl) ?_
            refine xg_goto 23 dL_law__2321 rfl ?_
            refine xg_less7 ?_
            exact ih _ _ _ _ _ _ _ _ _ _ hBk (by omega) (by omega) (by omega) (by omega)
          · skip
            refine xg_aloadn 851 dL_law__850 rfl rfl rfl ?_
            refine xg_iconst 852 dL_law__851 rfl ?_
            refine xg_lald 853 dL_law__852 rfl k16 (by rw [k1]; omega) ?_
            rw [hout (by omega)]
            refine xg_iload 855 dL_law__853 rfl rfl ?_
            refine xg_i2l 856 dL_law__855 rfl (by omega) ?_
            refine xg_lcmp 857 dL_law__856 rfl (by omega) ?_
            rw [xcmp_self]
            refine xg_ifeq 862 860 dL_law__857 rfl rfl (by omega) (fun hb857 => ?_) (fun hb857 => ?_)
            · skip
              refine xg_goto 2318 dL_law__862 rfl ?_
              refine xg_iinc 2321 _ dL_law__2318 rfl rfl rfl rfl (Nat.le_of_ble_eq_true rfl) (Or.inr rfl) ?_
              refine xg_goto 23 dL_law__2321 rfl ?_
              refine xg_less7 ?_
              exact ih _ _ _ _ _ _ _ _ _ _ hBk (by omega) (by omega) (by omega) (by omega)
            · exfalso; omega
        · exfalso; omega
      · refine xg_tin (o := 825) 865 dL_law__40 (by omega) ⟨by omega, by omega⟩ (by rw [show (sv - 0).toNat = 13 by omega]; rfl) rfl ?_
        obtain ⟨k, hk, ctc⟩ := op_remove hV hI0 (i32r (xs (i + 1).toNat))
        refine xg_aloadn 866 dL_law__865 rfl rfl rfl ?_
        refine xg_aloadn 867 dL_law__866 rfl rfl rfl ?_
        refine xg_iload 869 dL_law__867 rfl rfl ?_
        refine xg_iconst 870 dL_law__869 rfl ?_
        refine xg_iadd 871 dL_law__870 rfl ?_
        refine xg_ialdS 872 dL_law__871 rfl hX ⟨by omega, hN⟩ ?_
        refine xg_aloadn 873 dL_law__872 rfl rfl rfl ?_
        refine xg_callSH 876 [_, _, _] [] kh_L_remove kl_RL_164 dL_law__873 rfl rfl rfl (Nat.le_of_ble_eq_true rfl) (by omega) ⟨by omega, by omega⟩ ctc (fun v9 h9 e9 => ?_)
        obtain ⟨rfl, z1, T1, F1, I1, P1, Y1, rfl, ⟨ko, kw, k16, k1⟩, ctm⟩ := e9
        refine xg_istore 878 _ dL_law__876 rfl rfl (Nat.le_of_ble_eq_true rfl) (Or.inr rfl) ?_
        refine xg_aloadn 879 dL_law__878 rfl rfl rfl ?_
        refine xg_aloadn 880 dL_law__879 rfl rfl rfl ?_
        refine xg_iload 882 dL_law__880 rfl rfl ?_
        refine xg_iconst 883 dL_law__882 rfl ?_
        refine xg_iadd 884 dL_law__883 rfl ?_
        refine xg_ialdS 885 dL_law__884 rfl hX ⟨by omega, hN⟩ ?_
        refine xg_callVe 888 12 [_] _ kv_X12_remove ⟨_, _, rfl⟩ kl_RL_166 dL_law__885 rfl kw.1.1 (by omega) rfl rfl (Nat.le_of_ble_eq_true rfl) (by omega) ⟨by omega, by omega⟩ (ctm) rfl (fun v9 h9 e9 => ?_)
        obtain ⟨b9, F2, I2, ws2, rfl, hb9, rfl, hBk, hk0, hout⟩ := e9
        refine xg_istore 890 _ dL_law__888 rfl rfl (Nat.le_of_ble_eq_true rfl) (Or.inr rfl) ?_
        refine xg_aloadn 891 dL_law__890 rfl rfl rfl ?_
        refine xg_callV 894 12 [] _ kv_X12_thrown ⟨_, _, rfl⟩ kl_RL_125 dL_law__891 rfl kw.1.1 (by omega) rfl rfl (Nat.le_of_ble_eq_true rfl) (by omega) ⟨by omega, by omega⟩ (Ct.own (ct_X12_thrown (I := I2) (w := I2 (m + 1)) kw)) rfl ?_
        rw [upA_id, hk0]
        refine xg_iload 896 dL_law__894 rfl rfl ?_
        refine xg_iceq 901 899 dL_law__896 rfl rfl (by omega) (fun hb896 => ?_) (fun hb896 => ?_)
        · skip
          refine xg_iload 903 dL_law__901 rfl rfl ?_
          refine xg_ifne 918 906 dL_law__903 rfl rfl (by omega) (fun hb903 => ?_) (fun hb903 => ?_)
          · skip
            refine xg_goto 2318 dL_law__918 rfl ?_
            refine xg_iinc 2321 _ dL_law__2318 rfl rfl rfl rfl (Nat.le_of_ble_eq_true rfl) (Or.inr rfl) ?_
            refine xg_goto 23 dL_law__2321 rfl ?_
            refine xg_less7 ?_
            exact ih _ _ _ _ _ _ _ _ _ _ hBk (by omega) (by omega) (by omega) (by omega)
          · skip
            refine xg_aloadn 907 dL_law__906 rfl rfl rfl ?_
            refine xg_iconst 908 dL_law__907 rfl ?_
            refine xg_lald 909 dL_law__908 rfl k16 (by rw [k1]; omega) ?_
            rw [hout (by omega)]
            refine xg_iload 911 dL_law__909 rfl rfl ?_
            refine xg_i2l 912 dL_law__911 rfl (by omega) ?_
            refine xg_lcmp 913 dL_law__912 rfl (by omega) ?_
            rw [xcmp_self]
            refine xg_ifeq 918 916 dL_law__913 rfl rfl (by omega) (fun hb913 => ?_) (fun hb913 => ?_)
            · skip
              refine xg_goto 2318 dL_law__918 rfl ?_
              refine xg_iinc 2321 _ dL_law__2318 rfl rfl rfl rfl (Nat.le_of_ble_eq_true rfl) (Or.inr rfl) ?_
              refine xg_goto 23 dL_law__2321 rfl ?_
              refine xg_less7 ?_
              exact ih _ _ _ _ _ _ _ _ _ _ hBk (by omega) (by omega) (by omega) (by omega)
            · exfalso; omega
        · exfalso; omega
      · refine xg_tin (o := 881) 921 dL_law__40 (by omega) ⟨by omega, by omega⟩ (by rw [show (sv - 0).toNat = 14 by omega]; rfl) rfl ?_
        obtain ⟨k, hk, ctc⟩ := op_work hV hI0 
        refine xg_aloadn 922 dL_law__921 rfl rfl rfl ?_
        refine xg_aloadn 923 dL_law__922 rfl rfl rfl ?_
        refine xg_callSH 926 [_, _] [] kh_L_work kl_RL_167 dL_law__923 rfl rfl rfl (Nat.le_of_ble_eq_true rfl) (by omega) ⟨by omega, by omega⟩ ctc (fun v9 h9 e9 => ?_)
        obtain ⟨rfl, z1, T1, F1, I1, P1, Y1, rfl, ⟨ko, kw, k16, k1⟩, ctm⟩ := e9
        refine xg_istore 928 _ dL_law__926 rfl rfl (Nat.le_of_ble_eq_true rfl) (Or.inr rfl) ?_
        refine xg_aloadn 929 dL_law__928 rfl rfl rfl ?_
        refine xg_callVe 932 12 [] _ kv_X12_work ⟨_, _, rfl⟩ kl_RL_169 dL_law__929 rfl kw.1.1 (by omega) rfl rfl (Nat.le_of_ble_eq_true rfl) (by omega) ⟨by omega, by omega⟩ (ctm) rfl (fun v9 h9 e9 => ?_)
        obtain ⟨b9, F2, I2, ws2, rfl, hb9, rfl, hBk, hk0, hout⟩ := e9
        refine xg_istore 934 _ dL_law__932 rfl rfl (Nat.le_of_ble_eq_true rfl) (Or.inr rfl) ?_
        refine xg_aloadn 935 dL_law__934 rfl rfl rfl ?_
        refine xg_callV 938 12 [] _ kv_X12_thrown ⟨_, _, rfl⟩ kl_RL_125 dL_law__935 rfl kw.1.1 (by omega) rfl rfl (Nat.le_of_ble_eq_true rfl) (by omega) ⟨by omega, by omega⟩ (Ct.own (ct_X12_thrown (I := I2) (w := I2 (m + 1)) kw)) rfl ?_
        rw [upA_id, hk0]
        refine xg_iload 940 dL_law__938 rfl rfl ?_
        refine xg_iceq 945 943 dL_law__940 rfl rfl (by omega) (fun hb940 => ?_) (fun hb940 => ?_)
        · skip
          refine xg_iload 947 dL_law__945 rfl rfl ?_
          refine xg_ifne 962 950 dL_law__947 rfl rfl (by omega) (fun hb947 => ?_) (fun hb947 => ?_)
          · skip
            refine xg_goto 2318 dL_law__962 rfl ?_
            refine xg_iinc 2321 _ dL_law__2318 rfl rfl rfl rfl (Nat.le_of_ble_eq_true rfl) (Or.inr rfl) ?_
            refine xg_goto 23 dL_law__2321 rfl ?_
            refine xg_less7 ?_
            exact ih _ _ _ _ _ _ _ _ _ _ hBk (by omega) (by omega) (by omega) (by omega)
          · skip
            refine xg_aloadn 951 dL_law__950 rfl rfl rfl ?_
            refine xg_iconst 952 dL_law__951 rfl ?_
            refine xg_lald 953 dL_law__952 rfl k16 (by rw [k1]; omega) ?_
            rw [hout (by omega)]
            refine xg_iload 955 dL_law__953 rfl rfl ?_
            refine xg_i2l 956 dL_law__955 rfl (by omega) ?_
            refine xg_lcmp 957 dL_law__956 rfl (by omega) ?_
            rw [xcmp_self]
            refine xg_ifeq 962 960 dL_law__957 rfl rfl (by omega) (fun hb957 => ?_) (fun hb957 => ?_)
            · skip
              refine xg_goto 2318 dL_law__962 rfl ?_
              refine xg_iinc 2321 _ dL_law__2318 rfl rfl rfl rfl (Nat.le_of_ble_eq_true rfl) (Or.inr rfl) ?_
              refine xg_goto 23 dL_law__2321 rfl ?_
              refine xg_less7 ?_
              exact ih _ _ _ _ _ _ _ _ _ _ hBk (by omega) (by omega) (by omega) (by omega)
            · exfalso; omega
        · exfalso; omega
      · refine xg_tin (o := 925) 965 dL_law__40 (by omega) ⟨by omega, by omega⟩ (by rw [show (sv - 0).toNat = 15 by omega]; rfl) rfl ?_
        obtain ⟨k, hk, ctc⟩ := op_halt hV hI0 
        refine xg_aloadn 966 dL_law__965 rfl rfl rfl ?_
        refine xg_aloadn 967 dL_law__966 rfl rfl rfl ?_
        refine xg_callSH 970 [_, _] [] kh_L_halt kl_RL_170 dL_law__967 rfl rfl rfl (Nat.le_of_ble_eq_true rfl) (by omega) ⟨by omega, by omega⟩ ctc (fun v9 h9 e9 => ?_)
        obtain ⟨rfl, z1, T1, F1, I1, P1, Y1, rfl, ⟨ko, kw, k16, k1⟩, ctm⟩ := e9
        refine xg_istore 972 _ dL_law__970 rfl rfl (Nat.le_of_ble_eq_true rfl) (Or.inr rfl) ?_
        refine xg_aloadn 973 dL_law__972 rfl rfl rfl ?_
        refine xg_callVe 976 12 [] _ kv_X12_halt ⟨_, _, rfl⟩ kl_RL_172 dL_law__973 rfl kw.1.1 (by omega) rfl rfl (Nat.le_of_ble_eq_true rfl) (by omega) ⟨by omega, by omega⟩ (ctm) rfl (fun v9 h9 e9 => ?_)
        obtain ⟨b9, F2, I2, ws2, rfl, hb9, rfl, hBk, hk0, hout⟩ := e9
        refine xg_istore 978 _ dL_law__976 rfl rfl (Nat.le_of_ble_eq_true rfl) (Or.inr rfl) ?_
        refine xg_aloadn 979 dL_law__978 rfl rfl rfl ?_
        refine xg_callV 982 12 [] _ kv_X12_thrown ⟨_, _, rfl⟩ kl_RL_125 dL_law__979 rfl kw.1.1 (by omega) rfl rfl (Nat.le_of_ble_eq_true rfl) (by omega) ⟨by omega, by omega⟩ (Ct.own (ct_X12_thrown (I := I2) (w := I2 (m + 1)) kw)) rfl ?_
        rw [upA_id, hk0]
        refine xg_iload 984 dL_law__982 rfl rfl ?_
        refine xg_iceq 989 987 dL_law__984 rfl rfl (by omega) (fun hb984 => ?_) (fun hb984 => ?_)
        · skip
          refine xg_iload 991 dL_law__989 rfl rfl ?_
          refine xg_ifne 1006 994 dL_law__991 rfl rfl (by omega) (fun hb991 => ?_) (fun hb991 => ?_)
          · skip
            refine xg_goto 2318 dL_law__1006 rfl ?_
            refine xg_iinc 2321 _ dL_law__2318 rfl rfl rfl rfl (Nat.le_of_ble_eq_true rfl) (Or.inr rfl) ?_
            refine xg_goto 23 dL_law__2321 rfl ?_
            refine xg_less7 ?_
            exact ih _ _ _ _ _ _ _ _ _ _ hBk (by omega) (by omega) (by omega) (by omega)
          · skip
            refine xg_aloadn 995 dL_law__994 rfl rfl rfl ?_
            refine xg_iconst 996 dL_law__995 rfl ?_
            refine xg_lald 997 dL_law__996 rfl k16 (by rw [k1]; omega) ?_
            rw [hout (by omega)]
            refine xg_iload 999 dL_law__997 rfl rfl ?_
            refine xg_i2l 1000 dL_law__999 rfl (by omega) ?_
            refine xg_lcmp 1001 dL_law__1000 rfl (by omega) ?_
            rw [xcmp_self]
            refine xg_ifeq 1006 1004 dL_law__1001 rfl rfl (by omega) (fun hb1001 => ?_) (fun hb1001 => ?_)
            · skip
              refine xg_goto 2318 dL_law__1006 rfl ?_
              refine xg_iinc 2321 _ dL_law__2318 rfl rfl rfl rfl (Nat.le_of_ble_eq_true rfl) (Or.inr rfl) ?_
              refine xg_goto 23 dL_law__2321 rfl ?_
              refine xg_less7 ?_
              exact ih _ _ _ _ _ _ _ _ _ _ hBk (by omega) (by omega) (by omega) (by omega)
            · exfalso; omega
        · exfalso; omega
      · refine xg_tin (o := 969) 1009 dL_law__40 (by omega) ⟨by omega, by omega⟩ (by rw [show (sv - 0).toNat = 16 by omega]; rfl) rfl ?_
        obtain ⟨k, hk, ctc⟩ := op_flush hV hI0 
        refine xg_aloadn 1010 dL_law__1009 rfl rfl rfl ?_
        refine xg_aloadn 1011 dL_law__1010 rfl rfl rfl ?_
        refine xg_callSH 1014 [_, _] [] kh_L_flush kl_RL_173 dL_law__1011 rfl rfl rfl (Nat.le_of_ble_eq_true rfl) (by omega) ⟨by omega, by omega⟩ ctc (fun v9 h9 e9 => ?_)
        obtain ⟨rfl, z1, T1, F1, I1, P1, Y1, rfl, ⟨ko, kw, k16, k1⟩, ctm⟩ := e9
        refine xg_istore 1016 _ dL_law__1014 rfl rfl (Nat.le_of_ble_eq_true rfl) (Or.inr rfl) ?_
        refine xg_aloadn 1017 dL_law__1016 rfl rfl rfl ?_
        refine xg_callVe 1020 12 [] _ kv_X12_flush ⟨_, _, rfl⟩ kl_RL_175 dL_law__1017 rfl kw.1.1 (by omega) rfl rfl (Nat.le_of_ble_eq_true rfl) (by omega) ⟨by omega, by omega⟩ (ctm) rfl (fun v9 h9 e9 => ?_)
        obtain ⟨b9, F2, I2, ws2, rfl, hb9, rfl, hBk, hk0, hout⟩ := e9
        refine xg_istore 1022 _ dL_law__1020 rfl rfl (Nat.le_of_ble_eq_true rfl) (Or.inr rfl) ?_
        refine xg_aloadn 1023 dL_law__1022 rfl rfl rfl ?_
        refine xg_callV 1026 12 [] _ kv_X12_thrown ⟨_, _, rfl⟩ kl_RL_125 dL_law__1023 rfl kw.1.1 (by omega) rfl rfl (Nat.le_of_ble_eq_true rfl) (by omega) ⟨by omega, by omega⟩ (Ct.own (ct_X12_thrown (I := I2) (w := I2 (m + 1)) kw)) rfl ?_
        rw [upA_id, hk0]
        refine xg_iload 1028 dL_law__1026 rfl rfl ?_
        refine xg_iceq 1033 1031 dL_law__1028 rfl rfl (by omega) (fun hb1028 => ?_) (fun hb1028 => ?_)
        · skip
          refine xg_iload 1035 dL_law__1033 rfl rfl ?_
          refine xg_ifne 1050 1038 dL_law__1035 rfl rfl (by omega) (fun hb1035 => ?_) (fun hb1035 => ?_)
          · skip
            refine xg_goto 2318 dL_law__1050 rfl ?_
            refine xg_iinc 2321 _ dL_law__2318 rfl rfl rfl rfl (Nat.le_of_ble_eq_true rfl) (Or.inr rfl) ?_
            refine xg_goto 23 dL_law__2321 rfl ?_
            refine xg_less7 ?_
            exact ih _ _ _ _ _ _ _ _ _ _ hBk (by omega) (by omega) (by omega) (by omega)
          · skip
            refine xg_aloadn 1039 dL_law__1038 rfl rfl rfl ?_
            refine xg_iconst 1040 dL_law__1039 rfl ?_
            refine xg_lald 1041 dL_law__1040 rfl k16 (by rw [k1]; omega) ?_
            rw [hout (by omega)]
            refine xg_iload 1043 dL_law__1041 rfl rfl ?_
            refine xg_i2l 1044 dL_law__1043 rfl (by omega) ?_
            refine xg_lcmp 1045 dL_law__1044 rfl (by omega) ?_
            rw [xcmp_self]
            refine xg_ifeq 1050 1048 dL_law__1045 rfl rfl (by omega) (fun hb1045 => ?_) (fun hb1045 => ?_)
            · skip
              refine xg_goto 2318 dL_law__1050 rfl ?_
              refine xg_iinc 2321 _ dL_law__2318 rfl rfl rfl rfl (Nat.le_of_ble_eq_true rfl) (Or.inr rfl) ?_
              refine xg_goto 23 dL_law__2321 rfl ?_
              refine xg_less7 ?_
              exact ih _ _ _ _ _ _ _ _ _ _ hBk (by omega) (by omega) (by omega) (by omega)
            · exfalso; omega
        · exfalso; omega
      · refine xg_tin (o := 1013) 1053 dL_law__40 (by omega) ⟨by omega, by omega⟩ (by rw [show (sv - 0).toNat = 17 by omega]; rfl) rfl ?_
        rcases (show (xs (i + 1).toNat).toInt ≠ 0 ∨ (xs (i + 1).toNat).toInt = 0 by omega) with hbb | hbb
        · have ctc := pp_plan hV hI0  (bb := true)
          refine xg_aloadn 1054 dL_law__1053 rfl rfl rfl ?_
          refine xg_aloadn 1055 dL_law__1054 rfl rfl rfl ?_
          refine xg_iload 1057 dL_law__1055 rfl rfl ?_
          refine xg_iconst 1058 dL_law__1057 rfl ?_
          refine xg_iadd 1059 dL_law__1058 rfl ?_
          refine xg_ialdS 1060 dL_law__1059 rfl hX ⟨by omega, hN⟩ ?_
          refine xg_ifeq 1067 1063 dL_law__1060 rfl rfl (i32r _) (fun hb1060 => ?_) (fun hb1060 => ?_)
          · exfalso; omega
          · skip
            refine xg_iconst 1064 dL_law__1063 rfl ?_
            refine xg_goto 1068 dL_law__1064 rfl ?_
            refine xg_callVm 1071 11 [_] _ kv_X11_plan ⟨_, _, rfl⟩ kl_RL_176 dL_law__1068 rfl hI0.1.1.1 (by omega) rfl rfl (Nat.le_of_ble_eq_true rfl) (by omega) ⟨by omega, by omega⟩ (ctc) rfl (fun v9 h9 e9 => ?_)
            obtain ⟨r, z1, T1, F1, I1, P1, Y1, rfl, hr, rfl, ⟨ko, kw⟩, ctm⟩ := e9
            refine xg_aloadn 1072 dL_law__1071 rfl rfl rfl ?_
            refine xg_aloadn 1073 dL_law__1072 rfl rfl rfl ?_
            refine xg_iload 1075 dL_law__1073 rfl rfl ?_
            refine xg_iconst 1076 dL_law__1075 rfl ?_
            refine xg_iadd 1077 dL_law__1076 rfl ?_
            refine xg_ialdS 1078 dL_law__1077 rfl hX ⟨by omega, hN⟩ ?_
            refine xg_ifeq 1085 1081 dL_law__1078 rfl rfl (i32r _) (fun hb1078 => ?_) (fun hb1078 => ?_)
            · exfalso; omega
            · skip
              refine xg_iconst 1082 dL_law__1081 rfl ?_
              refine xg_goto 1086 dL_law__1082 rfl ?_
              refine xg_callVe 1089 12 [_] _ kv_X12_plan ⟨_, _, rfl⟩ kl_RL_180 dL_law__1086 rfl kw.1.1 (by omega) rfl rfl (Nat.le_of_ble_eq_true rfl) (by omega) ⟨by omega, by omega⟩ (ctm) rfl (fun v9 h9 e9 => ?_)
              obtain ⟨F2, I2, ws2, rfl, rfl, hBk⟩ := e9
              refine xg_iceq 2318 1092 dL_law__1089 rfl rfl (by omega) (fun hb1089 => ?_) (fun hb1089 => ?_)
              · skip
                refine xg_iinc 2321 _ dL_law__2318 rfl rfl rfl rfl (Nat.le_of_ble_eq_true rfl) (Or.inr rfl) ?_
                refine xg_goto 23 dL_law__2321 rfl ?_
                refine xg_less7 ?_
                exact ih _ _ _ _ _ _ _ _ _ _ hBk (by omega) (by omega) (by omega) (by omega)
              · exfalso; omega
        · have ctc := pp_plan hV hI0  (bb := false)
          refine xg_aloadn 1054 dL_law__1053 rfl rfl rfl ?_
          refine xg_aloadn 1055 dL_law__1054 rfl rfl rfl ?_
          refine xg_iload 1057 dL_law__1055 rfl rfl ?_
          refine xg_iconst 1058 dL_law__1057 rfl ?_
          refine xg_iadd 1059 dL_law__1058 rfl ?_
          refine xg_ialdS 1060 dL_law__1059 rfl hX ⟨by omega, hN⟩ ?_
          refine xg_ifeq 1067 1063 dL_law__1060 rfl rfl (i32r _) (fun hb1060 => ?_) (fun hb1060 => ?_)
          · skip
            refine xg_iconst 1068 dL_law__1067 rfl ?_
            refine xg_callVm 1071 11 [_] _ kv_X11_plan ⟨_, _, rfl⟩ kl_RL_176 dL_law__1068 rfl hI0.1.1.1 (by omega) rfl rfl (Nat.le_of_ble_eq_true rfl) (by omega) ⟨by omega, by omega⟩ (ctc) rfl (fun v9 h9 e9 => ?_)
            obtain ⟨r, z1, T1, F1, I1, P1, Y1, rfl, hr, rfl, ⟨ko, kw⟩, ctm⟩ := e9
            refine xg_aloadn 1072 dL_law__1071 rfl rfl rfl ?_
            refine xg_aloadn 1073 dL_law__1072 rfl rfl rfl ?_
            refine xg_iload 1075 dL_law__1073 rfl rfl ?_
            refine xg_iconst 1076 dL_law__1075 rfl ?_
            refine xg_iadd 1077 dL_law__1076 rfl ?_
            refine xg_ialdS 1078 dL_law__1077 rfl hX ⟨by omega, hN⟩ ?_
            refine xg_ifeq 1085 1081 dL_law__1078 rfl rfl (i32r _) (fun hb1078 => ?_) (fun hb1078 => ?_)
            · skip
              refine xg_iconst 1086 dL_law__1085 rfl ?_
              refine xg_callVe 1089 12 [_] _ kv_X12_plan ⟨_, _, rfl⟩ kl_RL_180 dL_law__1086 rfl kw.1.1 (by omega) rfl rfl (Nat.le_of_ble_eq_true rfl) (by omega) ⟨by omega, by omega⟩ (ctm) rfl (fun v9 h9 e9 => ?_)
              obtain ⟨F2, I2, ws2, rfl, rfl, hBk⟩ := e9
              refine xg_iceq 2318 1092 dL_law__1089 rfl rfl (by omega) (fun hb1089 => ?_) (fun hb1089 => ?_)
              · skip
                refine xg_iinc 2321 _ dL_law__2318 rfl rfl rfl rfl (Nat.le_of_ble_eq_true rfl) (Or.inr rfl) ?_
                refine xg_goto 23 dL_law__2321 rfl ?_
                refine xg_less7 ?_
                exact ih _ _ _ _ _ _ _ _ _ _ hBk (by omega) (by omega) (by omega) (by omega)
              · exfalso; omega
            · exfalso; omega
          · exfalso; omega
      · refine xg_tin (o := 1054) 1094 dL_law__40 (by omega) ⟨by omega, by omega⟩ (by rw [show (sv - 0).toNat = 18 by omega]; rfl) rfl ?_
        obtain ⟨k, hk, ctc⟩ := op_tune hV hI0 (i32r (xs (i + 1).toNat)) (i32r (xs (i + 2).toNat))
        refine xg_aloadn 1095 dL_law__1094 rfl rfl rfl ?_
        refine xg_aloadn 1096 dL_law__1095 rfl rfl rfl ?_
        refine xg_iload 1098 dL_law__1096 rfl rfl ?_
        refine xg_iconst 1099 dL_law__1098 rfl ?_
        refine xg_iadd 1100 dL_law__1099 rfl ?_
        refine xg_ialdS 1101 dL_law__1100 rfl hX ⟨by omega, hN⟩ ?_
        refine xg_aloadn 1102 dL_law__1101 rfl rfl rfl ?_
        refine xg_iload 1104 dL_law__1102 rfl rfl ?_
        refine xg_iconst 1105 dL_law__1104 rfl ?_
        refine xg_iadd 1106 dL_law__1105 rfl ?_
        refine xg_ialdS 1107 dL_law__1106 rfl hX ⟨by omega, hN⟩ ?_
        refine xg_aloadn 1108 dL_law__1107 rfl rfl rfl ?_
        refine xg_callSH 1111 [_, _, _, _] [] kh_L_tune kl_RL_181 dL_law__1108 rfl rfl rfl (Nat.le_of_ble_eq_true rfl) (by omega) ⟨by omega, by omega⟩ ctc (fun v9 h9 e9 => ?_)
        obtain ⟨rfl, z1, T1, F1, I1, P1, Y1, rfl, ⟨ko, kw, k16, k1⟩, ctm⟩ := e9
        refine xg_istore 1113 _ dL_law__1111 rfl rfl (Nat.le_of_ble_eq_true rfl) (Or.inr rfl) ?_
        refine xg_aloadn 1114 dL_law__1113 rfl rfl rfl ?_
        refine xg_aloadn 1115 dL_law__1114 rfl rfl rfl ?_
        refine xg_iload 1117 dL_law__1115 rfl rfl ?_
        refine xg_iconst 1118 dL_law__1117 rfl ?_
        refine xg_iadd 1119 dL_law__1118 rfl ?_
        refine xg_ialdS 1120 dL_law__1119 rfl hX ⟨by omega, hN⟩ ?_
        refine xg_aloadn 1121 dL_law__1120 rfl rfl rfl ?_
        refine xg_iload 1123 dL_law__1121 rfl rfl ?_
        refine xg_iconst 1124 dL_law__1123 rfl ?_
        refine xg_iadd 1125 dL_law__1124 rfl ?_
        refine xg_ialdS 1126 dL_law__1125 rfl hX ⟨by omega, hN⟩ ?_
        refine xg_callVe 1129 12 [_, _] _ kv_X12_tune ⟨_, _, rfl⟩ kl_RL_183 dL_law__1126 rfl kw.1.1 (by omega) rfl rfl (Nat.le_of_ble_eq_true rfl) (by omega) ⟨by omega, by omega⟩ (ctm) rfl (fun v9 h9 e9 => ?_)
        obtain ⟨b9, F2, I2, ws2, rfl, hb9, rfl, hBk, hk0, hout⟩ := e9
        refine xg_istore 1131 _ dL_law__1129 rfl rfl (Nat.le_of_ble_eq_true rfl) (Or.inr rfl) ?_
        refine xg_aloadn 1132 dL_law__1131 rfl rfl rfl ?_
        refine xg_callV 1135 12 [] _ kv_X12_thrown ⟨_, _, rfl⟩ kl_RL_125 dL_law__1132 rfl kw.1.1 (by omega) rfl rfl (Nat.le_of_ble_eq_true rfl) (by omega) ⟨by omega, by omega⟩ (Ct.own (ct_X12_thrown (I := I2) (w := I2 (m + 1)) kw)) rfl ?_
        rw [upA_id, hk0]
        refine xg_iload 1137 dL_law__1135 rfl rfl ?_
        refine xg_iceq 1142 1140 dL_law__1137 rfl rfl (by omega) (fun hb1137 => ?_) (fun hb1137 => ?_)
        · skip
          refine xg_iload 1144 dL_law__1142 rfl rfl ?_
          refine xg_ifne 1159 1147 dL_law__1144 rfl rfl (by omega) (fun hb1144 => ?_) (fun hb1144 => ?_)
          · skip
            refine xg_goto 2318 dL_law__1159 rfl ?_
            refine xg_iinc 2321 _ dL_law__2318 rfl rfl rfl rfl (Nat.le_of_ble_eq_true rfl) (Or.inr rfl) ?_
            refine xg_goto 23 dL_law__2321 rfl ?_
            refine xg_less7 ?_
            exact ih _ _ _ _ _ _ _ _ _ _ hBk (by omega) (by omega) (by omega) (by omega)
          · skip
            refine xg_aloadn 1148 dL_law__1147 rfl rfl rfl ?_
            refine xg_iconst 1149 dL_law__1148 rfl ?_
            refine xg_lald 1150 dL_law__1149 rfl k16 (by rw [k1]; omega) ?_
            rw [hout (by omega)]
            refine xg_iload 1152 dL_law__1150 rfl rfl ?_
            refine xg_i2l 1153 dL_law__1152 rfl (by omega) ?_
            refine xg_lcmp 1154 dL_law__1153 rfl (by omega) ?_
            rw [xcmp_self]
            refine xg_ifeq 1159 1157 dL_law__1154 rfl rfl (by omega) (fun hb1154 => ?_) (fun hb1154 => ?_)
            · skip
              refine xg_goto 2318 dL_law__1159 rfl ?_
              refine xg_iinc 2321 _ dL_law__2318 rfl rfl rfl rfl (Nat.le_of_ble_eq_true rfl) (Or.inr rfl) ?_
              refine xg_goto 23 dL_law__2321 rfl ?_
              refine xg_less7 ?_
              exact ih _ _ _ _ _ _ _ _ _ _ hBk (by omega) (by omega) (by omega) (by omega)
            · exfalso; omega
        · exfalso; omega
      · refine xg_tin (o := 1122) 1162 dL_law__40 (by omega) ⟨by omega, by omega⟩ (by rw [show (sv - 0).toNat = 19 by omega]; rfl) rfl ?_
        obtain ⟨k, hk, ctc⟩ := op_get hV hI0 (i32r (xs (i + 1).toNat))
        refine xg_aloadn 1163 dL_law__1162 rfl rfl rfl ?_
        refine xg_aloadn 1164 dL_law__1163 rfl rfl rfl ?_
        refine xg_iload 1166 dL_law__1164 rfl rfl ?_
        refine xg_iconst 1167 dL_law__1166 rfl ?_
        refine xg_iadd 1168 dL_law__1167 rfl ?_
        refine xg_ialdS 1169 dL_law__1168 rfl hX ⟨by omega, hN⟩ ?_
        refine xg_aloadn 1170 dL_law__1169 rfl rfl rfl ?_
        refine xg_callSH 1173 [_, _, _] [] kh_L_get kl_RL_184 dL_law__1170 rfl rfl rfl (Nat.le_of_ble_eq_true rfl) (by omega) ⟨by omega, by omega⟩ ctc (fun v9 h9 e9 => ?_)
        obtain ⟨rfl, z1, T1, F1, I1, P1, Y1, rfl, ⟨ko, kw, k16, k1⟩, ctm⟩ := e9
        refine xg_istore 1175 _ dL_law__1173 rfl rfl (Nat.le_of_ble_eq_true rfl) (Or.inr rfl) ?_
        refine xg_aloadn 1176 dL_law__1175 rfl rfl rfl ?_
        refine xg_aloadn 1177 dL_law__1176 rfl rfl rfl ?_
        refine xg_iload 1179 dL_law__1177 rfl rfl ?_
        refine xg_iconst 1180 dL_law__1179 rfl ?_
        refine xg_iadd 1181 dL_law__1180 rfl ?_
        refine xg_ialdS 1182 dL_law__1181 rfl hX ⟨by omega, hN⟩ ?_
        refine xg_callVe 1185 12 [_] _ kv_X12_get ⟨_, _, rfl⟩ kl_RL_186 dL_law__1182 rfl kw.1.1 (by omega) rfl rfl (Nat.le_of_ble_eq_true rfl) (by omega) ⟨by omega, by omega⟩ (ctm) rfl (fun v9 h9 e9 => ?_)
        obtain ⟨b9, F2, I2, ws2, rfl, hb9, rfl, hBk, hk0, hout⟩ := e9
        refine xg_istore 1187 _ dL_law__1185 rfl rfl (Nat.le_of_ble_eq_true rfl) (Or.inr rfl) ?_
        refine xg_aloadn 1188 dL_law__1187 rfl rfl rfl ?_
        refine xg_callV 1191 12 [] _ kv_X12_thrown ⟨_, _, rfl⟩ kl_RL_125 dL_law__1188 rfl kw.1.1 (by omega) rfl rfl (Nat.le_of_ble_eq_true rfl) (by omega) ⟨by omega, by omega⟩ (Ct.own (ct_X12_thrown (I := I2) (w := I2 (m + 1)) kw)) rfl ?_
        rw [upA_id, hk0]
        refine xg_iload 1193 dL_law__1191 rfl rfl ?_
        refine xg_iceq 1198 1196 dL_law__1193 rfl rfl (by omega) (fun hb1193 => ?_) (fun hb1193 => ?_)
        · skip
          refine xg_iload 1200 dL_law__1198 rfl rfl ?_
          refine xg_ifne 1215 1203 dL_law__1200 rfl rfl (by omega) (fun hb1200 => ?_) (fun hb1200 => ?_)
          · skip
            refine xg_goto 2318 dL_law__1215 rfl ?_
            refine xg_iinc 2321 _ dL_law__2318 rfl rfl rfl rfl (Nat.le_of_ble_eq_true rfl) (Or.inr rfl) ?_
            refine xg_goto 23 dL_law__2321 rfl ?_
            refine xg_less7 ?_
            exact ih _ _ _ _ _ _ _ _ _ _ hBk (by omega) (by omega) (by omega) (by omega)
          · skip
            refine xg_aloadn 1204 dL_law__1203 rfl rfl rfl ?_
            refine xg_iconst 1205 dL_law__1204 rfl ?_
            refine xg_lald 1206 dL_law__1205 rfl k16 (by rw [k1]; omega) ?_
            rw [hout (by omega)]
            refine xg_iload 1208 dL_law__1206 rfl rfl ?_
            refine xg_i2l 1209 dL_law__1208 rfl (by omega) ?_
            refine xg_lcmp 1210 dL_law__1209 rfl (by omega) ?_
            rw [xcmp_self]
            refine xg_ifeq 1215 1213 dL_law__1210 rfl rfl (by omega) (fun hb1210 => ?_) (fun hb1210 => ?_)
            · skip
              refine xg_goto 2318 dL_law__1215 rfl ?_
              refine xg_iinc 2321 _ dL_law__2318 rfl rfl rfl rfl (Nat.le_of_ble_eq_true rfl) (Or.inr rfl) ?_
              refine xg_goto 23 dL_law__2321 rfl ?_
              refine xg_less7 ?_
              exact ih _ _ _ _ _ _ _ _ _ _ hBk (by omega) (by omega) (by omega) (by omega)
            · exfalso; omega
        · exfalso; omega
      · refine xg_tin (o := 1178) 1218 dL_law__40 (by omega) ⟨by omega, by omega⟩ (by rw [show (sv - 0).toNat = 20 by omega]; rfl) rfl ?_
        obtain ⟨k, hk, ctc⟩ := op_looks hV hI0 (i32r (xs (i + 1).toNat))
        refine xg_aloadn 1219 dL_law__1218 rfl rfl rfl ?_
        refine xg_aloadn 1220 dL_law__1219 rfl rfl rfl ?_
        refine xg_iload 1222 dL_law__1220 rfl rfl ?_
        refine xg_iconst 1223 dL_law__1222 rfl ?_
        refine xg_iadd 1224 dL_law__1223 rfl ?_
        refine xg_ialdS 1225 dL_law__1224 rfl hX ⟨by omega, hN⟩ ?_
        refine xg_aloadn 1226 dL_law__1225 rfl rfl rfl ?_
        refine xg_callSH 1229 [_, _, _] [] kh_L_looks kl_RL_187 dL_law__1226 rfl rfl rfl (Nat.le_of_ble_eq_true rfl) (by omega) ⟨by omega, by omega⟩ ctc (fun v9 h9 e9 => ?_)
        obtain ⟨rfl, z1, T1, F1, I1, P1, Y1, rfl, ⟨ko, kw, k16, k1⟩, ctm⟩ := e9
        refine xg_istore 1231 _ dL_law__1229 rfl rfl (Nat.le_of_ble_eq_true rfl) (Or.inr rfl) ?_
        refine xg_aloadn 1232 dL_law__1231 rfl rfl rfl ?_
        refine xg_aloadn 1233 dL_law__1232 rfl rfl rfl ?_
        refine xg_iload 1235 dL_law__1233 rfl rfl ?_
        refine xg_iconst 1236 dL_law__1235 rfl ?_
        refine xg_iadd 1237 dL_law__1236 rfl ?_
        refine xg_ialdS 1238 dL_law__1237 rfl hX ⟨by omega, hN⟩ ?_
        refine xg_callVe 1241 12 [_] _ kv_X12_looks ⟨_, _, rfl⟩ kl_RL_189 dL_law__1238 rfl kw.1.1 (by omega) rfl rfl (Nat.le_of_ble_eq_true rfl) (by omega) ⟨by omega, by omega⟩ (ctm) rfl (fun v9 h9 e9 => ?_)
        obtain ⟨b9, F2, I2, ws2, rfl, hb9, rfl, hBk, hk0, hout⟩ := e9
        refine xg_istore 1243 _ dL_law__1241 rfl rfl (Nat.le_of_ble_eq_true rfl) (Or.inr rfl) ?_
        refine xg_aloadn 1244 dL_law__1243 rfl rfl rfl ?_
        refine xg_callV 1247 12 [] _ kv_X12_thrown ⟨_, _, rfl⟩ kl_RL_125 dL_law__1244 rfl kw.1.1 (by omega) rfl rfl (Nat.le_of_ble_eq_true rfl) (by omega) ⟨by omega, by omega⟩ (Ct.own (ct_X12_thrown (I := I2) (w := I2 (m + 1)) kw)) rfl ?_
        rw [upA_id, hk0]
        refine xg_iload 1249 dL_law__1247 rfl rfl ?_
        refine xg_iceq 1254 1252 dL_law__1249 rfl rfl (by omega) (fun hb1249 => ?_) (fun hb1249 => ?_)
        · skip
          refine xg_iload 1256 dL_law__1254 rfl rfl ?_
          refine xg_ifne 1271 1259 dL_law__1256 rfl rfl (by omega) (fun hb1256 => ?_) (fun hb1256 => ?_)
          · skip
            refine xg_goto 2318 dL_law__1271 rfl ?_
            refine xg_iinc 2321 _ dL_law__2318 rfl rfl rfl rfl (Nat.le_of_ble_eq_true rfl) (Or.inr rfl) ?_
            refine xg_goto 23 dL_law__2321 rfl ?_
            refine xg_less7 ?_
            exact ih _ _ _ _ _ _ _ _ _ _ hBk (by omega) (by omega) (by omega) (by omega)
          · skip
            refine xg_aloadn 1260 dL_law__1259 rfl rfl rfl ?_
            refine xg_iconst 1261 dL_law__1260 rfl ?_
            refine xg_lald 1262 dL_law__1261 rfl k16 (by rw [k1]; omega) ?_
            rw [hout (by omega)]
            refine xg_iload 1264 dL_law__1262 rfl rfl ?_
            refine xg_i2l 1265 dL_law__1264 rfl (by omega) ?_
            refine xg_lcmp 1266 dL_law__1265 rfl (by omega) ?_
            rw [xcmp_self]
            refine xg_ifeq 1271 1269 dL_law__1266 rfl rfl (by omega) (fun hb1266 => ?_) (fun hb1266 => ?_)
            · skip
              refine xg_goto 2318 dL_law__1271 rfl ?_
              refine xg_iinc 2321 _ dL_law__2318 rfl rfl rfl rfl (Nat.le_of_ble_eq_true rfl) (Or.inr rfl) ?_
              refine xg_goto 23 dL_law__2321 rfl ?_
              refine xg_less7 ?_
              exact ih _ _ _ _ _ _ _ _ _ _ hBk (by omega) (by omega) (by omega) (by omega)
            · exfalso; omega
        · exfalso; omega
      · refine xg_tin (o := 1234) 1274 dL_law__40 (by omega) ⟨by omega, by omega⟩ (by rw [show (sv - 0).toNat = 21 by omega]; rfl) rfl ?_
        have ctc := pp_many hV hI0 
        refine xg_aloadn 1275 dL_law__1274 rfl rfl rfl ?_
        refine xg_callVm 1278 11 [] _ kv_X11_many ⟨_, _, rfl⟩ kl_RL_190 dL_law__1275 rfl hI0.1.1.1 (by omega) rfl rfl (Nat.le_of_ble_eq_true rfl) (by omega) ⟨by omega, by omega⟩ (ctc) rfl (fun v9 h9 e9 => ?_)
        obtain ⟨r, z1, T1, F1, I1, P1, Y1, rfl, hr, rfl, ⟨ko, kw⟩, ctm⟩ := e9
        refine xg_aloadn 1279 dL_law__1278 rfl rfl rfl ?_
        refine xg_callVe 1282 12 [] _ kv_X12_many ⟨_, _, rfl⟩ kl_RL_193 dL_law__1279 rfl kw.1.1 (by omega) rfl rfl (Nat.le_of_ble_eq_true rfl) (by omega) ⟨by omega, by omega⟩ (ctm) rfl (fun v9 h9 e9 => ?_)
        obtain ⟨F2, I2, ws2, rfl, rfl, hBk⟩ := e9
        refine xg_iceq 2318 1285 dL_law__1282 rfl rfl (by omega) (fun hb1282 => ?_) (fun hb1282 => ?_)
        · skip
          refine xg_iinc 2321 _ dL_law__2318 rfl rfl rfl rfl (Nat.le_of_ble_eq_true rfl) (Or.inr rfl) ?_
          refine xg_goto 23 dL_law__2321 rfl ?_
          refine xg_less7 ?_
          exact ih _ _ _ _ _ _ _ _ _ _ hBk (by omega) (by omega) (by omega) (by omega)
        · exfalso; omega
      · refine xg_tin (o := 1247) 1287 dL_law__40 (by omega) ⟨by omega, by omega⟩ (by rw [show (sv - 0).toNat = 22 by omega]; rfl) rfl ?_
        have ctc := pp_rank hV hI0 (i32r (xs (i + 1).toNat))
        refine xg_aloadn 1288 dL_law__1287 rfl rfl rfl ?_
        refine xg_aloadn 1289 dL_law__1288 rfl rfl rfl ?_
        refine xg_iload 1291 dL_law__1289 rfl rfl ?_
        refine xg_iconst 1292 dL_law__1291 rfl ?_
        refine xg_iadd 1293 dL_law__1292 rfl ?_
        refine xg_ialdS 1294 dL_law__1293 rfl hX ⟨by omega, hN⟩ ?_
        refine xg_callVm 1297 11 [_] _ kv_X11_rank ⟨_, _, rfl⟩ kl_RL_194 dL_law__1294 rfl hI0.1.1.1 (by omega) rfl rfl (Nat.le_of_ble_eq_true rfl) (by omega) ⟨by omega, by omega⟩ (ctc) rfl (fun v9 h9 e9 => ?_)
        obtain ⟨r, z1, T1, F1, I1, P1, Y1, rfl, hr, rfl, ⟨ko, kw⟩, ctm⟩ := e9
        refine xg_aloadn 1298 dL_law__1297 rfl rfl rfl ?_
        refine xg_aloadn 1299 dL_law__1298 rfl rfl rfl ?_
        refine xg_iload 1301 dL_law__1299 rfl rfl ?_
        refine xg_iconst 1302 dL_law__1301 rfl ?_
        refine xg_iadd 1303 dL_law__1302 rfl ?_
        refine xg_ialdS 1304 dL_law__1303 rfl hX ⟨by omega, hN⟩ ?_
        refine xg_callVe 1307 12 [_] _ kv_X12_rank ⟨_, _, rfl⟩ kl_RL_197 dL_law__1304 rfl kw.1.1 (by omega) rfl rfl (Nat.le_of_ble_eq_true rfl) (by omega) ⟨by omega, by omega⟩ (ctm) rfl (fun v9 h9 e9 => ?_)
        obtain ⟨F2, I2, ws2, rfl, rfl, hBk⟩ := e9
        refine xg_iceq 2318 1310 dL_law__1307 rfl rfl (by omega) (fun hb1307 => ?_) (fun hb1307 => ?_)
        · skip
          refine xg_iinc 2321 _ dL_law__2318 rfl rfl rfl rfl (Nat.le_of_ble_eq_true rfl) (Or.inr rfl) ?_
          refine xg_goto 23 dL_law__2321 rfl ?_
          refine xg_less7 ?_
          exact ih _ _ _ _ _ _ _ _ _ _ hBk (by omega) (by omega) (by omega) (by omega)
        · exfalso; omega
      · refine xg_tin (o := 1272) 1312 dL_law__40 (by omega) ⟨by omega, by omega⟩ (by rw [show (sv - 0).toNat = 23 by omega]; rfl) rfl ?_
        obtain ⟨k, hk, ctc⟩ := op_total hV hI0 (i32r (xs (i + 1).toNat)) (i32r (xs (i + 2).toNat))
        refine xg_aloadn 1313 dL_law__1312 rfl rfl rfl ?_
        refine xg_aloadn 1314 dL_law__1313 rfl rfl rfl ?_
        refine xg_iload 1316 dL_law__1314 rfl rfl ?_
        refine xg_iconst 1317 dL_law__1316 rfl ?_
        refine xg_iadd 1318 dL_law__1317 rfl ?_
        refine xg_ialdS 1319 dL_law__1318 rfl hX ⟨by omega, hN⟩ ?_
        refine xg_aloadn 1320 dL_law__1319 rfl rfl rfl ?_
        refine xg_iload 1322 dL_law__1320 rfl rfl ?_
        refine xg_iconst 1323 dL_law__1322 rfl ?_
        refine xg_iadd 1324 dL_law__1323 rfl ?_
        refine xg_ialdS 1325 dL_law__1324 rfl hX ⟨by omega, hN⟩ ?_
        refine xg_aloadn 1326 dL_law__1325 rfl rfl rfl ?_
        refine xg_callSH 1329 [_, _, _, _] [] kh_L_total kl_RL_198 dL_law__1326 rfl rfl rfl (Nat.le_of_ble_eq_true rfl) (by omega) ⟨by omega, by omega⟩ ctc (fun v9 h9 e9 => ?_)
        obtain ⟨rfl, z1, T1, F1, I1, P1, Y1, rfl, ⟨ko, kw, k16, k1⟩, ctm⟩ := e9
        refine xg_istore 1331 _ dL_law__1329 rfl rfl (Nat.le_of_ble_eq_true rfl) (Or.inr rfl) ?_
        refine xg_aloadn 1332 dL_law__1331 rfl rfl rfl ?_
        refine xg_aloadn 1333 dL_law__1332 rfl rfl rfl ?_
        refine xg_iload 1335 dL_law__1333 rfl rfl ?_
        refine xg_iconst 1336 dL_law__1335 rfl ?_
        refine xg_iadd 1337 dL_law__1336 rfl ?_
        refine xg_ialdS 1338 dL_law__1337 rfl hX ⟨by omega, hN⟩ ?_
        refine xg_aloadn 1339 dL_law__1338 rfl rfl rfl ?_
        refine xg_iload 1341 dL_law__1339 rfl rfl ?_
        refine xg_iconst 1342 dL_law__1341 rfl ?_
        refine xg_iadd 1343 dL_law__1342 rfl ?_
        refine xg_ialdS 1344 dL_law__1343 rfl hX ⟨by omega, hN⟩ ?_
        refine xg_callVe 1347 12 [_, _] _ kv_X12_total ⟨_, _, rfl⟩ kl_RL_200 dL_law__1344 rfl kw.1.1 (by omega) rfl rfl (Nat.le_of_ble_eq_true rfl) (by omega) ⟨by omega, by omega⟩ (ctm) rfl (fun v9 h9 e9 => ?_)
        obtain ⟨b9, F2, I2, ws2, rfl, hb9, rfl, hBk, hk0, hout⟩ := e9
        refine xg_istore 1349 _ dL_law__1347 rfl rfl (Nat.le_of_ble_eq_true rfl) (Or.inr rfl) ?_
        refine xg_aloadn 1350 dL_law__1349 rfl rfl rfl ?_
        refine xg_callV 1353 12 [] _ kv_X12_thrown ⟨_, _, rfl⟩ kl_RL_125 dL_law__1350 rfl kw.1.1 (by omega) rfl rfl (Nat.le_of_ble_eq_true rfl) (by omega) ⟨by omega, by omega⟩ (Ct.own (ct_X12_thrown (I := I2) (w := I2 (m + 1)) kw)) rfl ?_
        rw [upA_id, hk0]
        refine xg_iload 1355 dL_law__1353 rfl rfl ?_
        refine xg_iceq 1360 1358 dL_law__1355 rfl rfl (by omega) (fun hb1355 => ?_) (fun hb1355 => ?_)
        · skip
          refine xg_iload 1362 dL_law__1360 rfl rfl ?_
          refine xg_ifne 1377 1365 dL_law__1362 rfl rfl (by omega) (fun hb1362 => ?_) (fun hb1362 => ?_)
          · skip
            refine xg_goto 2318 dL_law__1377 rfl ?_
            refine xg_iinc 2321 _ dL_law__2318 rfl rfl rfl rfl (Nat.le_of_ble_eq_true rfl) (Or.inr rfl) ?_
            refine xg_goto 23 dL_law__2321 rfl ?_
            refine xg_less7 ?_
            exact ih _ _ _ _ _ _ _ _ _ _ hBk (by omega) (by omega) (by omega) (by omega)
          · skip
            refine xg_aloadn 1366 dL_law__1365 rfl rfl rfl ?_
            refine xg_iconst 1367 dL_law__1366 rfl ?_
            refine xg_lald 1368 dL_law__1367 rfl k16 (by rw [k1]; omega) ?_
            rw [hout (by omega)]
            refine xg_iload 1370 dL_law__1368 rfl rfl ?_
            refine xg_i2l 1371 dL_law__1370 rfl (by omega) ?_
            refine xg_lcmp 1372 dL_law__1371 rfl (by omega) ?_
            rw [xcmp_self]
            refine xg_ifeq 1377 1375 dL_law__1372 rfl rfl (by omega) (fun hb1372 => ?_) (fun hb1372 => ?_)
            · skip
              refine xg_goto 2318 dL_law__1377 rfl ?_
              refine xg_iinc 2321 _ dL_law__2318 rfl rfl rfl rfl (Nat.le_of_ble_eq_true rfl) (Or.inr rfl) ?_
              refine xg_goto 23 dL_law__2321 rfl ?_
              refine xg_less7 ?_
              exact ih _ _ _ _ _ _ _ _ _ _ hBk (by omega) (by omega) (by omega) (by omega)
            · exfalso; omega
        · exfalso; omega
      · refine xg_tin (o := 1340) 1380 dL_law__40 (by omega) ⟨by omega, by omega⟩ (by rw [show (sv - 0).toNat = 24 by omega]; rfl) rfl ?_
        rcases (show (xs (i + 1).toNat).toInt ≠ 0 ∨ (xs (i + 1).toNat).toInt = 0 by omega) with hbb | hbb
        · have ctc := pp_over hV hI0  (bb := true)
          refine xg_aloadn 1381 dL_law__1380 rfl rfl rfl ?_
          refine xg_aloadn 1382 dL_law__1381 rfl rfl rfl ?_
          refine xg_iload 1384 dL_law__1382 rfl rfl ?_
          refine xg_iconst 1385 dL_law__1384 rfl ?_
          refine xg_iadd 1386 dL_law__1385 rfl ?_
          refine xg_ialdS 1387 dL_law__1386 rfl hX ⟨by omega, hN⟩ ?_
          refine xg_ifeq 1394 1390 dL_law__1387 rfl rfl (i32r _) (fun hb1387 => ?_) (fun hb1387 => ?_)
          · exfalso; omega
          · skip
            refine xg_iconst 1391 dL_law__1390 rfl ?_
            refine xg_goto 1395 dL_law__1391 rfl ?_
            refine xg_callVm 1398 11 [_] _ kv_X11_over ⟨_, _, rfl⟩ kl_RL_201 dL_law__1395 rfl hI0.1.1.1 (by omega) rfl rfl (Nat.le_of_ble_eq_true rfl) (by omega) ⟨by omega, by omega⟩ (ctc) rfl (fun v9 h9 e9 => ?_)
            obtain ⟨r, z1, T1, F1, I1, P1, Y1, rfl, hr, rfl, ⟨ko, kw⟩, ctm⟩ := e9
            refine xg_aloadn 1399 dL_law__1398 rfl rfl rfl ?_
            refine xg_aloadn 1400 dL_law__1399 rfl rfl rfl ?_
            refine xg_iload 1402 dL_law__1400 rfl rfl ?_
            refine xg_iconst 1403 dL_law__1402 rfl ?_
            refine xg_iadd 1404 dL_law__1403 rfl ?_
            refine xg_ialdS 1405 dL_law__1404 rfl hX ⟨by omega, hN⟩ ?_
            refine xg_ifeq 1412 1408 dL_law__1405 rfl rfl (i32r _) (fun hb1405 => ?_) (fun hb1405 => ?_)
            · exfalso; omega
            · skip
              refine xg_iconst 1409 dL_law__1408 rfl ?_
              refine xg_goto 1413 dL_law__1409 rfl ?_
              refine xg_callVe 1416 12 [_] _ kv_X12_over ⟨_, _, rfl⟩ kl_RL_205 dL_law__1413 rfl kw.1.1 (by omega) rfl rfl (Nat.le_of_ble_eq_true rfl) (by omega) ⟨by omega, by omega⟩ (ctm) rfl (fun v9 h9 e9 => ?_)
              obtain ⟨F2, I2, ws2, rfl, rfl, hBk⟩ := e9
              refine xg_iceq 2318 1419 dL_law__1416 rfl rfl (by omega) (fun hb1416 => ?_) (fun hb1416 => ?_)
              · skip
                refine xg_iinc 2321 _ dL_law__2318 rfl rfl rfl rfl (Nat.le_of_ble_eq_true rfl) (Or.inr rfl) ?_
                refine xg_goto 23 dL_law__2321 rfl ?_
                refine xg_less7 ?_
                exact ih _ _ _ _ _ _ _ _ _ _ hBk (by omega) (by omega) (by omega) (by omega)
              · exfalso; omega
        · have ctc := pp_over hV hI0  (bb := false)
          refine xg_aloadn 1381 dL_law__1380 rfl rfl rfl ?_
          refine xg_aloadn 1382 dL_law__1381 rfl rfl rfl ?_
          refine xg_iload 1384 dL_law__1382 rfl rfl ?_
          refine xg_iconst 1385 dL_law__1384 rfl ?_
          refine xg_iadd 1386 dL_law__1385 rfl ?_
          refine xg_ialdS 1387 dL_law__1386 rfl hX ⟨by omega, hN⟩ ?_
          refine xg_ifeq 1394 1390 dL_law__1387 rfl rfl (i32r _) (fun hb1387 => ?_) (fun hb1387 => ?_)
          · skip
            refine xg_iconst 1395 dL_law__1394 rfl ?_
            refine xg_callVm 1398 11 [_] _ kv_X11_over ⟨_, _, rfl⟩ kl_RL_201 dL_law__1395 rfl hI0.1.1.1 (by omega) rfl rfl (Nat.le_of_ble_eq_true rfl) (by omega) ⟨by omega, by omega⟩ (ctc) rfl (fun v9 h9 e9 => ?_)
            obtain ⟨r, z1, T1, F1, I1, P1, Y1, rfl, hr, rfl, ⟨ko, kw⟩, ctm⟩ := e9
            refine xg_aloadn 1399 dL_law__1398 rfl rfl rfl ?_
            refine xg_aloadn 1400 dL_law__1399 rfl rfl rfl ?_
            refine xg_iload 1402 dL_law__1400 rfl rfl ?_
            refine xg_iconst 1403 dL_law__1402 rfl ?_
            refine xg_iadd 1404 dL_law__1403 rfl ?_
            refine xg_ialdS 1405 dL_law__1404 rfl hX ⟨by omega, hN⟩ ?_
            refine xg_ifeq 1412 1408 dL_law__1405 rfl rfl (i32r _) (fun hb1405 => ?_) (fun hb1405 => ?_)
            · skip
              refine xg_iconst 1413 dL_law__1412 rfl ?_
              refine xg_callVe 1416 12 [_] _ kv_X12_over ⟨_, _, rfl⟩ kl_RL_205 dL_law__1413 rfl kw.1.1 (by omega) rfl rfl (Nat.le_of_ble_eq_true rfl) (by omega) ⟨by omega, by omega⟩ (ctm) rfl (fun v9 h9 e9 => ?_)
              obtain ⟨F2, I2, ws2, rfl, rfl, hBk⟩ := e9
              refine xg_iceq 2318 1419 dL_law__1416 rfl rfl (by omega) (fun hb1416 => ?_) (fun hb1416 => ?_)
              · skip
                refine xg_iinc 2321 _ dL_law__2318 rfl rfl rfl rfl (Nat.le_of_ble_eq_true rfl) (Or.inr rfl) ?_
                refine xg_goto 23 dL_law__2321 rfl ?_
                refine xg_less7 ?_
                exact ih _ _ _ _ _ _ _ _ _ _ hBk (by omega) (by omega) (by omega) (by omega)
              · exfalso; omega
            · exfalso; omega
          · exfalso; omega
      · refine xg_tin (o := 1381) 1421 dL_law__40 (by omega) ⟨by omega, by omega⟩ (by rw [show (sv - 0).toNat = 25 by omega]; rfl) rfl ?_
        rcases (show (xs (i + 1).toNat).toInt ≠ 0 ∨ (xs (i + 1).toNat).toInt = 0 by omega) with hbb | hbb
        · have ctc := pp_cheapest hV hI0  (bb := true)
          refine xg_aloadn 1422 dL_law__1421 rfl rfl rfl ?_
          refine xg_aloadn 1423 dL_law__1422 rfl rfl rfl ?_
          refine xg_iload 1425 dL_law__1423 rfl rfl ?_
          refine xg_iconst 1426 dL_law__1425 rfl ?_
          refine xg_iadd 1427 dL_law__1426 rfl ?_
          refine xg_ialdS 1428 dL_law__1427 rfl hX ⟨by omega, hN⟩ ?_
          refine xg_ifeq 1435 1431 dL_law__1428 rfl rfl (i32r _) (fun hb1428 => ?_) (fun hb1428 => ?_)
          · exfalso; omega
          · skip
            refine xg_iconst 1432 dL_law__1431 rfl ?_
            refine xg_goto 1436 dL_law__1432 rfl ?_
            refine xg_callVm 1439 11 [_] _ kv_X11_cheapest ⟨_, _, rfl⟩ kl_RL_206 dL_law__1436 rfl hI0.1.1.1 (by omega) rfl rfl (Nat.le_of_ble_eq_true rfl) (by omega) ⟨by omega, by omega⟩ (ctc) rfl (fun v9 h9 e9 => ?_)
            obtain ⟨r, z1, T1, F1, I1, P1, Y1, rfl, hr, rfl, ⟨ko, kw⟩, ctm⟩ := e9
            refine xg_aloadn 1440 dL_law__1439 rfl rfl rfl ?_
            refine xg_aloadn 1441 dL_law__1440 rfl rfl rfl ?_
            refine xg_iload 1443 dL_law__1441 rfl rfl ?_
            refine xg_iconst 1444 dL_law__1443 rfl ?_
            refine xg_iadd 1445 dL_law__1444 rfl ?_
            refine xg_ialdS 1446 dL_law__1445 rfl hX ⟨by omega, hN⟩ ?_
            refine xg_ifeq 1453 1449 dL_law__1446 rfl rfl (i32r _) (fun hb1446 => ?_) (fun hb1446 => ?_)
            · exfalso; omega
            · skip
              refine xg_iconst 1450 dL_law__1449 rfl ?_
              refine xg_goto 1454 dL_law__1450 rfl ?_
              refine xg_callVe 1457 12 [_] _ kv_X12_cheapest ⟨_, _, rfl⟩ kl_RL_209 dL_law__1454 rfl kw.1.1 (by omega) rfl rfl (Nat.le_of_ble_eq_true rfl) (by omega) ⟨by omega, by omega⟩ (ctm) rfl (fun v9 h9 e9 => ?_)
              obtain ⟨F2, I2, ws2, rfl, rfl, hBk⟩ := e9
              refine xg_iceq 2318 1460 dL_law__1457 rfl rfl (by omega) (fun hb1457 => ?_) (fun hb1457 => ?_)
              · skip
                refine xg_iinc 2321 _ dL_law__2318 rfl rfl rfl rfl (Nat.le_of_ble_eq_true rfl) (Or.inr rfl) ?_
                refine xg_goto 23 dL_law__2321 rfl ?_
                refine xg_less7 ?_
                exact ih _ _ _ _ _ _ _ _ _ _ hBk (by omega) (by omega) (by omega) (by omega)
              · exfalso; omega
        · have ctc := pp_cheapest hV hI0  (bb := false)
          refine xg_aloadn 1422 dL_law__1421 rfl rfl rfl ?_
          refine xg_aloadn 1423 dL_law__1422 rfl rfl rfl ?_
          refine xg_iload 1425 dL_law__1423 rfl rfl ?_
          refine xg_iconst 1426 dL_law__1425 rfl ?_
          refine xg_iadd 1427 dL_law__1426 rfl ?_
          refine xg_ialdS 1428 dL_law__1427 rfl hX ⟨by omega, hN⟩ ?_
          refine xg_ifeq 1435 1431 dL_law__1428 rfl rfl (i32r _) (fun hb1428 => ?_) (fun hb1428 => ?_)
          · skip
            refine xg_iconst 1436 dL_law__1435 rfl ?_
            refine xg_callVm 1439 11 [_] _ kv_X11_cheapest ⟨_, _, rfl⟩ kl_RL_206 dL_law__1436 rfl hI0.1.1.1 (by omega) rfl rfl (Nat.le_of_ble_eq_true rfl) (by omega) ⟨by omega, by omega⟩ (ctc) rfl (fun v9 h9 e9 => ?_)
            obtain ⟨r, z1, T1, F1, I1, P1, Y1, rfl, hr, rfl, ⟨ko, kw⟩, ctm⟩ := e9
            refine xg_aloadn 1440 dL_law__1439 rfl rfl rfl ?_
            refine xg_aloadn 1441 dL_law__1440 rfl rfl rfl ?_
            refine xg_iload 1443 dL_law__1441 rfl rfl ?_
            refine xg_iconst 1444 dL_law__1443 rfl ?_
            refine xg_iadd 1445 dL_law__1444 rfl ?_
            refine xg_ialdS 1446 dL_law__1445 rfl hX ⟨by omega, hN⟩ ?_
            refine xg_ifeq 1453 1449 dL_law__1446 rfl rfl (i32r _) (fun hb1446 => ?_) (fun hb1446 => ?_)
            · skip
              refine xg_iconst 1454 dL_law__1453 rfl ?_
              refine xg_callVe 1457 12 [_] _ kv_X12_cheapest ⟨_, _, rfl⟩ kl_RL_209 dL_law__1454 rfl kw.1.1 (by omega) rfl rfl (Nat.le_of_ble_eq_true rfl) (by omega) ⟨by omega, by omega⟩ (ctm) rfl (fun v9 h9 e9 => ?_)
              obtain ⟨F2, I2, ws2, rfl, rfl, hBk⟩ := e9
              refine xg_iceq 2318 1460 dL_law__1457 rfl rfl (by omega) (fun hb1457 => ?_) (fun hb1457 => ?_)
              · skip
                refine xg_iinc 2321 _ dL_law__2318 rfl rfl rfl rfl (Nat.le_of_ble_eq_true rfl) (Or.inr rfl) ?_
                refine xg_goto 23 dL_law__2321 rfl ?_
                refine xg_less7 ?_
                exact ih _ _ _ _ _ _ _ _ _ _ hBk (by omega) (by omega) (by omega) (by omega)
              · exfalso; omega
            · exfalso; omega
          · exfalso; omega
      · refine xg_tin (o := 1422) 1462 dL_law__40 (by omega) ⟨by omega, by omega⟩ (by rw [show (sv - 0).toNat = 26 by omega]; rfl) rfl ?_
        have ctc := pp_deepest hV hI0 
        refine xg_aloadn 1463 dL_law__1462 rfl rfl rfl ?_
        refine xg_callVm 1466 11 [] _ kv_X11_deepest ⟨_, _, rfl⟩ kl_RL_210 dL_law__1463 rfl hI0.1.1.1 (by omega) rfl rfl (Nat.le_of_ble_eq_true rfl) (by omega) ⟨by omega, by omega⟩ (ctc) rfl (fun v9 h9 e9 => ?_)
        obtain ⟨r, z1, T1, F1, I1, P1, Y1, rfl, hr, rfl, ⟨ko, kw⟩, ctm⟩ := e9
        refine xg_aloadn 1467 dL_law__1466 rfl rfl rfl ?_
        refine xg_callVe 1470 12 [] _ kv_X12_deepest ⟨_, _, rfl⟩ kl_RL_213 dL_law__1467 rfl kw.1.1 (by omega) rfl rfl (Nat.le_of_ble_eq_true rfl) (by omega) ⟨by omega, by omega⟩ (ctm) rfl (fun v9 h9 e9 => ?_)
        obtain ⟨F2, I2, ws2, rfl, rfl, hBk⟩ := e9
        refine xg_iceq 2318 1473 dL_law__1470 rfl rfl (by omega) (fun hb1470 => ?_) (fun hb1470 => ?_)
        · skip
          refine xg_iinc 2321 _ dL_law__2318 rfl rfl rfl rfl (Nat.le_of_ble_eq_true rfl) (Or.inr rfl) ?_
          refine xg_goto 23 dL_law__2321 rfl ?_
          refine xg_less7 ?_
          exact ih _ _ _ _ _ _ _ _ _ _ hBk (by omega) (by omega) (by omega) (by omega)
        · exfalso; omega
      · refine xg_tin (o := 1435) 1475 dL_law__40 (by omega) ⟨by omega, by omega⟩ (by rw [show (sv - 0).toNat = 27 by omega]; rfl) rfl ?_
        obtain ⟨k, hk, ctc⟩ := op_may hV hI0 
        refine xg_aloadn 1476 dL_law__1475 rfl rfl rfl ?_
        refine xg_aloadn 1477 dL_law__1476 rfl rfl rfl ?_
        refine xg_callSH 1480 [_, _] [] kh_L_may kl_RL_214 dL_law__1477 rfl rfl rfl (Nat.le_of_ble_eq_true rfl) (by omega) ⟨by omega, by omega⟩ ctc (fun v9 h9 e9 => ?_)
        obtain ⟨rfl, z1, T1, F1, I1, P1, Y1, rfl, ⟨ko, kw, k16, k1⟩, ctm⟩ := e9
        refine xg_istore 1482 _ dL_law__1480 rfl rfl (Nat.le_of_ble_eq_true rfl) (Or.inr rfl) ?_
        refine xg_aloadn 1483 dL_law__1482 rfl rfl rfl ?_
        refine xg_callVe 1486 12 [] _ kv_X12_may ⟨_, _, rfl⟩ kl_RL_216 dL_law__1483 rfl kw.1.1 (by omega) rfl rfl (Nat.le_of_ble_eq_true rfl) (by omega) ⟨by omega, by omega⟩ (ctm) rfl (fun v9 h9 e9 => ?_)
        obtain ⟨b9, F2, I2, ws2, rfl, hb9, rfl, hBk, hk0, hout⟩ := e9
        refine xg_istore 1488 _ dL_law__1486 rfl rfl (Nat.le_of_ble_eq_true rfl) (Or.inr rfl) ?_
        refine xg_aloadn 1489 dL_law__1488 rfl rfl rfl ?_
        refine xg_callV 1492 12 [] _ kv_X12_thrown ⟨_, _, rfl⟩ kl_RL_125 dL_law__1489 rfl kw.1.1 (by omega) rfl rfl (Nat.le_of_ble_eq_true rfl) (by omega) ⟨by omega, by omega⟩ (Ct.own (ct_X12_thrown (I := I2) (w := I2 (m + 1)) kw)) rfl ?_
        rw [upA_id, hk0]
        refine xg_iload 1494 dL_law__1492 rfl rfl ?_
        refine xg_iceq 1499 1497 dL_law__1494 rfl rfl (by omega) (fun hb1494 => ?_) (fun hb1494 => ?_)
        · skip
          refine xg_iload 1501 dL_law__1499 rfl rfl ?_
          refine xg_ifne 1516 1504 dL_law__1501 rfl rfl (by omega) (fun hb1501 => ?_) (fun hb1501 => ?_)
          · skip
            refine xg_goto 2318 dL_law__1516 rfl ?_
            refine xg_iinc 2321 _ dL_law__2318 rfl rfl rfl rfl (Nat.le_of_ble_eq_true rfl) (Or.inr rfl) ?_
            refine xg_goto 23 dL_law__2321 rfl ?_
            refine xg_less7 ?_
            exact ih _ _ _ _ _ _ _ _ _ _ hBk (by omega) (by omega) (by omega) (by omega)
          · skip
            refine xg_aloadn 1505 dL_law__1504 rfl rfl rfl ?_
            refine xg_iconst 1506 dL_law__1505 rfl ?_
            refine xg_lald 1507 dL_law__1506 rfl k16 (by rw [k1]; omega) ?_
            rw [hout (by omega)]
            refine xg_iload 1509 dL_law__1507 rfl rfl ?_
            refine xg_i2l 1510 dL_law__1509 rfl (by omega) ?_
            refine xg_lcmp 1511 dL_law__1510 rfl (by omega) ?_
            rw [xcmp_self]
            refine xg_ifeq 1516 1514 dL_law__1511 rfl rfl (by omega) (fun hb1511 => ?_) (fun hb1511 => ?_)
            · skip
              refine xg_goto 2318 dL_law__1516 rfl ?_
              refine xg_iinc 2321 _ dL_law__2318 rfl rfl rfl rfl (Nat.le_of_ble_eq_true rfl) (Or.inr rfl) ?_
              refine xg_goto 23 dL_law__2321 rfl ?_
              refine xg_less7 ?_
              exact ih _ _ _ _ _ _ _ _ _ _ hBk (by omega) (by omega) (by omega) (by omega)
            · exfalso; omega
        · exfalso; omega
      · refine xg_tin (o := 1479) 1519 dL_law__40 (by omega) ⟨by omega, by omega⟩ (by rw [show (sv - 0).toNat = 28 by omega]; rfl) rfl ?_
        obtain ⟨k, hk, ctc⟩ := op_likely hV hI0 
        refine xg_aloadn 1520 dL_law__1519 rfl rfl rfl ?_
        refine xg_aloadn 1521 dL_law__1520 rfl rfl rfl ?_
        refine xg_callSH 1524 [_, _] [] kh_L_likely kl_RL_217 dL_law__1521 rfl rfl rfl (Nat.le_of_ble_eq_true rfl) (by omega) ⟨by omega, by omega⟩ ctc (fun v9 h9 e9 => ?_)
        obtain ⟨rfl, z1, T1, F1, I1, P1, Y1, rfl, ⟨ko, kw, k16, k1⟩, ctm⟩ := e9
        refine xg_istore 1526 _ dL_law__1524 rfl rfl (Nat.le_of_ble_eq_true rfl) (Or.inr rfl) ?_
        refine xg_aloadn 1527 dL_law__1526 rfl rfl rfl ?_
        refine xg_callVe 1530 12 [] _ kv_X12_likely ⟨_, _, rfl⟩ kl_RL_219 dL_law__1527 rfl kw.1.1 (by omega) rfl rfl (Nat.le_of_ble_eq_true rfl) (by omega) ⟨by omega, by omega⟩ (ctm) rfl (fun v9 h9 e9 => ?_)
        obtain ⟨b9, F2, I2, ws2, rfl, hb9, rfl, hBk, hk0, hout⟩ := e9
        refine xg_istore 1532 _ dL_law__1530 rfl rfl (Nat.le_of_ble_eq_true rfl) (Or.inr rfl) ?_
        refine xg_aloadn 1533 dL_law__1532 rfl rfl rfl ?_
        refine xg_callV 1536 12 [] _ kv_X12_thrown ⟨_, _, rfl⟩ kl_RL_125 dL_law__1533 rfl kw.1.1 (by omega) rfl rfl (Nat.le_of_ble_eq_true rfl) (by omega) ⟨by omega, by omega⟩ (Ct.own (ct_X12_thrown (I := I2) (w := I2 (m + 1)) kw)) rfl ?_
        rw [upA_id, hk0]
        refine xg_iload 1538 dL_law__1536 rfl rfl ?_
        refine xg_iceq 1543 1541 dL_law__1538 rfl rfl (by omega) (fun hb1538 => ?_) (fun hb1538 => ?_)
        · skip
          refine xg_iload 1545 dL_law__1543 rfl rfl ?_
          refine xg_ifne 1560 1548 dL_law__1545 rfl rfl (by omega) (fun hb1545 => ?_) (fun hb1545 => ?_)
          · skip
            refine xg_goto 2318 dL_law__1560 rfl ?_
            refine xg_iinc 2321 _ dL_law__2318 rfl rfl rfl rfl (Nat.le_of_ble_eq_true rfl) (Or.inr rfl) ?_
            refine xg_goto 23 dL_law__2321 rfl ?_
            refine xg_less7 ?_
            exact ih _ _ _ _ _ _ _ _ _ _ hBk (by omega) (by omega) (by omega) (by omega)
          · skip
            refine xg_aloadn 1549 dL_law__1548 rfl rfl rfl ?_
            refine xg_iconst 1550 dL_law__1549 rfl ?_
            refine xg_lald 1551 dL_law__1550 rfl k16 (by rw [k1]; omega) ?_
            rw [hout (by omega)]
            refine xg_iload 1553 dL_law__1551 rfl rfl ?_
            refine xg_i2l 1554 dL_law__1553 rfl (by omega) ?_
            refine xg_lcmp 1555 dL_law__1554 rfl (by omega) ?_
            rw [xcmp_self]
            refine xg_ifeq 1560 1558 dL_law__1555 rfl rfl (by omega) (fun hb1555 => ?_) (fun hb1555 => ?_)
            · skip
              refine xg_goto 2318 dL_law__1560 rfl ?_
              refine xg_iinc 2321 _ dL_law__2318 rfl rfl rfl rfl (Nat.le_of_ble_eq_true rfl) (Or.inr rfl) ?_
              refine xg_goto 23 dL_law__2321 rfl ?_
              refine xg_less7 ?_
              exact ih _ _ _ _ _ _ _ _ _ _ hBk (by omega) (by omega) (by omega) (by omega)
            · exfalso; omega
        · exfalso; omega
      · refine xg_tin (o := 1523) 1563 dL_law__40 (by omega) ⟨by omega, by omega⟩ (by rw [show (sv - 0).toNat = 29 by omega]; rfl) rfl ?_
        obtain ⟨k, hk, ctc⟩ := op_look hV hI0 
        refine xg_aloadn 1564 dL_law__1563 rfl rfl rfl ?_
        refine xg_aloadn 1565 dL_law__1564 rfl rfl rfl ?_
        refine xg_callSH 1568 [_, _] [] kh_L_look kl_RL_220 dL_law__1565 rfl rfl rfl (Nat.le_of_ble_eq_true rfl) (by omega) ⟨by omega, by omega⟩ ctc (fun v9 h9 e9 => ?_)
        obtain ⟨rfl, z1, T1, F1, I1, P1, Y1, rfl, ⟨ko, kw, k16, k1⟩, ctm⟩ := e9
        refine xg_istore 1570 _ dL_law__1568 rfl rfl (Nat.le_of_ble_eq_true rfl) (Or.inr rfl) ?_
        refine xg_aloadn 1571 dL_law__1570 rfl rfl rfl ?_
        refine xg_callVe 1574 12 [] _ kv_X12_look ⟨_, _, rfl⟩ kl_RL_222 dL_law__1571 rfl kw.1.1 (by omega) rfl rfl (Nat.le_of_ble_eq_true rfl) (by omega) ⟨by omega, by omega⟩ (ctm) rfl (fun v9 h9 e9 => ?_)
        obtain ⟨b9, F2, I2, ws2, rfl, hb9, rfl, hBk, hk0, hout⟩ := e9
        refine xg_istore 1576 _ dL_law__1574 rfl rfl (Nat.le_of_ble_eq_true rfl) (Or.inr rfl) ?_
        refine xg_aloadn 1577 dL_law__1576 rfl rfl rfl ?_
        refine xg_callV 1580 12 [] _ kv_X12_thrown ⟨_, _, rfl⟩ kl_RL_125 dL_law__1577 rfl kw.1.1 (by omega) rfl rfl (Nat.le_of_ble_eq_true rfl) (by omega) ⟨by omega, by omega⟩ (Ct.own (ct_X12_thrown (I := I2) (w := I2 (m + 1)) kw)) rfl ?_
        rw [upA_id, hk0]
        refine xg_iload 1582 dL_law__1580 rfl rfl ?_
        refine xg_iceq 1587 1585 dL_law__1582 rfl rfl (by omega) (fun hb1582 => ?_) (fun hb1582 => ?_)
        · skip
          refine xg_iload 1589 dL_law__1587 rfl rfl ?_
          refine xg_ifne 1604 1592 dL_law__1589 rfl rfl (by omega) (fun hb1589 => ?_) (fun hb1589 => ?_)
          · skip
            refine xg_goto 2318 dL_law__1604 rfl ?_
            refine xg_iinc 2321 _ dL_law__2318 rfl rfl rfl rfl (Nat.le_of_ble_eq_true rfl) (Or.inr rfl) ?_
            refine xg_goto 23 dL_law__2321 rfl ?_
            refine xg_less7 ?_
            exact ih _ _ _ _ _ _ _ _ _ _ hBk (by omega) (by omega) (by omega) (by omega)
          · skip
            refine xg_aloadn 1593 dL_law__1592 rfl rfl rfl ?_
            refine xg_iconst 1594 dL_law__1593 rfl ?_
            refine xg_lald 1595 dL_law__1594 rfl k16 (by rw [k1]; omega) ?_
            rw [hout (by omega)]
            refine xg_iload 1597 dL_law__1595 rfl rfl ?_
            refine xg_i2l 1598 dL_law__1597 rfl (by omega) ?_
            refine xg_lcmp 1599 dL_law__1598 rfl (by omega) ?_
            rw [xcmp_self]
            refine xg_ifeq 1604 1602 dL_law__1599 rfl rfl (by omega) (fun hb1599 => ?_) (fun hb1599 => ?_)
            · skip
              refine xg_goto 2318 dL_law__1604 rfl ?_
              refine xg_iinc 2321 _ dL_law__2318 rfl rfl rfl rfl (Nat.le_of_ble_eq_true rfl) (Or.inr rfl) ?_
              refine xg_goto 23 dL_law__2321 rfl ?_
              refine xg_less7 ?_
              exact ih _ _ _ _ _ _ _ _ _ _ hBk (by omega) (by omega) (by omega) (by omega)
            · exfalso; omega
        · exfalso; omega
      · refine xg_tin (o := 1567) 1607 dL_law__40 (by omega) ⟨by omega, by omega⟩ (by rw [show (sv - 0).toNat = 30 by omega]; rfl) rfl ?_
        have ctc := pp_lead hV hI0 
        refine xg_aloadn 1608 dL_law__1607 rfl rfl rfl ?_
        refine xg_callVm 1611 11 [] _ kv_X11_lead ⟨_, _, rfl⟩ kl_RL_223 dL_law__1608 rfl hI0.1.1.1 (by omega) rfl rfl (Nat.le_of_ble_eq_true rfl) (by omega) ⟨by omega, by omega⟩ (ctc) rfl (fun v9 h9 e9 => ?_)
        obtain ⟨r, z1, T1, F1, I1, P1, Y1, rfl, hr, rfl, ⟨ko, kw⟩, ctm⟩ := e9
        refine xg_aloadn 1612 dL_law__1611 rfl rfl rfl ?_
        refine xg_callVe 1615 12 [] _ kv_X12_lead ⟨_, _, rfl⟩ kl_RL_226 dL_law__1612 rfl kw.1.1 (by omega) rfl rfl (Nat.le_of_ble_eq_true rfl) (by omega) ⟨by omega, by omega⟩ (ctm) rfl (fun v9 h9 e9 => ?_)
        obtain ⟨F2, I2, ws2, rfl, rfl, hBk⟩ := e9
        refine xg_iceq 2318 1618 dL_law__1615 rfl rfl (by omega) (fun hb1615 => ?_) (fun hb1615 => ?_)
        · skip
          refine xg_iinc 2321 _ dL_law__2318 rfl rfl rfl rfl (Nat.le_of_ble_eq_true rfl) (Or.inr rfl) ?_
          refine xg_goto 23 dL_law__2321 rfl ?_
          refine xg_less7 ?_
          exact ih _ _ _ _ _ _ _ _ _ _ hBk (by omega) (by omega) (by omega) (by omega)
        · exfalso; omega
      · refine xg_tin (o := 1580) 1620 dL_law__40 (by omega) ⟨by omega, by omega⟩ (by rw [show (sv - 0).toNat = 31 by omega]; rfl) rfl ?_
        have ctc := pp_side hV hI0 
        refine xg_aloadn 1621 dL_law__1620 rfl rfl rfl ?_
        refine xg_callVm 1624 11 [] _ kv_X11_side ⟨_, _, rfl⟩ kl_RL_227 dL_law__1621 rfl hI0.1.1.1 (by omega) rfl rfl (Nat.le_of_ble_eq_true rfl) (by omega) ⟨by omega, by omega⟩ (ctc) rfl (fun v9 h9 e9 => ?_)
        obtain ⟨r, z1, T1, F1, I1, P1, Y1, rfl, hr, rfl, ⟨ko, kw⟩, ctm⟩ := e9
        refine xg_aloadn 1625 dL_law__1624 rfl rfl rfl ?_
        refine xg_callVe 1628 12 [] _ kv_X12_side ⟨_, _, rfl⟩ kl_RL_230 dL_law__1625 rfl kw.1.1 (by omega) rfl rfl (Nat.le_of_ble_eq_true rfl) (by omega) ⟨by omega, by omega⟩ (ctm) rfl (fun v9 h9 e9 => ?_)
        obtain ⟨F2, I2, ws2, rfl, rfl, hBk⟩ := e9
        refine xg_iceq 2318 1631 dL_law__1628 rfl rfl (by omega) (fun hb1628 => ?_) (fun hb1628 => ?_)
        · skip
          refine xg_iinc 2321 _ dL_law__2318 rfl rfl rfl rfl (Nat.le_of_ble_eq_true rfl) (Or.inr rfl) ?_
          refine xg_goto 23 dL_law__2321 rfl ?_
          refine xg_less7 ?_
          exact ih _ _ _ _ _ _ _ _ _ _ hBk (by omega) (by omega) (by omega) (by omega)
        · exfalso; omega
      · refine xg_tin (o := 1593) 1633 dL_law__40 (by omega) ⟨by omega, by omega⟩ (by rw [show (sv - 0).toNat = 32 by omega]; rfl) rfl ?_
        obtain ⟨k, hk, ctc⟩ := op_pairs hV hI0 (i32r (xs (i + 1).toNat))
        refine xg_aloadn 1634 dL_law__1633 rfl rfl rfl ?_
        refine xg_aloadn 1635 dL_law__1634 rfl rfl rfl ?_
        refine xg_iload 1637 dL_law__1635 rfl rfl ?_
        refine xg_iconst 1638 dL_law__1637 rfl ?_
        refine xg_iadd 1639 dL_law__1638 rfl ?_
        refine xg_ialdS 1640 dL_law__1639 rfl hX ⟨by omega, hN⟩ ?_
        refine xg_aloadn 1641 dL_law__1640 rfl rfl rfl ?_
        refine xg_callSH 1644 [_, _, _] [] kh_L_pairs kl_RL_231 dL_law__1641 rfl rfl rfl (Nat.le_of_ble_eq_true rfl) (by omega) ⟨by omega, by omega⟩ ctc (fun v9 h9 e9 => ?_)
        obtain ⟨rfl, z1, T1, F1, I1, P1, Y1, rfl, ⟨ko, kw, k16, k1⟩, ctm⟩ := e9
        refine xg_istore 1646 _ dL_law__1644 rfl rfl (Nat.le_of_ble_eq_true rfl) (Or.inr rfl) ?_
        refine xg_aloadn 1647 dL_law__1646 rfl rfl rfl ?_
        refine xg_aloadn 1648 dL_law__1647 rfl rfl rfl ?_
        refine xg_iload 1650 dL_law__1648 rfl rfl ?_
        refine xg_iconst 1651 dL_law__1650 rfl ?_
        refine xg_iadd 1652 dL_law__1651 rfl ?_
        refine xg_ialdS 1653 dL_law__1652 rfl hX ⟨by omega, hN⟩ ?_
        refine xg_callVe 1656 12 [_] _ kv_X12_pairs ⟨_, _, rfl⟩ kl_RL_233 dL_law__1653 rfl kw.1.1 (by omega) rfl rfl (Nat.le_of_ble_eq_true rfl) (by omega) ⟨by omega, by omega⟩ (ctm) rfl (fun v9 h9 e9 => ?_)
        obtain ⟨b9, F2, I2, ws2, rfl, hb9, rfl, hBk, hk0, hout⟩ := e9
        refine xg_istore 1658 _ dL_law__1656 rfl rfl (Nat.le_of_ble_eq_true rfl) (Or.inr rfl) ?_
        refine xg_aloadn 1659 dL_law__1658 rfl rfl rfl ?_
        refine xg_callV 1662 12 [] _ kv_X12_thrown ⟨_, _, rfl⟩ kl_RL_125 dL_law__1659 rfl kw.1.1 (by omega) rfl rfl (Nat.le_of_ble_eq_true rfl) (by omega) ⟨by omega, by omega⟩ (Ct.own (ct_X12_thrown (I := I2) (w := I2 (m + 1)) kw)) rfl ?_
        rw [upA_id, hk0]
        refine xg_iload 1664 dL_law__1662 rfl rfl ?_
        refine xg_iceq 1669 1667 dL_law__1664 rfl rfl (by omega) (fun hb1664 => ?_) (fun hb1664 => ?_)
        · skip
          refine xg_iload 1671 dL_law__1669 rfl rfl ?_
          refine xg_ifne 1686 1674 dL_law__1671 rfl rfl (by omega) (fun hb1671 => ?_) (fun hb1671 => ?_)
          · skip
            refine xg_goto 2318 dL_law__1686 rfl ?_
            refine xg_iinc 2321 _ dL_law__2318 rfl rfl rfl rfl (Nat.le_of_ble_eq_true rfl) (Or.inr rfl) ?_
            refine xg_goto 23 dL_law__2321 rfl ?_
            refine xg_less7 ?_
            exact ih _ _ _ _ _ _ _ _ _ _ hBk (by omega) (by omega) (by omega) (by omega)
          · skip
            refine xg_aloadn 1675 dL_law__1674 rfl rfl rfl ?_
            refine xg_iconst 1676 dL_law__1675 rfl ?_
            refine xg_lald 1677 dL_law__1676 rfl k16 (by rw [k1]; omega) ?_
            rw [hout (by omega)]
            refine xg_iload 1679 dL_law__1677 rfl rfl ?_
            refine xg_i2l 1680 dL_law__1679 rfl (by omega) ?_
            refine xg_lcmp 1681 dL_law__1680 rfl (by omega) ?_
            rw [xcmp_self]
            refine xg_ifeq 1686 1684 dL_law__1681 rfl rfl (by omega) (fun hb1681 => ?_) (fun hb1681 => ?_)
            · skip
              refine xg_goto 2318 dL_law__1686 rfl ?_
              refine xg_iinc 2321 _ dL_law__2318 rfl rfl rfl rfl (Nat.le_of_ble_eq_true rfl) (Or.inr rfl) ?_
              refine xg_goto 23 dL_law__2321 rfl ?_
              refine xg_less7 ?_
              exact ih _ _ _ _ _ _ _ _ _ _ hBk (by omega) (by omega) (by omega) (by omega)
            · exfalso; omega
        · exfalso; omega
      · refine xg_tin (o := 1649) 1689 dL_law__40 (by omega) ⟨by omega, by omega⟩ (by rw [show (sv - 0).toNat = 33 by omega]; rfl) rfl ?_
        have ctc := pp_rests hV hI0 
        refine xg_aloadn 1690 dL_law__1689 rfl rfl rfl ?_
        refine xg_callVm 1693 11 [] _ kv_X11_rests ⟨_, _, rfl⟩ kl_RL_234 dL_law__1690 rfl hI0.1.1.1 (by omega) rfl rfl (Nat.le_of_ble_eq_true rfl) (by omega) ⟨by omega, by omega⟩ (ctc) rfl (fun v9 h9 e9 => ?_)
        obtain ⟨r, z1, T1, F1, I1, P1, Y1, rfl, hr, rfl, ⟨ko, kw⟩, ctm⟩ := e9
        refine xg_aloadn 1694 dL_law__1693 rfl rfl rfl ?_
        refine xg_callVe 1697 12 [] _ kv_X12_rests ⟨_, _, rfl⟩ kl_RL_237 dL_law__1694 rfl kw.1.1 (by omega) rfl rfl (Nat.le_of_ble_eq_true rfl) (by omega) ⟨by omega, by omega⟩ (ctm) rfl (fun v9 h9 e9 => ?_)
        obtain ⟨F2, I2, ws2, rfl, rfl, hBk⟩ := e9
        refine xg_iceq 2318 1700 dL_law__1697 rfl rfl (by omega) (fun hb1697 => ?_) (fun hb1697 => ?_)
        · skip
          refine xg_iinc 2321 _ dL_law__2318 rfl rfl rfl rfl (Nat.le_of_ble_eq_true rfl) (Or.inr rfl) ?_
          refine xg_goto 23 dL_law__2321 rfl ?_
          refine xg_less7 ?_
          exact ih _ _ _ _ _ _ _ _ _ _ hBk (by omega) (by omega) (by omega) (by omega)
        · exfalso; omega
      · refine xg_tin (o := 1662) 1702 dL_law__40 (by omega) ⟨by omega, by omega⟩ (by rw [show (sv - 0).toNat = 34 by omega]; rfl) rfl ?_
        obtain ⟨k, hk, ctc⟩ := op_odds hV hI0 (i32r (xs (i + 1).toNat))
        refine xg_aloadn 1703 dL_law__1702 rfl rfl rfl ?_
        refine xg_aloadn 1704 dL_law__1703 rfl rfl rfl ?_
        refine xg_iload 1706 dL_law__1704 rfl rfl ?_
        refine xg_iconst 1707 dL_law__1706 rfl ?_
        refine xg_iadd 1708 dL_law__1707 rfl ?_
        refine xg_ialdS 1709 dL_law__1708 rfl hX ⟨by omega, hN⟩ ?_
        refine xg_aloadn 1710 dL_law__1709 rfl rfl rfl ?_
        refine xg_callSH 1713 [_, _, _] [] kh_L_odds kl_RL_238 dL_law__1710 rfl rfl rfl (Nat.le_of_ble_eq_true rfl) (by omega) ⟨by omega, by omega⟩ ctc (fun v9 h9 e9 => ?_)
        obtain ⟨rfl, z1, T1, F1, I1, P1, Y1, rfl, ⟨ko, kw, k16, k1⟩, ctm⟩ := e9
        refine xg_istore 1715 _ dL_law__1713 rfl rfl (Nat.le_of_ble_eq_true rfl) (Or.inr rfl) ?_
        refine xg_aloadn 1716 dL_law__1715 rfl rfl rfl ?_
        refine xg_aloadn 1717 dL_law__1716 rfl rfl rfl ?_
        refine xg_iload 1719 dL_law__1717 rfl rfl ?_
        refine xg_iconst 1720 dL_law__1719 rfl ?_
        refine xg_iadd 1721 dL_law__1720 rfl ?_
        refine xg_ialdS 1722 dL_law__1721 rfl hX ⟨by omega, hN⟩ ?_
        refine xg_callVe 1725 12 [_] _ kv_X12_odds ⟨_, _, rfl⟩ kl_RL_240 dL_law__1722 rfl kw.1.1 (by omega) rfl rfl (Nat.le_of_ble_eq_true rfl) (by omega) ⟨by omega, by omega⟩ (ctm) rfl (fun v9 h9 e9 => ?_)
        obtain ⟨b9, F2, I2, ws2, rfl, hb9, rfl, hBk, hk0, hout⟩ := e9
        refine xg_istore 1727 _ dL_law__1725 rfl rfl (Nat.le_of_ble_eq_true rfl) (Or.inr rfl) ?_
        refine xg_aloadn 1728 dL_law__1727 rfl rfl rfl ?_
        refine xg_callV 1731 12 [] _ kv_X12_thrown ⟨_, _, rfl⟩ kl_RL_125 dL_law__1728 rfl kw.1.1 (by omega) rfl rfl (Nat.le_of_ble_eq_true rfl) (by omega) ⟨by omega, by omega⟩ (Ct.own (ct_X12_thrown (I := I2) (w := I2 (m + 1)) kw)) rfl ?_
        rw [upA_id, hk0]
        refine xg_iload 1733 dL_law__1731 rfl rfl ?_
        refine xg_iceq 1738 1736 dL_law__1733 rfl rfl (by omega) (fun hb1733 => ?_) (fun hb1733 => ?_)
        · skip
          refine xg_iload 1740 dL_law__1738 rfl rfl ?_
          refine xg_ifne 1755 1743 dL_law__1740 rfl rfl (by omega) (fun hb1740 => ?_) (fun hb1740 => ?_)
          · skip
            refine xg_goto 2318 dL_law__1755 rfl ?_
            refine xg_iinc 2321 _ dL_law__2318 rfl rfl rfl rfl (Nat.le_of_ble_eq_true rfl) (Or.inr rfl) ?_
            refine xg_goto 23 dL_law__2321 rfl ?_
            refine xg_less7 ?_
            exact ih _ _ _ _ _ _ _ _ _ _ hBk (by omega) (by omega) (by omega) (by omega)
          · skip
            refine xg_aloadn 1744 dL_law__1743 rfl rfl rfl ?_
            refine xg_iconst 1745 dL_law__1744 rfl ?_
            refine xg_lald 1746 dL_law__1745 rfl k16 (by rw [k1]; omega) ?_
            rw [hout (by omega)]
            refine xg_iload 1748 dL_law__1746 rfl rfl ?_
            refine xg_i2l 1749 dL_law__1748 rfl (by omega) ?_
            refine xg_lcmp 1750 dL_law__1749 rfl (by omega) ?_
            rw [xcmp_self]
            refine xg_ifeq 1755 1753 dL_law__1750 rfl rfl (by omega) (fun hb1750 => ?_) (fun hb1750 => ?_)
            · skip
              refine xg_goto 2318 dL_law__1755 rfl ?_
              refine xg_iinc 2321 _ dL_law__2318 rfl rfl rfl rfl (Nat.le_of_ble_eq_true rfl) (Or.inr rfl) ?_
              refine xg_goto 23 dL_law__2321 rfl ?_
              refine xg_less7 ?_
              exact ih _ _ _ _ _ _ _ _ _ _ hBk (by omega) (by omega) (by omega) (by omega)
            · exfalso; omega
        · exfalso; omega
      · refine xg_tin (o := 1718) 1758 dL_law__40 (by omega) ⟨by omega, by omega⟩ (by rw [show (sv - 0).toNat = 35 by omega]; rfl) rfl ?_
        obtain ⟨k, hk, ctc⟩ := op_most hV hI0 (i32r (xs (i + 1).toNat))
        refine xg_aloadn 1759 dL_law__1758 rfl rfl rfl ?_
        refine xg_aloadn 1760 dL_law__1759 rfl rfl rfl ?_
        refine xg_iload 1762 dL_law__1760 rfl rfl ?_
        refine xg_iconst 1763 dL_law__1762 rfl ?_
        refine xg_iadd 1764 dL_law__1763 rfl ?_
        refine xg_ialdS 1765 dL_law__1764 rfl hX ⟨by omega, hN⟩ ?_
        refine xg_aloadn 1766 dL_law__1765 rfl rfl rfl ?_
        refine xg_callSH 1769 [_, _, _] [] kh_L_most kl_RL_241 dL_law__1766 rfl rfl rfl (Nat.le_of_ble_eq_true rfl) (by omega) ⟨by omega, by omega⟩ ctc (fun v9 h9 e9 => ?_)
        obtain ⟨rfl, z1, T1, F1, I1, P1, Y1, rfl, ⟨ko, kw, k16, k1⟩, ctm⟩ := e9
        refine xg_istore 1771 _ dL_law__1769 rfl rfl (Nat.le_of_ble_eq_true rfl) (Or.inr rfl) ?_
        refine xg_aloadn 1772 dL_law__1771 rfl rfl rfl ?_
        refine xg_aloadn 1773 dL_law__1772 rfl rfl rfl ?_
        refine xg_iload 1775 dL_law__1773 rfl rfl ?_
        refine xg_iconst 1776 dL_law__1775 rfl ?_
        refine xg_iadd 1777 dL_law__1776 rfl ?_
        refine xg_ialdS 1778 dL_law__1777 rfl hX ⟨by omega, hN⟩ ?_
        refine xg_callVe 1781 12 [_] _ kv_X12_most ⟨_, _, rfl⟩ kl_RL_243 dL_law__1778 rfl kw.1.1 (by omega) rfl rfl (Nat.le_of_ble_eq_true rfl) (by omega) ⟨by omega, by omega⟩ (ctm) rfl (fun v9 h9 e9 => ?_)
        obtain ⟨b9, F2, I2, ws2, rfl, hb9, rfl, hBk, hk0, hout⟩ := e9
        refine xg_istore 1783 _ dL_law__1781 rfl rfl (Nat.le_of_ble_eq_true rfl) (Or.inr rfl) ?_
        refine xg_aloadn 1784 dL_law__1783 rfl rfl rfl ?_
        refine xg_callV 1787 12 [] _ kv_X12_thrown ⟨_, _, rfl⟩ kl_RL_125 dL_law__1784 rfl kw.1.1 (by omega) rfl rfl (Nat.le_of_ble_eq_true rfl) (by omega) ⟨by omega, by omega⟩ (Ct.own (ct_X12_thrown (I := I2) (w := I2 (m + 1)) kw)) rfl ?_
        rw [upA_id, hk0]
        refine xg_iload 1789 dL_law__1787 rfl rfl ?_
        refine xg_iceq 1794 1792 dL_law__1789 rfl rfl (by omega) (fun hb1789 => ?_) (fun hb1789 => ?_)
        · skip
          refine xg_iload 1796 dL_law__1794 rfl rfl ?_
          refine xg_ifne 1811 1799 dL_law__1796 rfl rfl (by omega) (fun hb1796 => ?_) (fun hb1796 => ?_)
          · skip
            refine xg_goto 2318 dL_law__1811 rfl ?_
            refine xg_iinc 2321 _ dL_law__2318 rfl rfl rfl rfl (Nat.le_of_ble_eq_true rfl) (Or.inr rfl) ?_
            refine xg_goto 23 dL_law__2321 rfl ?_
            refine xg_less7 ?_
            exact ih _ _ _ _ _ _ _ _ _ _ hBk (by omega) (by omega) (by omega) (by omega)
          · skip
            refine xg_aloadn 1800 dL_law__1799 rfl rfl rfl ?_
            refine xg_iconst 1801 dL_law__1800 rfl ?_
            refine xg_lald 1802 dL_law__1801 rfl k16 (by rw [k1]; omega) ?_
            rw [hout (by omega)]
            refine xg_iload 1804 dL_law__1802 rfl rfl ?_
            refine xg_i2l 1805 dL_law__1804 rfl (by omega) ?_
            refine xg_lcmp 1806 dL_law__1805 rfl (by omega) ?_
            rw [xcmp_self]
            refine xg_ifeq 1811 1809 dL_law__1806 rfl rfl (by omega) (fun hb1806 => ?_) (fun hb1806 => ?_)
            · skip
              refine xg_goto 2318 dL_law__1811 rfl ?_
              refine xg_iinc 2321 _ dL_law__2318 rfl rfl rfl rfl (Nat.le_of_ble_eq_true rfl) (Or.inr rfl) ?_
              refine xg_goto 23 dL_law__2321 rfl ?_
              refine xg_less7 ?_
              exact ih _ _ _ _ _ _ _ _ _ _ hBk (by omega) (by omega) (by omega) (by omega)
            · exfalso; omega
        · exfalso; omega
      · refine xg_tin (o := 1774) 1814 dL_law__40 (by omega) ⟨by omega, by omega⟩ (by rw [show (sv - 0).toNat = 36 by omega]; rfl) rfl ?_
        have ctc := pp_twins hV hI0 
        refine xg_aloadn 1815 dL_law__1814 rfl rfl rfl ?_
        refine xg_callVm 1818 11 [] _ kv_X11_twins ⟨_, _, rfl⟩ kl_RL_244 dL_law__1815 rfl hI0.1.1.1 (by omega) rfl rfl (Nat.le_of_ble_eq_true rfl) (by omega) ⟨by omega, by omega⟩ (ctc) rfl (fun v9 h9 e9 => ?_)
        obtain ⟨r, z1, T1, F1, I1, P1, Y1, rfl, hr, rfl, ⟨ko, kw⟩, ctm⟩ := e9
        refine xg_aloadn 1819 dL_law__1818 rfl rfl rfl ?_
        refine xg_callVe 1822 12 [] _ kv_X12_twins ⟨_, _, rfl⟩ kl_RL_247 dL_law__1819 rfl kw.1.1 (by omega) rfl rfl (Nat.le_of_ble_eq_true rfl) (by omega) ⟨by omega, by omega⟩ (ctm) rfl (fun v9 h9 e9 => ?_)
        obtain ⟨F2, I2, ws2, rfl, rfl, hBk⟩ := e9
        refine xg_iceq 2318 1825 dL_law__1822 rfl rfl (by omega) (fun hb1822 => ?_) (fun hb1822 => ?_)
        · skip
          refine xg_iinc 2321 _ dL_law__2318 rfl rfl rfl rfl (Nat.le_of_ble_eq_true rfl) (Or.inr rfl) ?_
          refine xg_goto 23 dL_law__2321 rfl ?_
          refine xg_less7 ?_
          exact ih _ _ _ _ _ _ _ _ _ _ hBk (by omega) (by omega) (by omega) (by omega)
        · exfalso; omega
      · refine xg_tin (o := 1787) 1827 dL_law__40 (by omega) ⟨by omega, by omega⟩ (by rw [show (sv - 0).toNat = 37 by omega]; rfl) rfl ?_
        rcases (show (xs (i + 2).toNat).toInt ≠ 0 ∨ (xs (i + 2).toNat).toInt = 0 by omega) with hbb | hbb
        · obtain ⟨k, hk, ctc⟩ := op_ahead hV hI0 (i32r (xs (i + 1).toNat)) (bb := true)
          refine xg_aloadn 1828 dL_law__1827 rfl rfl rfl ?_
          refine xg_aloadn 1829 dL_law__1828 rfl rfl rfl ?_
          refine xg_iload 1831 dL_law__1829 rfl rfl ?_
          refine xg_iconst 1832 dL_law__1831 rfl ?_
          refine xg_iadd 1833 dL_law__1832 rfl ?_
          refine xg_ialdS 1834 dL_law__1833 rfl hX ⟨by omega, hN⟩ ?_
          refine xg_aloadn 1835 dL_law__1834 rfl rfl rfl ?_
          refine xg_iload 1837 dL_law__1835 rfl rfl ?_
          refine xg_iconst 1838 dL_law__1837 rfl ?_
          refine xg_iadd 1839 dL_law__1838 rfl ?_
          refine xg_ialdS 1840 dL_law__1839 rfl hX ⟨by omega, hN⟩ ?_
          refine xg_ifeq 1847 1843 dL_law__1840 rfl rfl (i32r _) (fun hb1840 => ?_) (fun hb1840 => ?_)
          · exfalso; omega
          · skip
            refine xg_iconst 1844 dL_law__1843 rfl ?_
            refine xg_goto 1848 dL_law__1844 rfl ?_
            refine xg_aloadn 1849 dL_law__1848 rfl rfl rfl ?_
            refine xg_callSH 1852 [_, _, _, _] [] kh_L_ahead kl_RL_248 dL_law__1849 rfl rfl rfl (Nat.le_of_ble_eq_true rfl) (by omega) ⟨by omega, by omega⟩ ctc (fun v9 h9 e9 => ?_)
            obtain ⟨rfl, z1, T1, F1, I1, P1, Y1, rfl, ⟨ko, kw, k16, k1⟩, ctm⟩ := e9
            refine xg_istore 1854 _ dL_law__1852 rfl rfl (Nat.le_of_ble_eq_true rfl) (Or.inr rfl) ?_
            refine xg_aloadn 1855 dL_law__1854 rfl rfl rfl ?_
            refine xg_aloadn 1856 dL_law__1855 rfl rfl rfl ?_
            refine xg_iload 1858 dL_law__1856 rfl rfl ?_
            refine xg_iconst 1859 dL_law__1858 rfl ?_
            refine xg_iadd 1860 dL_law__1859 rfl ?_
            refine xg_ialdS 1861 dL_law__1860 rfl hX ⟨by omega, hN⟩ ?_
            refine xg_aloadn 1862 dL_law__1861 rfl rfl rfl ?_
            refine xg_iload 1864 dL_law__1862 rfl rfl ?_
            refine xg_iconst 1865 dL_law__1864 rfl ?_
            refine xg_iadd 1866 dL_law__1865 rfl ?_
            refine xg_ialdS 1867 dL_law__1866 rfl hX ⟨by omega, hN⟩ ?_
            refine xg_ifeq 1874 1870 dL_law__1867 rfl rfl (i32r _) (fun hb1867 => ?_) (fun hb1867 => ?_)
            · exfalso; omega
            · skip
              refine xg_iconst 1871 dL_law__1870 rfl ?_
              refine xg_goto 1875 dL_law__1871 rfl ?_
              refine xg_callVe 1878 12 [_, _] _ kv_X12_ahead ⟨_, _, rfl⟩ kl_RL_251 dL_law__1875 rfl kw.1.1 (by omega) rfl rfl (Nat.le_of_ble_eq_true rfl) (by omega) ⟨by omega, by omega⟩ (ctm) rfl (fun v9 h9 e9 => ?_)
              obtain ⟨b9, F2, I2, ws2, rfl, hb9, rfl, hBk, hk0, hout⟩ := e9
              refine xg_istore 1880 _ dL_law__1878 rfl rfl (Nat.le_of_ble_eq_true rfl) (Or.inr rfl) ?_
              refine xg_aloadn 1881 dL_law__1880 rfl rfl rfl ?_
              refine xg_callV 1884 12 [] _ kv_X12_thrown ⟨_, _, rfl⟩ kl_RL_125 dL_law__1881 rfl kw.1.1 (by omega) rfl rfl (Nat.le_of_ble_eq_true rfl) (by omega) ⟨by omega, by omega⟩ (Ct.own (ct_X12_thrown (I := I2) (w := I2 (m + 1)) kw)) rfl ?_
              rw [upA_id, hk0]
              refine xg_iload 1886 dL_law__1884 rfl rfl ?_
              refine xg_iceq 1891 1889 dL_law__1886 rfl rfl (by omega) (fun hb1886 => ?_) (fun hb1886 => ?_)
              · skip
                refine xg_iload 1893 dL_law__1891 rfl rfl ?_
                refine xg_ifne 1908 1896 dL_law__1893 rfl rfl (by omega) (fun hb1893 => ?_) (fun hb1893 => ?_)
                · skip
                  refine xg_goto 2318 dL_law__1908 rfl ?_
                  refine xg_iinc 2321 _ dL_law__2318 rfl rfl rfl rfl (Nat.le_of_ble_eq_true rfl) (Or.inr rfl) ?_
                  refine xg_goto 23 dL_law__2321 rfl ?_
                  refine xg_less7 ?_
                  exact ih _ _ _ _ _ _ _ _ _ _ hBk (by omega) (by omega) (by omega) (by omega)
                · skip
                  refine xg_aloadn 1897 dL_law__1896 rfl rfl rfl ?_
                  refine xg_iconst 1898 dL_law__1897 rfl ?_
                  refine xg_lald 1899 dL_law__1898 rfl k16 (by rw [k1]; omega) ?_
                  rw [hout (by omega)]
                  refine xg_iload 1901 dL_law__1899 rfl rfl ?_
                  refine xg_i2l 1902 dL_law__1901 rfl (by omega) ?_
                  refine xg_lcmp 1903 dL_law__1902 rfl (by omega) ?_
                  rw [xcmp_self]
                  refine xg_ifeq 1908 1906 dL_law__1903 rfl rfl (by omega) (fun hb1903 => ?_) (fun hb1903 => ?_)
                  · skip
                    refine xg_goto 2318 dL_law__1908 rfl ?_
                    refine xg_iinc 2321 _ dL_law__2318 rfl rfl rfl rfl (Nat.le_of_ble_eq_true rfl) (Or.inr rfl) ?_
                    refine xg_goto 23 dL_law__2321 rfl ?_
                    refine xg_less7 ?_
                    exact ih _ _ _ _ _ _ _ _ _ _ hBk (by omega) (by omega) (by omega) (by omega)
                  · exfalso; omega
              · exfalso; omega
        · obtain ⟨k, hk, ctc⟩ := op_ahead hV hI0 (i32r (xs (i + 1).toNat)) (bb := false)
          refine xg_aloadn 1828 dL_law__1827 rfl rfl rfl ?_
          refine xg_aloadn 1829 dL_law__1828 rfl rfl rfl ?_
          refine xg_iload 1831 dL_law__1829 rfl rfl ?_
          refine xg_iconst 1832 dL_law__1831 rfl ?_
          refine xg_iadd 1833 dL_law__1832 rfl ?_
          refine xg_ialdS 1834 dL_law__1833 rfl hX ⟨by omega, hN⟩ ?_
          refine xg_aloadn 1835 dL_law__1834 rfl rfl rfl ?_
          refine xg_iload 1837 dL_law__1835 rfl rfl ?_
          refine xg_iconst 1838 dL_law__1837 rfl ?_
          refine xg_iadd 1839 dL_law__1838 rfl ?_
          refine xg_ialdS 1840 dL_law__1839 rfl hX ⟨by omega, hN⟩ ?_
          refine xg_ifeq 1847 1843 dL_law__1840 rfl rfl (i32r _) (fun hb1840 => ?_) (fun hb1840 => ?_)
          · skip
            refine xg_iconst 1848 dL_law__1847 rfl ?_
            refine xg_aloadn 1849 dL_law__1848 rfl rfl rfl ?_
            refine xg_callSH 1852 [_, _, _, _] [] kh_L_ahead kl_RL_248 dL_law__1849 rfl rfl rfl (Nat.le_of_ble_eq_true rfl) (by omega) ⟨by omega, by omega⟩ ctc (fun v9 h9 e9 => ?_)
            obtain ⟨rfl, z1, T1, F1, I1, P1, Y1, rfl, ⟨ko, kw, k16, k1⟩, ctm⟩ := e9
            refine xg_istore 1854 _ dL_law__1852 rfl rfl (Nat.le_of_ble_eq_true rfl) (Or.inr rfl) ?_
            refine xg_aloadn 1855 dL_law__1854 rfl rfl rfl ?_
            refine xg_aloadn 1856 dL_law__1855 rfl rfl rfl ?_
            refine xg_iload 1858 dL_law__1856 rfl rfl ?_
            refine xg_iconst 1859 dL_law__1858 rfl ?_
            refine xg_iadd 1860 dL_law__1859 rfl ?_
            refine xg_ialdS 1861 dL_law__1860 rfl hX ⟨by omega, hN⟩ ?_
            refine xg_aloadn 1862 dL_law__1861 rfl rfl rfl ?_
            refine xg_iload 1864 dL_law__1862 rfl rfl ?_
            refine xg_iconst 1865 dL_law__1864 rfl ?_
            refine xg_iadd 1866 dL_law__1865 rfl ?_
            refine xg_ialdS 1867 dL_law__1866 rfl hX ⟨by omega, hN⟩ ?_
            refine xg_ifeq 1874 1870 dL_law__1867 rfl rfl (i32r _) (fun hb1867 => ?_) (fun hb1867 => ?_)
            · skip
              refine xg_iconst 1875 dL_law__1874 rfl ?_
              refine xg_callVe 1878 12 [_, _] _ kv_X12_ahead ⟨_, _, rfl⟩ kl_RL_251 dL_law__1875 rfl kw.1.1 (by omega) rfl rfl (Nat.le_of_ble_eq_true rfl) (by omega) ⟨by omega, by omega⟩ (ctm) rfl (fun v9 h9 e9 => ?_)
              obtain ⟨b9, F2, I2, ws2, rfl, hb9, rfl, hBk, hk0, hout⟩ := e9
              refine xg_istore 1880 _ dL_law__1878 rfl rfl (Nat.le_of_ble_eq_true rfl) (Or.inr rfl) ?_
              refine xg_aloadn 1881 dL_law__1880 rfl rfl rfl ?_
              refine xg_callV 1884 12 [] _ kv_X12_thrown ⟨_, _, rfl⟩ kl_RL_125 dL_law__1881 rfl kw.1.1 (by omega) rfl rfl (Nat.le_of_ble_eq_true rfl) (by omega) ⟨by omega, by omega⟩ (Ct.own (ct_X12_thrown (I := I2) (w := I2 (m + 1)) kw)) rfl ?_
              rw [upA_id, hk0]
              refine xg_iload 1886 dL_law__1884 rfl rfl ?_
              refine xg_iceq 1891 1889 dL_law__1886 rfl rfl (by omega) (fun hb1886 => ?_) (fun hb1886 => ?_)
              · skip
                refine xg_iload 1893 dL_law__1891 rfl rfl ?_
                refine xg_ifne 1908 1896 dL_law__1893 rfl rfl (by omega) (fun hb1893 => ?_) (fun hb1893 => ?_)
                · skip
                  refine xg_goto 2318 dL_law__1908 rfl ?_
                  refine xg_iinc 2321 _ dL_law__2318 rfl rfl rfl rfl (Nat.le_of_ble_eq_true rfl) (Or.inr rfl) ?_
                  refine xg_goto 23 dL_law__2321 rfl ?_
                  refine xg_less7 ?_
                  exact ih _ _ _ _ _ _ _ _ _ _ hBk (by omega) (by omega) (by omega) (by omega)
                · skip
                  refine xg_aloadn 1897 dL_law__1896 rfl rfl rfl ?_
                  refine xg_iconst 1898 dL_law__1897 rfl ?_
                  refine xg_lald 1899 dL_law__1898 rfl k16 (by rw [k1]; omega) ?_
                  rw [hout (by omega)]
                  refine xg_iload 1901 dL_law__1899 rfl rfl ?_
                  refine xg_i2l 1902 dL_law__1901 rfl (by omega) ?_
                  refine xg_lcmp 1903 dL_law__1902 rfl (by omega) ?_
                  rw [xcmp_self]
                  refine xg_ifeq 1908 1906 dL_law__1903 rfl rfl (by omega) (fun hb1903 => ?_) (fun hb1903 => ?_)
                  · skip
                    refine xg_goto 2318 dL_law__1908 rfl ?_
                    refine xg_iinc 2321 _ dL_law__2318 rfl rfl rfl rfl (Nat.le_of_ble_eq_true rfl) (Or.inr rfl) ?_
                    refine xg_goto 23 dL_law__2321 rfl ?_
                    refine xg_less7 ?_
                    exact ih _ _ _ _ _ _ _ _ _ _ hBk (by omega) (by omega) (by omega) (by omega)
                  · exfalso; omega
              · exfalso; omega
            · exfalso; omega
          · exfalso; omega
      · refine xg_tin (o := 1871) 1911 dL_law__40 (by omega) ⟨by omega, by omega⟩ (by rw [show (sv - 0).toNat = 38 by omega]; rfl) rfl ?_
        rcases (show (xs (i + 2).toNat).toInt ≠ 0 ∨ (xs (i + 2).toNat).toInt = 0 by omega) with hbb | hbb
        · obtain ⟨k, hk, ctc⟩ := op_trial hV hI0 (i32r (xs (i + 1).toNat)) (bb := true)
          refine xg_aloadn 1912 dL_law__1911 rfl rfl rfl ?_
          refine xg_aloadn 1913 dL_law__1912 rfl rfl rfl ?_
          refine xg_iload 1915 dL_law__1913 rfl rfl ?_
          refine xg_iconst 1916 dL_law__1915 rfl ?_
          refine xg_iadd 1917 dL_law__1916 rfl ?_
          refine xg_ialdS 1918 dL_law__1917 rfl hX ⟨by omega, hN⟩ ?_
          refine xg_aloadn 1919 dL_law__1918 rfl rfl rfl ?_
          refine xg_iload 1921 dL_law__1919 rfl rfl ?_
          refine xg_iconst 1922 dL_law__1921 rfl ?_
          refine xg_iadd 1923 dL_law__1922 rfl ?_
          refine xg_ialdS 1924 dL_law__1923 rfl hX ⟨by omega, hN⟩ ?_
          refine xg_ifeq 1931 1927 dL_law__1924 rfl rfl (i32r _) (fun hb1924 => ?_) (fun hb1924 => ?_)
          · exfalso; omega
          · skip
            refine xg_iconst 1928 dL_law__1927 rfl ?_
            refine xg_goto 1932 dL_law__1928 rfl ?_
            refine xg_aloadn 1933 dL_law__1932 rfl rfl rfl ?_
            refine xg_callSH 1936 [_, _, _, _] [] kh_L_trial kl_RL_252 dL_law__1933 rfl rfl rfl (Nat.le_of_ble_eq_true rfl) (by omega) ⟨by omega, by omega⟩ ctc (fun v9 h9 e9 => ?_)
            obtain ⟨rfl, z1, T1, F1, I1, P1, Y1, rfl, ⟨ko, kw, k16, k1⟩, ctm⟩ := e9
            refine xg_istore 1938 _ dL_law__1936 rfl rfl (Nat.le_of_ble_eq_true rfl) (Or.inr rfl) ?_
            refine xg_aloadn 1939 dL_law__1938 rfl rfl rfl ?_
            refine xg_aloadn 1940 dL_law__1939 rfl rfl rfl ?_
            refine xg_iload 1942 dL_law__1940 rfl rfl ?_
            refine xg_iconst 1943 dL_law__1942 rfl ?_
            refine xg_iadd 1944 dL_law__1943 rfl ?_
            refine xg_ialdS 1945 dL_law__1944 rfl hX ⟨by omega, hN⟩ ?_
            refine xg_aloadn 1946 dL_law__1945 rfl rfl rfl ?_
            refine xg_iload 1948 dL_law__1946 rfl rfl ?_
            refine xg_iconst 1949 dL_law__1948 rfl ?_
            refine xg_iadd 1950 dL_law__1949 rfl ?_
            refine xg_ialdS 1951 dL_law__1950 rfl hX ⟨by omega, hN⟩ ?_
            refine xg_ifeq 1958 1954 dL_law__1951 rfl rfl (i32r _) (fun hb1951 => ?_) (fun hb1951 => ?_)
            · exfalso; omega
            · skip
              refine xg_iconst 1955 dL_law__1954 rfl ?_
              refine xg_goto 1959 dL_law__1955 rfl ?_
              refine xg_callVe 1962 12 [_, _] _ kv_X12_trial ⟨_, _, rfl⟩ kl_RL_254 dL_law__1959 rfl kw.1.1 (by omega) rfl rfl (Nat.le_of_ble_eq_true rfl) (by omega) ⟨by omega, by omega⟩ (ctm) rfl (fun v9 h9 e9 => ?_)
              obtain ⟨b9, F2, I2, ws2, rfl, hb9, rfl, hBk, hk0, hout⟩ := e9
              refine xg_istore 1964 _ dL_law__1962 rfl rfl (Nat.le_of_ble_eq_true rfl) (Or.inr rfl) ?_
              refine xg_aloadn 1965 dL_law__1964 rfl rfl rfl ?_
              refine xg_callV 1968 12 [] _ kv_X12_thrown ⟨_, _, rfl⟩ kl_RL_125 dL_law__1965 rfl kw.1.1 (by omega) rfl rfl (Nat.le_of_ble_eq_true rfl) (by omega) ⟨by omega, by omega⟩ (Ct.own (ct_X12_thrown (I := I2) (w := I2 (m + 1)) kw)) rfl ?_
              rw [upA_id, hk0]
              refine xg_iload 1970 dL_law__1968 rfl rfl ?_
              refine xg_iceq 1975 1973 dL_law__1970 rfl rfl (by omega) (fun hb1970 => ?_) (fun hb1970 => ?_)
              · skip
                refine xg_iload 1977 dL_law__1975 rfl rfl ?_
                refine xg_ifne 1992 1980 dL_law__1977 rfl rfl (by omega) (fun hb1977 => ?_) (fun hb1977 => ?_)
                · skip
                  refine xg_goto 2318 dL_law__1992 rfl ?_
                  refine xg_iinc 2321 _ dL_law__2318 rfl rfl rfl rfl (Nat.le_of_ble_eq_true rfl) (Or.inr rfl) ?_
                  refine xg_goto 23 dL_law__2321 rfl ?_
                  refine xg_less7 ?_
                  exact ih _ _ _ _ _ _ _ _ _ _ hBk (by omega) (by omega) (by omega) (by omega)
                · skip
                  refine xg_aloadn 1981 dL_law__1980 rfl rfl rfl ?_
                  refine xg_iconst 1982 dL_law__1981 rfl ?_
                  refine xg_lald 1983 dL_law__1982 rfl k16 (by rw [k1]; omega) ?_
                  rw [hout (by omega)]
                  refine xg_iload 1985 dL_law__1983 rfl rfl ?_
                  refine xg_i2l 1986 dL_law__1985 rfl (by omega) ?_
                  refine xg_lcmp 1987 dL_law__1986 rfl (by omega) ?_
                  rw [xcmp_self]
                  refine xg_ifeq 1992 1990 dL_law__1987 rfl rfl (by omega) (fun hb1987 => ?_) (fun hb1987 => ?_)
                  · skip
                    refine xg_goto 2318 dL_law__1992 rfl ?_
                    refine xg_iinc 2321 _ dL_law__2318 rfl rfl rfl rfl (Nat.le_of_ble_eq_true rfl) (Or.inr rfl) ?_
                    refine xg_goto 23 dL_law__2321 rfl ?_
                    refine xg_less7 ?_
                    exact ih _ _ _ _ _ _ _ _ _ _ hBk (by omega) (by omega) (by omega) (by omega)
                  · exfalso; omega
              · exfalso; omega
        · obtain ⟨k, hk, ctc⟩ := op_trial hV hI0 (i32r (xs (i + 1).toNat)) (bb := false)
          refine xg_aloadn 1912 dL_law__1911 rfl rfl rfl ?_
          refine xg_aloadn 1913 dL_law__1912 rfl rfl rfl ?_
          refine xg_iload 1915 dL_law__1913 rfl rfl ?_
          refine xg_iconst 1916 dL_law__1915 rfl ?_
          refine xg_iadd 1917 dL_law__1916 rfl ?_
          refine xg_ialdS 1918 dL_law__1917 rfl hX ⟨by omega, hN⟩ ?_
          refine xg_aloadn 1919 dL_law__1918 rfl rfl rfl ?_
          refine xg_iload 1921 dL_law__1919 rfl rfl ?_
          refine xg_iconst 1922 dL_law__1921 rfl ?_
          refine xg_iadd 1923 dL_law__1922 rfl ?_
          refine xg_ialdS 1924 dL_law__1923 rfl hX ⟨by omega, hN⟩ ?_
          refine xg_ifeq 1931 1927 dL_law__1924 rfl rfl (i32r _) (fun hb1924 => ?_) (fun hb1924 => ?_)
          · skip
            refine xg_iconst 1932 dL_law__1931 rfl ?_
            refine xg_aloadn 1933 dL_law__1932 rfl rfl rfl ?_
            refine xg_callSH 1936 [_, _, _, _] [] kh_L_trial kl_RL_252 dL_law__1933 rfl rfl rfl (Nat.le_of_ble_eq_true rfl) (by omega) ⟨by omega, by omega⟩ ctc (fun v9 h9 e9 => ?_)
            obtain ⟨rfl, z1, T1, F1, I1, P1, Y1, rfl, ⟨ko, kw, k16, k1⟩, ctm⟩ := e9
            refine xg_istore 1938 _ dL_law__1936 rfl rfl (Nat.le_of_ble_eq_true rfl) (Or.inr rfl) ?_
            refine xg_aloadn 1939 dL_law__1938 rfl rfl rfl ?_
            refine xg_aloadn 1940 dL_law__1939 rfl rfl rfl ?_
            refine xg_iload 1942 dL_law__1940 rfl rfl ?_
            refine xg_iconst 1943 dL_law__1942 rfl ?_
            refine xg_iadd 1944 dL_law__1943 rfl ?_
            refine xg_ialdS 1945 dL_law__1944 rfl hX ⟨by omega, hN⟩ ?_
            refine xg_aloadn 1946 dL_law__1945 rfl rfl rfl ?_
            refine xg_iload 1948 dL_law__1946 rfl rfl ?_
            refine xg_iconst 1949 dL_law__1948 rfl ?_
            refine xg_iadd 1950 dL_law__1949 rfl ?_
            refine xg_ialdS 1951 dL_law__1950 rfl hX ⟨by omega, hN⟩ ?_
            refine xg_ifeq 1958 1954 dL_law__1951 rfl rfl (i32r _) (fun hb1951 => ?_) (fun hb1951 => ?_)
            · skip
              refine xg_iconst 1959 dL_law__1958 rfl ?_
              refine xg_callVe 1962 12 [_, _] _ kv_X12_trial ⟨_, _, rfl⟩ kl_RL_254 dL_law__1959 rfl kw.1.1 (by omega) rfl rfl (Nat.le_of_ble_eq_true rfl) (by omega) ⟨by omega, by omega⟩ (ctm) rfl (fun v9 h9 e9 => ?_)
              obtain ⟨b9, F2, I2, ws2, rfl, hb9, rfl, hBk, hk0, hout⟩ := e9
              refine xg_istore 1964 _ dL_law__1962 rfl rfl (Nat.le_of_ble_eq_true rfl) (Or.inr rfl) ?_
              refine xg_aloadn 1965 dL_law__1964 rfl rfl rfl ?_
              refine xg_callV 1968 12 [] _ kv_X12_thrown ⟨_, _, rfl⟩ kl_RL_125 dL_law__1965 rfl kw.1.1 (by omega) rfl rfl (Nat.le_of_ble_eq_true rfl) (by omega) ⟨by omega, by omega⟩ (Ct.own (ct_X12_thrown (I := I2) (w := I2 (m + 1)) kw)) rfl ?_
              rw [upA_id, hk0]
              refine xg_iload 1970 dL_law__1968 rfl rfl ?_
              refine xg_iceq 1975 1973 dL_law__1970 rfl rfl (by omega) (fun hb1970 => ?_) (fun hb1970 => ?_)
              · skip
                refine xg_iload 1977 dL_law__1975 rfl rfl ?_
                refine xg_ifne 1992 1980 dL_law__1977 rfl rfl (by omega) (fun hb1977 => ?_) (fun hb1977 => ?_)
                · skip
                  refine xg_goto 2318 dL_law__1992 rfl ?_
                  refine xg_iinc 2321 _ dL_law__2318 rfl rfl rfl rfl (Nat.le_of_ble_eq_true rfl) (Or.inr rfl) ?_
                  refine xg_goto 23 dL_law__2321 rfl ?_
                  refine xg_less7 ?_
                  exact ih _ _ _ _ _ _ _ _ _ _ hBk (by omega) (by omega) (by omega) (by omega)
                · skip
                  refine xg_aloadn 1981 dL_law__1980 rfl rfl rfl ?_
                  refine xg_iconst 1982 dL_law__1981 rfl ?_
                  refine xg_lald 1983 dL_law__1982 rfl k16 (by rw [k1]; omega) ?_
                  rw [hout (by omega)]
                  refine xg_iload 1985 dL_law__1983 rfl rfl ?_
                  refine xg_i2l 1986 dL_law__1985 rfl (by omega) ?_
                  refine xg_lcmp 1987 dL_law__1986 rfl (by omega) ?_
                  rw [xcmp_self]
                  refine xg_ifeq 1992 1990 dL_law__1987 rfl rfl (by omega) (fun hb1987 => ?_) (fun hb1987 => ?_)
                  · skip
                    refine xg_goto 2318 dL_law__1992 rfl ?_
                    refine xg_iinc 2321 _ dL_law__2318 rfl rfl rfl rfl (Nat.le_of_ble_eq_true rfl) (Or.inr rfl) ?_
                    refine xg_goto 23 dL_law__2321 rfl ?_
                    refine xg_less7 ?_
                    exact ih _ _ _ _ _ _ _ _ _ _ hBk (by omega) (by omega) (by omega) (by omega)
                  · exfalso; omega
              · exfalso; omega
            · exfalso; omega
          · exfalso; omega
      · refine xg_tin (o := 1955) 1995 dL_law__40 (by omega) ⟨by omega, by omega⟩ (by rw [show (sv - 0).toNat = 39 by omega]; rfl) rfl ?_
        rcases (show (xs (i + 2).toNat).toInt ≠ 0 ∨ (xs (i + 2).toNat).toInt = 0 by omega) with hbb | hbb
        · obtain ⟨k, hk, ctc⟩ := op_span hV hI0 (i32r (xs (i + 1).toNat)) (bb := true)
          refine xg_aloadn 1996 dL_law__1995 rfl rfl rfl ?_
          refine xg_aloadn 1997 dL_law__1996 rfl rfl rfl ?_
          refine xg_iload 1999 dL_law__1997 rfl rfl ?_
          refine xg_iconst 2000 dL_law__1999 rfl ?_
          refine xg_iadd 2001 dL_law__2000 rfl ?_
          refine xg_ialdS 2002 dL_law__2001 rfl hX ⟨by omega, hN⟩ ?_
          refine xg_aloadn 2003 dL_law__2002 rfl rfl rfl ?_
          refine xg_iload 2005 dL_law__2003 rfl rfl ?_
          refine xg_iconst 2006 dL_law__2005 rfl ?_
          refine xg_iadd 2007 dL_law__2006 rfl ?_
          refine xg_ialdS 2008 dL_law__2007 rfl hX ⟨by omega, hN⟩ ?_
          refine xg_ifeq 2015 2011 dL_law__2008 rfl rfl (i32r _) (fun hb2008 => ?_) (fun hb2008 => ?_)
          · exfalso; omega
          · skip
            refine xg_iconst 2012 dL_law__2011 rfl ?_
            refine xg_goto 2016 dL_law__2012 rfl ?_
            refine xg_aloadn 2017 dL_law__2016 rfl rfl rfl ?_
            refine xg_callSH 2020 [_, _, _, _] [] kh_L_span kl_RL_255 dL_law__2017 rfl rfl rfl (Nat.le_of_ble_eq_true rfl) (by omega) ⟨by omega, by omega⟩ ctc (fun v9 h9 e9 => ?_)
            obtain ⟨rfl, z1, T1, F1, I1, P1, Y1, rfl, ⟨ko, kw, k16, k1⟩, ctm⟩ := e9
            refine xg_istore 2022 _ dL_law__2020 rfl rfl (Nat.le_of_ble_eq_true rfl) (Or.inr rfl) ?_
            refine xg_aloadn 2023 dL_law__2022 rfl rfl rfl ?_
            refine xg_aloadn 2024 dL_law__2023 rfl rfl rfl ?_
            refine xg_iload 2026 dL_law__2024 rfl rfl ?_
            refine xg_iconst 2027 dL_law__2026 rfl ?_
            refine xg_iadd 2028 dL_law__2027 rfl ?_
            refine xg_ialdS 2029 dL_law__2028 rfl hX ⟨by omega, hN⟩ ?_
            refine xg_aloadn 2030 dL_law__2029 rfl rfl rfl ?_
            refine xg_iload 2032 dL_law__2030 rfl rfl ?_
            refine xg_iconst 2033 dL_law__2032 rfl ?_
            refine xg_iadd 2034 dL_law__2033 rfl ?_
            refine xg_ialdS 2035 dL_law__2034 rfl hX ⟨by omega, hN⟩ ?_
            refine xg_ifeq 2042 2038 dL_law__2035 rfl rfl (i32r _) (fun hb2035 => ?_) (fun hb2035 => ?_)
            · exfalso; omega
            · skip
              refine xg_iconst 2039 dL_law__2038 rfl ?_
              refine xg_goto 2043 dL_law__2039 rfl ?_
              refine xg_callVe 2046 12 [_, _] _ kv_X12_span ⟨_, _, rfl⟩ kl_RL_257 dL_law__2043 rfl kw.1.1 (by omega) rfl rfl (Nat.le_of_ble_eq_true rfl) (by omega) ⟨by omega, by omega⟩ (ctm) rfl (fun v9 h9 e9 => ?_)
              obtain ⟨b9, F2, I2, ws2, rfl, hb9, rfl, hBk, hk0, hout⟩ := e9
              refine xg_istore 2048 _ dL_law__2046 rfl rfl (Nat.le_of_ble_eq_true rfl) (Or.inr rfl) ?_
              refine xg_aloadn 2049 dL_law__2048 rfl rfl rfl ?_
              refine xg_callV 2052 12 [] _ kv_X12_thrown ⟨_, _, rfl⟩ kl_RL_125 dL_law__2049 rfl kw.1.1 (by omega) rfl rfl (Nat.le_of_ble_eq_true rfl) (by omega) ⟨by omega, by omega⟩ (Ct.own (ct_X12_thrown (I := I2) (w := I2 (m + 1)) kw)) rfl ?_
              rw [upA_id, hk0]
              refine xg_iload 2054 dL_law__2052 rfl rfl ?_
              refine xg_iceq 2059 2057 dL_law__2054 rfl rfl (by omega) (fun hb2054 => ?_) (fun hb2054 => ?_)
              · skip
                refine xg_iload 2061 dL_law__2059 rfl rfl ?_
                refine xg_ifne 2076 2064 dL_law__2061 rfl rfl (by omega) (fun hb2061 => ?_) (fun hb2061 => ?_)
                · skip
                  refine xg_goto 2318 dL_law__2076 rfl ?_
                  refine xg_iinc 2321 _ dL_law__2318 rfl rfl rfl rfl (Nat.le_of_ble_eq_true rfl) (Or.inr rfl) ?_
                  refine xg_goto 23 dL_law__2321 rfl ?_
                  refine xg_less7 ?_
                  exact ih _ _ _ _ _ _ _ _ _ _ hBk (by omega) (by omega) (by omega) (by omega)
                · skip
                  refine xg_aloadn 2065 dL_law__2064 rfl rfl rfl ?_
                  refine xg_iconst 2066 dL_law__2065 rfl ?_
                  refine xg_lald 2067 dL_law__2066 rfl k16 (by rw [k1]; omega) ?_
                  rw [hout (by omega)]
                  refine xg_iload 2069 dL_law__2067 rfl rfl ?_
                  refine xg_i2l 2070 dL_law__2069 rfl (by omega) ?_
                  refine xg_lcmp 2071 dL_law__2070 rfl (by omega) ?_
                  rw [xcmp_self]
                  refine xg_ifeq 2076 2074 dL_law__2071 rfl rfl (by omega) (fun hb2071 => ?_) (fun hb2071 => ?_)
                  · skip
                    refine xg_goto 2318 dL_law__2076 rfl ?_
                    refine xg_iinc 2321 _ dL_law__2318 rfl rfl rfl rfl (Nat.le_of_ble_eq_true rfl) (Or.inr rfl) ?_
                    refine xg_goto 23 dL_law__2321 rfl ?_
                    refine xg_less7 ?_
                    exact ih _ _ _ _ _ _ _ _ _ _ hBk (by omega) (by omega) (by omega) (by omega)
                  · exfalso; omega
              · exfalso; omega
        · obtain ⟨k, hk, ctc⟩ := op_span hV hI0 (i32r (xs (i + 1).toNat)) (bb := false)
          refine xg_aloadn 1996 dL_law__1995 rfl rfl rfl ?_
          refine xg_aloadn 1997 dL_law__1996 rfl rfl rfl ?_
          refine xg_iload 1999 dL_law__1997 rfl rfl ?_
          refine xg_iconst 2000 dL_law__1999 rfl ?_
          refine xg_iadd 2001 dL_law__2000 rfl ?_
          refine xg_ialdS 2002 dL_law__2001 rfl hX ⟨by omega, hN⟩ ?_
          refine xg_aloadn 2003 dL_law__2002 rfl rfl rfl ?_
          refine xg_iload 2005 dL_law__2003 rfl rfl ?_
          refine xg_iconst 2006 dL_law__2005 rfl ?_
          refine xg_iadd 2007 dL_law__2006 rfl ?_
          refine xg_ialdS 2008 dL_law__2007 rfl hX ⟨by omega, hN⟩ ?_
          refine xg_ifeq 2015 2011 dL_law__2008 rfl rfl (i32r _) (fun hb2008 => ?_) (fun hb2008 => ?_)
          · skip
            refine xg_iconst 2016 dL_law__2015 rfl ?_
            refine xg_aloadn 2017 dL_law__2016 rfl rfl rfl ?_
            refine xg_callSH 2020 [_, _, _, _] [] kh_L_span kl_RL_255 dL_law__2017 rfl rfl rfl (Nat.le_of_ble_eq_true rfl) (by omega) ⟨by omega, by omega⟩ ctc (fun v9 h9 e9 => ?_)
            obtain ⟨rfl, z1, T1, F1, I1, P1, Y1, rfl, ⟨ko, kw, k16, k1⟩, ctm⟩ := e9
            refine xg_istore 2022 _ dL_law__2020 rfl rfl (Nat.le_of_ble_eq_true rfl) (Or.inr rfl) ?_
            refine xg_aloadn 2023 dL_law__2022 rfl rfl rfl ?_
            refine xg_aloadn 2024 dL_law__2023 rfl rfl rfl ?_
            refine xg_iload 2026 dL_law__2024 rfl rfl ?_
            refine xg_iconst 2027 dL_law__2026 rfl ?_
            refine xg_iadd 2028 dL_law__2027 rfl ?_
            refine xg_ialdS 2029 dL_law__2028 rfl hX ⟨by omega, hN⟩ ?_
            refine xg_aloadn 2030 dL_law__2029 rfl rfl rfl ?_
            refine xg_iload 2032 dL_law__2030 rfl rfl ?_
            refine xg_iconst 2033 dL_law__2032 rfl ?_
            refine xg_iadd 2034 dL_law__2033 rfl ?_
            refine xg_ialdS 2035 dL_law__2034 rfl hX ⟨by omega, hN⟩ ?_
            refine xg_ifeq 2042 2038 dL_law__2035 rfl rfl (i32r _) (fun hb2035 => ?_) (fun hb2035 => ?_)
            · skip
              refine xg_iconst 2043 dL_law__2042 rfl ?_
              refine xg_callVe 2046 12 [_, _] _ kv_X12_span ⟨_, _, rfl⟩ kl_RL_257 dL_law__2043 rfl kw.1.1 (by omega) rfl rfl (Nat.le_of_ble_eq_true rfl) (by omega) ⟨by omega, by omega⟩ (ctm) rfl (fun v9 h9 e9 => ?_)
              obtain ⟨b9, F2, I2, ws2, rfl, hb9, rfl, hBk, hk0, hout⟩ := e9
              refine xg_istore 2048 _ dL_law__2046 rfl rfl (Nat.le_of_ble_eq_true rfl) (Or.inr rfl) ?_
              refine xg_aloadn 2049 dL_law__2048 rfl rfl rfl ?_
              refine xg_callV 2052 12 [] _ kv_X12_thrown ⟨_, _, rfl⟩ kl_RL_125 dL_law__2049 rfl kw.1.1 (by omega) rfl rfl (Nat.le_of_ble_eq_true rfl) (by omega) ⟨by omega, by omega⟩ (Ct.own (ct_X12_thrown (I := I2) (w := I2 (m + 1)) kw)) rfl ?_
              rw [upA_id, hk0]
              refine xg_iload 2054 dL_law__2052 rfl rfl ?_
              refine xg_iceq 2059 2057 dL_law__2054 rfl rfl (by omega) (fun hb2054 => ?_) (fun hb2054 => ?_)
              · skip
                refine xg_iload 2061 dL_law__2059 rfl rfl ?_
                refine xg_ifne 2076 2064 dL_law__2061 rfl rfl (by omega) (fun hb2061 => ?_) (fun hb2061 => ?_)
                · skip
                  refine xg_goto 2318 dL_law__2076 rfl ?_
                  refine xg_iinc 2321 _ dL_law__2318 rfl rfl rfl rfl (Nat.le_of_ble_eq_true rfl) (Or.inr rfl) ?_
                  refine xg_goto 23 dL_law__2321 rfl ?_
                  refine xg_less7 ?_
                  exact ih _ _ _ _ _ _ _ _ _ _ hBk (by omega) (by omega) (by omega) (by omega)
                · skip
                  refine xg_aloadn 2065 dL_law__2064 rfl rfl rfl ?_
                  refine xg_iconst 2066 dL_law__2065 rfl ?_
                  refine xg_lald 2067 dL_law__2066 rfl k16 (by rw [k1]; omega) ?_
                  rw [hout (by omega)]
                  refine xg_iload 2069 dL_law__2067 rfl rfl ?_
                  refine xg_i2l 2070 dL_law__2069 rfl (by omega) ?_
                  refine xg_lcmp 2071 dL_law__2070 rfl (by omega) ?_
                  rw [xcmp_self]
                  refine xg_ifeq 2076 2074 dL_law__2071 rfl rfl (by omega) (fun hb2071 => ?_) (fun hb2071 => ?_)
                  · skip
                    refine xg_goto 2318 dL_law__2076 rfl ?_
                    refine xg_iinc 2321 _ dL_law__2318 rfl rfl rfl rfl (Nat.le_of_ble_eq_true rfl) (Or.inr rfl) ?_
                    refine xg_goto 23 dL_law__2321 rfl ?_
                    refine xg_less7 ?_
                    exact ih _ _ _ _ _ _ _ _ _ _ hBk (by omega) (by omega) (by omega) (by omega)
                  · exfalso; omega
              · exfalso; omega
            · exfalso; omega
          · exfalso; omega
      · refine xg_tin (o := 2039) 2079 dL_law__40 (by omega) ⟨by omega, by omega⟩ (by rw [show (sv - 0).toNat = 40 by omega]; rfl) rfl ?_
        rcases (show (xs (i + 2).toNat).toInt ≠ 0 ∨ (xs (i + 2).toNat).toInt = 0 by omega) with hbb | hbb
        · obtain ⟨k, hk, ctc⟩ := op_led hV hI0 (i32r (xs (i + 1).toNat)) (bb := true)
          refine xg_aloadn 2080 dL_law__2079 rfl rfl rfl ?_
          refine xg_aloadn 2081 dL_law__2080 rfl rfl rfl ?_
          refine xg_iload 2083 dL_law__2081 rfl rfl ?_
          refine xg_iconst 2084 dL_law__2083 rfl ?_
          refine xg_iadd 2085 dL_law__2084 rfl ?_
          refine xg_ialdS 2086 dL_law__2085 rfl hX ⟨by omega, hN⟩ ?_
          refine xg_aloadn 2087 dL_law__2086 rfl rfl rfl ?_
          refine xg_iload 2089 dL_law__2087 rfl rfl ?_
          refine xg_iconst 2090 dL_law__2089 rfl ?_
          refine xg_iadd 2091 dL_law__2090 rfl ?_
          refine xg_ialdS 2092 dL_law__2091 rfl hX ⟨by omega, hN⟩ ?_
          refine xg_ifeq 2099 2095 dL_law__2092 rfl rfl (i32r _) (fun hb2092 => ?_) (fun hb2092 => ?_)
          · exfalso; omega
          · skip
            refine xg_iconst 2096 dL_law__2095 rfl ?_
            refine xg_goto 2100 dL_law__2096 rfl ?_
            refine xg_aloadn 2101 dL_law__2100 rfl rfl rfl ?_
            refine xg_callSH 2104 [_, _, _, _] [] kh_L_led kl_RL_258 dL_law__2101 rfl rfl rfl (Nat.le_of_ble_eq_true rfl) (by omega) ⟨by omega, by omega⟩ ctc (fun v9 h9 e9 => ?_)
            obtain ⟨rfl, z1, T1, F1, I1, P1, Y1, rfl, ⟨ko, kw, k16, k1⟩, ctm⟩ := e9
            refine xg_istore 2106 _ dL_law__2104 rfl rfl (Nat.le_of_ble_eq_true rfl) (Or.inr rfl) ?_
            refine xg_aloadn 2107 dL_law__2106 rfl rfl rfl ?_
            refine xg_aloadn 2108 dL_law__2107 rfl rfl rfl ?_
            refine xg_iload 2110 dL_law__2108 rfl rfl ?_
            refine xg_iconst 2111 dL_law__2110 rfl ?_
            refine xg_iadd 2112 dL_law__2111 rfl ?_
            refine xg_ialdS 2113 dL_law__2112 rfl hX ⟨by omega, hN⟩ ?_
            refine xg_aloadn 2114 dL_law__2113 rfl rfl rfl ?_
            refine xg_iload 2116 dL_law__2114 rfl rfl ?_
            refine xg_iconst 2117 dL_law__2116 rfl ?_
            refine xg_iadd 2118 dL_law__2117 rfl ?_
            refine xg_ialdS 2119 dL_law__2118 rfl hX ⟨by omega, hN⟩ ?_
            refine xg_ifeq 2126 2122 dL_law__2119 rfl rfl (i32r _) (fun hb2119 => ?_) (fun hb2119 => ?_)
            · exfalso; omega
            · skip
              refine xg_iconst 2123 dL_law__2122 rfl ?_
              refine xg_goto 2127 dL_law__2123 rfl ?_
              refine xg_callVe 2130 12 [_, _] _ kv_X12_led ⟨_, _, rfl⟩ kl_RL_260 dL_law__2127 rfl kw.1.1 (by omega) rfl rfl (Nat.le_of_ble_eq_true rfl) (by omega) ⟨by omega, by omega⟩ (ctm) rfl (fun v9 h9 e9 => ?_)
              obtain ⟨b9, F2, I2, ws2, rfl, hb9, rfl, hBk, hk0, hout⟩ := e9
              refine xg_istore 2132 _ dL_law__2130 rfl rfl (Nat.le_of_ble_eq_true rfl) (Or.inr rfl) ?_
              refine xg_aloadn 2133 dL_law__2132 rfl rfl rfl ?_
              refine xg_callV 2136 12 [] _ kv_X12_thrown ⟨_, _, rfl⟩ kl_RL_125 dL_law__2133 rfl kw.1.1 (by omega) rfl rfl (Nat.le_of_ble_eq_true rfl) (by omega) ⟨by omega, by omega⟩ (Ct.own (ct_X12_thrown (I := I2) (w := I2 (m + 1)) kw)) rfl ?_
              rw [upA_id, hk0]
              refine xg_iload 2138 dL_law__2136 rfl rfl ?_
              refine xg_iceq 2143 2141 dL_law__2138 rfl rfl (by omega) (fun hb2138 => ?_) (fun hb2138 => ?_)
              · skip
                refine xg_iload 2145 dL_law__2143 rfl rfl ?_
                refine xg_ifne 2160 2148 dL_law__2145 rfl rfl (by omega) (fun hb2145 => ?_) (fun hb2145 => ?_)
                · skip
                  refine xg_goto 2318 dL_law__2160 rfl ?_
                  refine xg_iinc 2321 _ dL_law__2318 rfl rfl rfl rfl (Nat.le_of_ble_eq_true rfl) (Or.inr rfl) ?_
                  refine xg_goto 23 dL_law__2321 rfl ?_
                  refine xg_less7 ?_
                  exact ih _ _ _ _ _ _ _ _ _ _ hBk (by omega) (by omega) (by omega) (by omega)
                · skip
                  refine xg_aloadn 2149 dL_law__2148 rfl rfl rfl ?_
                  refine xg_iconst 2150 dL_law__2149 rfl ?_
                  refine xg_lald 2151 dL_law__2150 rfl k16 (by rw [k1]; omega) ?_
                  rw [hout (by omega)]
                  refine xg_iload 2153 dL_law__2151 rfl rfl ?_
                  refine xg_i2l 2154 dL_law__2153 rfl (by omega) ?_
                  refine xg_lcmp 2155 dL_law__2154 rfl (by omega) ?_
                  rw [xcmp_self]
                  refine xg_ifeq 2160 2158 dL_law__2155 rfl rfl (by omega) (fun hb2155 => ?_) (fun hb2155 => ?_)
                  · skip
                    refine xg_goto 2318 dL_law__2160 rfl ?_
                    refine xg_iinc 2321 _ dL_law__2318 rfl rfl rfl rfl (Nat.le_of_ble_eq_true rfl) (Or.inr rfl) ?_
                    refine xg_goto 23 dL_law__2321 rfl ?_
                    refine xg_less7 ?_
                    exact ih _ _ _ _ _ _ _ _ _ _ hBk (by omega) (by omega) (by omega) (by omega)
                  · exfalso; omega
              · exfalso; omega
        · obtain ⟨k, hk, ctc⟩ := op_led hV hI0 (i32r (xs (i + 1).toNat)) (bb := false)
          refine xg_aloadn 2080 dL_law__2079 rfl rfl rfl ?_
          refine xg_aloadn 2081 dL_law__2080 rfl rfl rfl ?_
          refine xg_iload 2083 dL_law__2081 rfl rfl ?_
          refine xg_iconst 2084 dL_law__2083 rfl ?_
          refine xg_iadd 2085 dL_law__2084 rfl ?_
          refine xg_ialdS 2086 dL_law__2085 rfl hX ⟨by omega, hN⟩ ?_
          refine xg_aloadn 2087 dL_law__2086 rfl rfl rfl ?_
          refine xg_iload 2089 dL_law__2087 rfl rfl ?_
          refine xg_iconst 2090 dL_law__2089 rfl ?_
          refine xg_iadd 2091 dL_law__2090 rfl ?_
          refine xg_ialdS 2092 dL_law__2091 rfl hX ⟨by omega, hN⟩ ?_
          refine xg_ifeq 2099 2095 dL_law__2092 rfl rfl (i32r _) (fun hb2092 => ?_) (fun hb2092 => ?_)
          · skip
            refine xg_iconst 2100 dL_law__2099 rfl ?_
            refine xg_aloadn 2101 dL_law__2100 rfl rfl rfl ?_
            refine xg_callSH 2104 [_, _, _, _] [] kh_L_led kl_RL_258 dL_law__2101 rfl rfl rfl (Nat.le_of_ble_eq_true rfl) (by omega) ⟨by omega, by omega⟩ ctc (fun v9 h9 e9 => ?_)
            obtain ⟨rfl, z1, T1, F1, I1, P1, Y1, rfl, ⟨ko, kw, k16, k1⟩, ctm⟩ := e9
            refine xg_istore 2106 _ dL_law__2104 rfl rfl (Nat.le_of_ble_eq_true rfl) (Or.inr rfl) ?_
            refine xg_aloadn 2107 dL_law__2106 rfl rfl rfl ?_
            refine xg_aloadn 2108 dL_law__2107 rfl rfl rfl ?_
            refine xg_iload 2110 dL_law__2108 rfl rfl ?_
            refine xg_iconst 2111 dL_law__2110 rfl ?_
            refine xg_iadd 2112 dL_law__2111 rfl ?_
            refine xg_ialdS 2113 dL_law__2112 rfl hX ⟨by omega, hN⟩ ?_
            refine xg_aloadn 2114 dL_law__2113 rfl rfl rfl ?_
            refine xg_iload 2116 dL_law__2114 rfl rfl ?_
            refine xg_iconst 2117 dL_law__2116 rfl ?_
            refine xg_iadd 2118 dL_law__2117 rfl ?_
            refine xg_ialdS 2119 dL_law__2118 rfl hX ⟨by omega, hN⟩ ?_
            refine xg_ifeq 2126 2122 dL_law__2119 rfl rfl (i32r _) (fun hb2119 => ?_) (fun hb2119 => ?_)
            · skip
              refine xg_iconst 2127 dL_law__2126 rfl ?_
              refine xg_callVe 2130 12 [_, _] _ kv_X12_led ⟨_, _, rfl⟩ kl_RL_260 dL_law__2127 rfl kw.1.1 (by omega) rfl rfl (Nat.le_of_ble_eq_true rfl) (by omega) ⟨by omega, by omega⟩ (ctm) rfl (fun v9 h9 e9 => ?_)
              obtain ⟨b9, F2, I2, ws2, rfl, hb9, rfl, hBk, hk0, hout⟩ := e9
              refine xg_istore 2132 _ dL_law__2130 rfl rfl (Nat.le_of_ble_eq_true rfl) (Or.inr rfl) ?_
              refine xg_aloadn 2133 dL_law__2132 rfl rfl rfl ?_
              refine xg_callV 2136 12 [] _ kv_X12_thrown ⟨_, _, rfl⟩ kl_RL_125 dL_law__2133 rfl kw.1.1 (by omega) rfl rfl (Nat.le_of_ble_eq_true rfl) (by omega) ⟨by omega, by omega⟩ (Ct.own (ct_X12_thrown (I := I2) (w := I2 (m + 1)) kw)) rfl ?_
              rw [upA_id, hk0]
              refine xg_iload 2138 dL_law__2136 rfl rfl ?_
              refine xg_iceq 2143 2141 dL_law__2138 rfl rfl (by omega) (fun hb2138 => ?_) (fun hb2138 => ?_)
              · skip
                refine xg_iload 2145 dL_law__2143 rfl rfl ?_
                refine xg_ifne 2160 2148 dL_law__2145 rfl rfl (by omega) (fun hb2145 => ?_) (fun hb2145 => ?_)
                · skip
                  refine xg_goto 2318 dL_law__2160 rfl ?_
                  refine xg_iinc 2321 _ dL_law__2318 rfl rfl rfl rfl (Nat.le_of_ble_eq_true rfl) (Or.inr rfl) ?_
                  refine xg_goto 23 dL_law__2321 rfl ?_
                  refine xg_less7 ?_
                  exact ih _ _ _ _ _ _ _ _ _ _ hBk (by omega) (by omega) (by omega) (by omega)
                · skip
                  refine xg_aloadn 2149 dL_law__2148 rfl rfl rfl ?_
                  refine xg_iconst 2150 dL_law__2149 rfl ?_
                  refine xg_lald 2151 dL_law__2150 rfl k16 (by rw [k1]; omega) ?_
                  rw [hout (by omega)]
                  refine xg_iload 2153 dL_law__2151 rfl rfl ?_
                  refine xg_i2l 2154 dL_law__2153 rfl (by omega) ?_
                  refine xg_lcmp 2155 dL_law__2154 rfl (by omega) ?_
                  rw [xcmp_self]
                  refine xg_ifeq 2160 2158 dL_law__2155 rfl rfl (by omega) (fun hb2155 => ?_) (fun hb2155 => ?_)
                  · skip
                    refine xg_goto 2318 dL_law__2160 rfl ?_
                    refine xg_iinc 2321 _ dL_law__2318 rfl rfl rfl rfl (Nat.le_of_ble_eq_true rfl) (Or.inr rfl) ?_
                    refine xg_goto 23 dL_law__2321 rfl ?_
                    refine xg_less7 ?_
                    exact ih _ _ _ _ _ _ _ _ _ _ hBk (by omega) (by omega) (by omega) (by omega)
                  · exfalso; omega
              · exfalso; omega
            · exfalso; omega
          · exfalso; omega
      · refine xg_tin (o := 2123) 2163 dL_law__40 (by omega) ⟨by omega, by omega⟩ (by rw [show (sv - 0).toNat = 41 by omega]; rfl) rfl ?_
        obtain ⟨k, hk, ctc⟩ := op_log hV hI0 (i32r (xs (i + 1).toNat)) (i32r (xs (i + 2).toNat))
        refine xg_aloadn 2164 dL_law__2163 rfl rfl rfl ?_
        refine xg_aloadn 2165 dL_law__2164 rfl rfl rfl ?_
        refine xg_iload 2167 dL_law__2165 rfl rfl ?_
        refine xg_iconst 2168 dL_law__2167 rfl ?_
        refine xg_iadd 2169 dL_law__2168 rfl ?_
        refine xg_ialdS 2170 dL_law__2169 rfl hX ⟨by omega, hN⟩ ?_
        refine xg_aloadn 2171 dL_law__2170 rfl rfl rfl ?_
        refine xg_iload 2173 dL_law__2171 rfl rfl ?_
        refine xg_iconst 2174 dL_law__2173 rfl ?_
        refine xg_iadd 2175 dL_law__2174 rfl ?_
        refine xg_ialdS 2176 dL_law__2175 rfl hX ⟨by omega, hN⟩ ?_
        refine xg_aloadn 2177 dL_law__2176 rfl rfl rfl ?_
        refine xg_callSH 2180 [_, _, _, _] [] kh_L_log kl_RL_261 dL_law__2177 rfl rfl rfl (Nat.le_of_ble_eq_true rfl) (by omega) ⟨by omega, by omega⟩ ctc (fun v9 h9 e9 => ?_)
        obtain ⟨rfl, z1, T1, F1, I1, P1, Y1, rfl, ⟨ko, kw, k16, k1⟩, ctm⟩ := e9
        refine xg_istore 2182 _ dL_law__2180 rfl rfl (Nat.le_of_ble_eq_true rfl) (Or.inr rfl) ?_
        refine xg_aloadn 2183 dL_law__2182 rfl rfl rfl ?_
        refine xg_aloadn 2184 dL_law__2183 rfl rfl rfl ?_
        refine xg_iload 2186 dL_law__2184 rfl rfl ?_
        refine xg_iconst 2187 dL_law__2186 rfl ?_
        refine xg_iadd 2188 dL_law__2187 rfl ?_
        refine xg_ialdS 2189 dL_law__2188 rfl hX ⟨by omega, hN⟩ ?_
        refine xg_aloadn 2190 dL_law__2189 rfl rfl rfl ?_
        refine xg_iload 2192 dL_law__2190 rfl rfl ?_
        refine xg_iconst 2193 dL_law__2192 rfl ?_
        refine xg_iadd 2194 dL_law__2193 rfl ?_
        refine xg_ialdS 2195 dL_law__2194 rfl hX ⟨by omega, hN⟩ ?_
        refine xg_callVe 2198 12 [_, _] _ kv_X12_log ⟨_, _, rfl⟩ kl_RL_263 dL_law__2195 rfl kw.1.1 (by omega) rfl rfl (Nat.le_of_ble_eq_true rfl) (by omega) ⟨by omega, by omega⟩ (ctm) rfl (fun v9 h9 e9 => ?_)
        obtain ⟨b9, F2, I2, ws2, rfl, hb9, rfl, hBk, hk0, hout⟩ := e9
        refine xg_istore 2200 _ dL_law__2198 rfl rfl (Nat.le_of_ble_eq_true rfl) (Or.inr rfl) ?_
        refine xg_aloadn 2201 dL_law__2200 rfl rfl rfl ?_
        refine xg_callV 2204 12 [] _ kv_X12_thrown ⟨_, _, rfl⟩ kl_RL_125 dL_law__2201 rfl kw.1.1 (by omega) rfl rfl (Nat.le_of_ble_eq_true rfl) (by omega) ⟨by omega, by omega⟩ (Ct.own (ct_X12_thrown (I := I2) (w := I2 (m + 1)) kw)) rfl ?_
        rw [upA_id, hk0]
        refine xg_iload 2206 dL_law__2204 rfl rfl ?_
        refine xg_iceq 2211 2209 dL_law__2206 rfl rfl (by omega) (fun hb2206 => ?_) (fun hb2206 => ?_)
        · skip
          refine xg_iload 2213 dL_law__2211 rfl rfl ?_
          refine xg_ifne 2228 2216 dL_law__2213 rfl rfl (by omega) (fun hb2213 => ?_) (fun hb2213 => ?_)
          · skip
            refine xg_goto 2318 dL_law__2228 rfl ?_
            refine xg_iinc 2321 _ dL_law__2318 rfl rfl rfl rfl (Nat.le_of_ble_eq_true rfl) (Or.inr rfl) ?_
            refine xg_goto 23 dL_law__2321 rfl ?_
            refine xg_less7 ?_
            exact ih _ _ _ _ _ _ _ _ _ _ hBk (by omega) (by omega) (by omega) (by omega)
          · skip
            refine xg_aloadn 2217 dL_law__2216 rfl rfl rfl ?_
            refine xg_iconst 2218 dL_law__2217 rfl ?_
            refine xg_lald 2219 dL_law__2218 rfl k16 (by rw [k1]; omega) ?_
            rw [hout (by omega)]
            refine xg_iload 2221 dL_law__2219 rfl rfl ?_
            refine xg_i2l 2222 dL_law__2221 rfl (by omega) ?_
            refine xg_lcmp 2223 dL_law__2222 rfl (by omega) ?_
            rw [xcmp_self]
            refine xg_ifeq 2228 2226 dL_law__2223 rfl rfl (by omega) (fun hb2223 => ?_) (fun hb2223 => ?_)
            · skip
              refine xg_goto 2318 dL_law__2228 rfl ?_
              refine xg_iinc 2321 _ dL_law__2318 rfl rfl rfl rfl (Nat.le_of_ble_eq_true rfl) (Or.inr rfl) ?_
              refine xg_goto 23 dL_law__2321 rfl ?_
              refine xg_less7 ?_
              exact ih _ _ _ _ _ _ _ _ _ _ hBk (by omega) (by omega) (by omega) (by omega)
            · exfalso; omega
        · exfalso; omega
      · refine xg_tin (o := 2191) 2231 dL_law__40 (by omega) ⟨by omega, by omega⟩ (by rw [show (sv - 0).toNat = 42 by omega]; rfl) rfl ?_
        have ctc := pp_seed hV hI0 (i32r (xs (i + 1).toNat))
        refine xg_aloadn 2232 dL_law__2231 rfl rfl rfl ?_
        refine xg_aloadn 2233 dL_law__2232 rfl rfl rfl ?_
        refine xg_iload 2235 dL_law__2233 rfl rfl ?_
        refine xg_iconst 2236 dL_law__2235 rfl ?_
        refine xg_iadd 2237 dL_law__2236 rfl ?_
        refine xg_ialdS 2238 dL_law__2237 rfl hX ⟨by omega, hN⟩ ?_
        refine xg_callVm 2241 11 [_] _ kv_X11_seed ⟨_, _, rfl⟩ kl_RL_264 dL_law__2238 rfl hI0.1.1.1 (by omega) rfl rfl (Nat.le_of_ble_eq_true rfl) (by omega) ⟨by omega, by omega⟩ (ctc) rfl (fun v9 h9 e9 => ?_)
        obtain ⟨r, z1, T1, F1, I1, P1, Y1, rfl, hr, rfl, ⟨ko, kw⟩, ctm⟩ := e9
        refine xg_aloadn 2242 dL_law__2241 rfl rfl rfl ?_
        refine xg_aloadn 2243 dL_law__2242 rfl rfl rfl ?_
        refine xg_iload 2245 dL_law__2243 rfl rfl ?_
        refine xg_iconst 2246 dL_law__2245 rfl ?_
        refine xg_iadd 2247 dL_law__2246 rfl ?_
        refine xg_ialdS 2248 dL_law__2247 rfl hX ⟨by omega, hN⟩ ?_
        refine xg_callVe 2251 12 [_] _ kv_X12_seed ⟨_, _, rfl⟩ kl_RL_267 dL_law__2248 rfl kw.1.1 (by omega) rfl rfl (Nat.le_of_ble_eq_true rfl) (by omega) ⟨by omega, by omega⟩ (ctm) rfl (fun v9 h9 e9 => ?_)
        obtain ⟨F2, I2, ws2, rfl, rfl, hBk⟩ := e9
        refine xg_iceq 2318 2254 dL_law__2251 rfl rfl (by omega) (fun hb2251 => ?_) (fun hb2251 => ?_)
        · skip
          refine xg_iinc 2321 _ dL_law__2318 rfl rfl rfl rfl (Nat.le_of_ble_eq_true rfl) (Or.inr rfl) ?_
          refine xg_goto 23 dL_law__2321 rfl ?_
          refine xg_less7 ?_
          exact ih _ _ _ _ _ _ _ _ _ _ hBk (by omega) (by omega) (by omega) (by omega)
        · exfalso; omega
      · refine xg_tin (o := 2216) 2256 dL_law__40 (by omega) ⟨by omega, by omega⟩ (by rw [show (sv - 0).toNat = 43 by omega]; rfl) rfl ?_
        have ctc := pp_undo hV hI0 
        refine xg_aloadn 2257 dL_law__2256 rfl rfl rfl ?_
        refine xg_callVm 2260 11 [] _ kv_X11_undo ⟨_, _, rfl⟩ kl_RL_268 dL_law__2257 rfl hI0.1.1.1 (by omega) rfl rfl (Nat.le_of_ble_eq_true rfl) (by omega) ⟨by omega, by omega⟩ (ctc) rfl (fun v9 h9 e9 => ?_)
        obtain ⟨r, z1, T1, F1, I1, P1, Y1, rfl, hr, rfl, ⟨ko, kw⟩, ctm⟩ := e9
        refine xg_aloadn 2261 dL_law__2260 rfl rfl rfl ?_
        refine xg_callVe 2264 12 [] _ kv_X12_undo ⟨_, _, rfl⟩ kl_RL_272 dL_law__2261 rfl kw.1.1 (by omega) rfl rfl (Nat.le_of_ble_eq_true rfl) (by omega) ⟨by omega, by omega⟩ (ctm) rfl (fun v9 h9 e9 => ?_)
        obtain ⟨F2, I2, ws2, rfl, rfl, hBk⟩ := e9
        refine xg_iceq 2318 2267 dL_law__2264 rfl rfl (by omega) (fun hb2264 => ?_) (fun hb2264 => ?_)
        · skip
          refine xg_iinc 2321 _ dL_law__2318 rfl rfl rfl rfl (Nat.le_of_ble_eq_true rfl) (Or.inr rfl) ?_
          refine xg_goto 23 dL_law__2321 rfl ?_
          refine xg_less7 ?_
          exact ih _ _ _ _ _ _ _ _ _ _ hBk (by omega) (by omega) (by omega) (by omega)
        · exfalso; omega
      · refine xg_tin (o := 2229) 2269 dL_law__40 (by omega) ⟨by omega, by omega⟩ (by rw [show (sv - 0).toNat = 44 by omega]; rfl) rfl ?_
        have ctc := pp_image hV hI0 
        refine xg_aloadn 2270 dL_law__2269 rfl rfl rfl ?_
        refine xg_callVm 2273 11 [] _ kv_X11_image ⟨_, _, rfl⟩ kl_RL_273 dL_law__2270 rfl hI0.1.1.1 (by omega) rfl rfl (Nat.le_of_ble_eq_true rfl) (by omega) ⟨by omega, by omega⟩ (ctc) rfl (fun v9 h9 e9 => ?_)
        obtain ⟨rfl, z1, T1, F1, I1, P1, Y1, rfl, ⟨ko, kw⟩, ctm⟩ := e9
        refine xg_aloadn 2274 dL_law__2273 rfl rfl rfl ?_
        refine xg_callVe 2277 12 [] _ kv_X12_image ⟨_, _, rfl⟩ kl_RL_276 dL_law__2274 rfl kw.1.1 (by omega) rfl rfl (Nat.le_of_ble_eq_true rfl) (by omega) ⟨by omega, by omega⟩ (ctm) rfl (fun v9 h9 e9 => ?_)
        obtain ⟨rfl, F2, I2, ws2, rfl, hBk⟩ := e9
        refine xg_goto 2318 dL_law__2277 rfl ?_
        refine xg_iinc 2321 _ dL_law__2318 rfl rfl rfl rfl (Nat.le_of_ble_eq_true rfl) (Or.inr rfl) ?_
        refine xg_goto 23 dL_law__2321 rfl ?_
        refine xg_less7 ?_
        exact ih _ _ _ _ _ _ _ _ _ _ hBk (by omega) (by omega) (by omega) (by omega)
      · refine xg_tin (o := 2240) 2280 dL_law__40 (by omega) ⟨by omega, by omega⟩ (by rw [show (sv - 0).toNat = 45 by omega]; rfl) rfl ?_
        have ctc := pp_back hV hI0 
        refine xg_aloadn 2281 dL_law__2280 rfl rfl rfl ?_
        refine xg_callVm 2284 11 [] _ kv_X11_back ⟨_, _, rfl⟩ kl_RL_277 dL_law__2281 rfl hI0.1.1.1 (by omega) rfl rfl (Nat.le_of_ble_eq_true rfl) (by omega) ⟨by omega, by omega⟩ (ctc) rfl (fun v9 h9 e9 => ?_)
        obtain ⟨r, z1, T1, F1, I1, P1, Y1, rfl, hr, rfl, ⟨ko, kw⟩, ctm⟩ := e9
        refine xg_aloadn 2285 dL_law__2284 rfl rfl rfl ?_
        refine xg_callVe 2288 12 [] _ kv_X12_back ⟨_, _, rfl⟩ kl_RL_280 dL_law__2285 rfl kw.1.1 (by omega) rfl rfl (Nat.le_of_ble_eq_true rfl) (by omega) ⟨by omega, by omega⟩ (ctm) rfl (fun v9 h9 e9 => ?_)
        obtain ⟨F2, I2, ws2, rfl, rfl, hBk⟩ := e9
        refine xg_iceq 2318 2291 dL_law__2288 rfl rfl (by omega) (fun hb2288 => ?_) (fun hb2288 => ?_)
        · skip
          refine xg_iinc 2321 _ dL_law__2318 rfl rfl rfl rfl (Nat.le_of_ble_eq_true rfl) (Or.inr rfl) ?_
          refine xg_goto 23 dL_law__2321 rfl ?_
          refine xg_less7 ?_
          exact ih _ _ _ _ _ _ _ _ _ _ hBk (by omega) (by omega) (by omega) (by omega)
        · exfalso; omega
      · refine xg_tin (o := 2253) 2293 dL_law__40 (by omega) ⟨by omega, by omega⟩ (by rw [show (sv - 0).toNat = 46 by omega]; rfl) rfl ?_
        have ctc := pp_count hV hI0 (i32r (xs (i + 1).toNat))
        refine xg_aloadn 2294 dL_law__2293 rfl rfl rfl ?_
        refine xg_aloadn 2295 dL_law__2294 rfl rfl rfl ?_
        refine xg_iload 2297 dL_law__2295 rfl rfl ?_
        refine xg_iconst 2298 dL_law__2297 rfl ?_
        refine xg_iadd 2299 dL_law__2298 rfl ?_
        refine xg_ialdS 2300 dL_law__2299 rfl hX ⟨by omega, hN⟩ ?_
        refine xg_callVm 2303 11 [_] _ kv_X11_count ⟨_, _, rfl⟩ kl_RL_281 dL_law__2300 rfl hI0.1.1.1 (by omega) rfl rfl (Nat.le_of_ble_eq_true rfl) (by omega) ⟨by omega, by omega⟩ (ctc) rfl (fun v9 h9 e9 => ?_)
        obtain ⟨r, z1, T1, F1, I1, P1, Y1, rfl, hr, rfl, ⟨ko, kw⟩, ctm⟩ := e9
        refine xg_aloadn 2304 dL_law__2303 rfl rfl rfl ?_
        refine xg_aloadn 2305 dL_law__2304 rfl rfl rfl ?_
        refine xg_iload 2307 dL_law__2305 rfl rfl ?_
        refine xg_iconst 2308 dL_law__2307 rfl ?_
        refine xg_iadd 2309 dL_law__2308 rfl ?_
        refine xg_ialdS 2310 dL_law__2309 rfl hX ⟨by omega, hN⟩ ?_
        refine xg_callVe 2313 12 [_] _ kv_X12_count ⟨_, _, rfl⟩ kl_RL_284 dL_law__2310 rfl kw.1.1 (by omega) rfl rfl (Nat.le_of_ble_eq_true rfl) (by omega) ⟨by omega, by omega⟩ (ctm) rfl (fun v9 h9 e9 => ?_)
        obtain ⟨F2, I2, ws2, rfl, rfl, hBk⟩ := e9
        refine xg_iceq 2318 2316 dL_law__2313 rfl rfl (by omega) (fun hb2313 => ?_) (fun hb2313 => ?_)
        · skip
          refine xg_iinc 2321 _ dL_law__2318 rfl rfl rfl rfl (Nat.le_of_ble_eq_true rfl) (Or.inr rfl) ?_
          refine xg_goto 23 dL_law__2321 rfl ?_
          refine xg_less7 ?_
          exact ih _ _ _ _ _ _ _ _ _ _ hBk (by omega) (by omega) (by omega) (by omega)
        · exfalso; omega
      · refine xg_tout 2318 dL_law__40 (by omega) ht rfl ?_
        refine xg_iinc 2321 _ dL_law__2318 rfl rfl rfl rfl (Nat.le_of_ble_eq_true rfl) (Or.inr rfl) ?_
        refine xg_goto 23 dL_law__2321 rfl ?_
        refine xg_less7 ?_
        exact ih _ _ _ _ _ _ _ _ _ _ hBk (by omega) (by omega) (by omega) (by omega)
