theorem dX4_made_0 : decode cX4_made 0 = .ok (.new 61, 3) := by decide +kernel
theorem dX4_made_3 : decode cX4_made 3 = .ok (.dup, 1) := by decide +kernel
theorem dX4_made_4 : decode cX4_made 4 = .ok (.aload_n 0, 1) := by decide +kernel
theorem dX4_made_5 : decode cX4_made 5 = .ok (.getfield 15, 3) := by decide +kernel
theorem dX4_made_8 : decode cX4_made 8 = .ok (.aload_n 0, 1) := by decide +kernel
theorem dX4_made_9 : decode cX4_made 9 = .ok (.getfield 19, 3) := by decide +kernel
theorem dX4_made_12 : decode cX4_made 12 = .ok (.aload_n 0, 1) := by decide +kernel
theorem dX4_made_13 : decode cX4_made 13 = .ok (.getfield 22, 3) := by decide +kernel
theorem dX4_made_16 : decode cX4_made 16 = .ok (.aload_n 0, 1) := by decide +kernel
theorem dX4_made_17 : decode cX4_made 17 = .ok (.getfield 28, 3) := by decide +kernel
theorem dX4_made_20 : decode cX4_made 20 = .ok (.aload_n 0, 1) := by decide +kernel
theorem dX4_made_21 : decode cX4_made 21 = .ok (.getfield 25, 3) := by decide +kernel
theorem dX4_made_24 : decode cX4_made 24 = .ok (.invokespecial 63, 3) := by decide +kernel
theorem dX4_made_27 : decode cX4_made 27 = .ok (.areturn, 1) := by decide +kernel
theorem xg_callIw {E : xE} {M M' : xM} {X : xX} {pc : Nat} {L : List (Option Value)} {st : List Value} {T : Nat → Nat × Int} {F : Nat → Nat → Int} {I : Nat → Int → Int} {P : Nat → Nat → Option Nat} {Y : Nat → Int → Option Nat} {c n d0 mc ms x1 x2 x3 x5 : Nat} {n0 m0 : Int} {h : xH} {b i k' mc' ms' : Nat} (q : Nat) (As rest : List Value) (hM : xMi M') (hl : Cond.methodLink M.1.cls i M'.1 ∈ xT) (d1 : decode M.2.1 pc = .ok (.invokespecial i, 3)) (hq : pc + 3 = q)
    (hn : As.length = M'.2.2.2.2) (hst : st = As.reverse ++ .ref b :: rest) (hsum : (rest.map fun v => v.category).sum ≤ 8) (hd : k' + 1 ≤ d0) (hc : c + mc' ≤ mc ∧ n + ms' ≤ ms) (ct : Ct E k' M' mc' ms' (.ref b :: As) h (xNewW b x1 x2 x3 x5 n0 m0 T F I P Y))
    (kk : ∀ (T' : Nat → Nat × Int) (F' : Nat → Nat → Int) (I' : Nat → Int → Int) (P' : Nat → Nat → Option Nat), WNew T' F' I' P' I b x1 x2 x3 x5 n0 m0 → Lo b T F I P Y T' F' I' P' Y → xG E M (xR d0 mc ms) X q L rest (b + 6, T', F', I', P', Y) (c + mc') (n + ms')) : xG E M (xR d0 mc ms) X pc L st h c n :=
  xg_callI0 q hM hl d1 hq hn hst hsum hd hc ct (fun v h' e => by obtain ⟨rfl, T', F', I', P', rfl, h1, h2⟩ := e; exact kk T' F' I' P' h1 h2)
/-- a law is made of what the reader at r holds -/
def xMade (r : Nat) (n m : Int) (z : Nat) (T : Nat → Nat × Int) (F : Nat → Nat → Int) (I : Nat → Int → Int) (P : Nat → Nat → Option Nat) (Y : Nat → Int → Option Nat) : Option Value → xH → Prop := fun v h' => v = some (.ref z) ∧ ∃ (T' : Nat → Nat × Int) (F' : Nat → Nat → Int) (I' : Nat → Int → Int) (P' : Nat → Nat → Option Nat), h' = (z + 6, T', F', I', P', Y) ∧ WNew T' F' I' P' I z (r + 1) (r + 2) (r + 3) (r + 4) n m ∧ Lo z T F I P Y T' F' I' P' Y
set_option maxHeartbeats 4000000 in
set_option maxRecDepth 100000 in
theorem ct_X4_made {E : xE} {z : Nat} {T : Nat → Nat × Int} {F : Nat → Nat → Int} {I : Nat → Int → Int} {P : Nat → Nat → Option Nat} {Y : Nat → Int → Option Nat} {r s : Nat} {n m : Int} (hR : wLrd T P r s) (hz : r + 5 ≤ z) (hn : 0 ≤ n ∧ n ≤ 12) (hm9 : 0 ≤ m ∧ m ≤ 400) (hF5 : F r 5 = n) (hm : I (r + 3) n = m) : Ct E 2 mX4_made 6 475 [.ref r] (z, T, F, I, P, Y) (xMade r n m z T F I P Y) := by
  obtain ⟨w0, -, ⟨w1, t1⟩, ⟨w2, t2⟩, ⟨w3, t3⟩, w4, t4⟩ := hR
  refine Ct.of [some (.ref r)] kt_X4_made rfl (Nat.le_of_ble_eq_true rfl) rfl (fun d hd => ?_)
  generalize hX : xN E _ _ _ = X
  refine xg_new 3 kc_3 kd_3 kn_RX4_61 kw_RX3 dX4_made_0 rfl ⟨by first | decide | omega, by first | decide | omega⟩ ?_
  refine xg_dup 4 dX4_made_3 rfl rfl ?_
  refine xg_aloadn 5 dX4_made_4 rfl rfl rfl ?_
  refine xg_getP 8 kf_RX4_15 dX4_made_5 rfl (by simp (disch := omega) only [upT_na, w0]) (show _ = some (r + 1) by simp (disch := omega) only [up0_na, w1]) ?_
  refine xg_aloadn 9 dX4_made_8 rfl rfl rfl ?_
  refine xg_getP 12 kf_RX4_19 dX4_made_9 rfl (by simp (disch := omega) only [upT_na, w0]) (show _ = some (r + 2) by simp (disch := omega) only [up0_na, w2]) ?_
  refine xg_aloadn 13 dX4_made_12 rfl rfl rfl ?_
  refine xg_getP 16 kf_RX4_22 dX4_made_13 rfl (by simp (disch := omega) only [upT_na, w0]) (show _ = some (r + 3) by simp (disch := omega) only [up0_na, w3]) ?_
  refine xg_aloadn 17 dX4_made_16 rfl rfl rfl ?_
  refine xg_getI 20 kf_RX4_28 dX4_made_17 rfl (by simp (disch := omega) only [upT_na, w0]) ?_
  rw [up0_na _ _ _ (show r ≠ z by omega), hF5]
  refine xg_aloadn 21 dX4_made_20 rfl rfl rfl ?_
  refine xg_getP 24 kf_RX4_25 dX4_made_21 rfl (by simp (disch := omega) only [upT_na, w0]) (show _ = some (r + 4) by simp (disch := omega) only [up0_na, w4]) ?_
  refine xg_callIw 27 [_, _, _, _, _] _ ki_X3_init kl_RX4_63 dX4_made_24 rfl rfl rfl (Nat.le_of_ble_eq_true rfl) (by omega) ⟨by first | decide | omega, by first | decide | omega⟩ (ct_X3_init (by rw [upT_at]) rfl hn hm9 (by simp (disch := omega) only [upT_na]; exact t1) (by simp (disch := omega) only [upT_na]; exact t2) (by simp (disch := omega) only [upT_na]; exact t3) (by simp (disch := omega) only [upT_na]; exact t4) ⟨by omega, by omega, by omega, by omega⟩ hm) (fun T1 F1 I1 P1 hN1 hL1 => ?_)
  subst hX
  refine xg_areturn (v := some z) dX4_made_27 rfl rfl ⟨by first | decide | omega, by first | decide | omega⟩ ?_
  refine ⟨rfl, T1, F1, I1, P1, rfl, hN1, fun b hb => ?_⟩
  obtain ⟨l1, l2, l3, l4, l5⟩ := hL1 b hb
  refine ⟨?_, ?_, l3, ?_, l5⟩
  · rw [l1, upT_na _ _ _ _ (by omega)]
  · rw [l2, up0_na _ _ _ (by omega)]
  · rw [l4, up0_na _ _ _ (by omega)]

set_option maxHeartbeats 4000000 in
set_option maxRecDepth 100000 in
theorem ct_X8_rowNamed {E : xE} {z : Nat} {T : Nat → Nat × Int} {F : Nat → Nat → Int} {I : Nat → Int → Int} {P : Nat → Nat → Option Nat} {Y : Nat → Int → Option Nat} {a : Nat} {π : Nat → Nat} {x : Int} (hS : wSt T P a) (hp : wPm P Y a π) (h1 : 0 ≤ F a 1 ∧ F a 1 ≤ 12) (hx : -2147483648 ≤ x ∧ x < 2147483648) : Ct E 1 mX8_rowNamed 0 0 [.ref a, J x] (z, T, F, I, P, Y) (xd (some (.ref (a + 2 + 3 * π (if x = -1 then 12 else if 0 ≤ x ∧ x < F a 1 then x.toNat else 13)))) (z, T, F, I, P, Y)) := by
  obtain ⟨⟨s0, s1, s2, s3⟩, -⟩ := id hS
  obtain ⟨p1, p2, p3, -, -⟩ := id hp
  refine Ct.of [some (.ref a), some (J x)] kt_X8_rowNamed rfl (Nat.le_of_ble_eq_true rfl) rfl (fun d hd => ?_)
  generalize hX : xN E _ _ _ = X
  refine xg_iloadn 1 dX8_rowNamed_0 rfl rfl rfl ?_
  refine xg_iconst 2 dX8_rowNamed_1 rfl ?_
  refine xg_icne 10 5 dX8_rowNamed_2 rfl rfl (by omega) (fun hb2 => ?_) (fun hb2 => ?_)
  · skip
    refine xg_aloadn 11 dX8_rowNamed_10 rfl rfl rfl ?_
    refine xg_iloadn 12 dX8_rowNamed_11 rfl rfl rfl ?_
    refine xg_callV 15 8 [_] _ kv_X8_hasRun ⟨_, _, rfl⟩ kl_RX8_103 dX8_rowNamed_12 rfl s0 (by omega) rfl rfl (Nat.le_of_ble_eq_true rfl) (by omega) ⟨Nat.le_refl _, Nat.le_refl _⟩ (ct_X8_hasRun s0 h1 hx) rfl ?_
    refine xg_deq 27 18 dX8_rowNamed_15 rfl rfl (fun hb15 => ?_) (fun hb15 => ?_)
    · skip
      refine xg_aloadn 28 dX8_rowNamed_27 rfl rfl rfl ?_
      refine xg_getP 31 kf_RX8_22 dX8_rowNamed_28 rfl s0 p3 ?_
      subst hX
      exact xg_areturn (v := some _) dX8_rowNamed_31 rfl rfl ⟨Nat.le_refl _, Nat.le_refl _⟩ ⟨by rw [if_neg (by omega), if_neg (by omega)], rfl⟩
    · skip
      refine xg_aloadn 19 dX8_rowNamed_18 rfl rfl rfl ?_
      refine xg_getP 22 kf_RX8_11 dX8_rowNamed_19 rfl s0 s1 ?_
      refine xg_iloadn 23 dX8_rowNamed_22 rfl rfl rfl ?_
      refine xg_rald 24 dX8_rowNamed_23 rfl s2 (by rw [s3]; omega) (show _ = some (a + 2 + 3 * π x.toNat) by have := p1 x.toNat (by omega); rwa [Int.toNat_of_nonneg (by omega)] at this) ?_
      refine xg_goto 31 dX8_rowNamed_24 rfl ?_
      subst hX
      exact xg_areturn (v := some _) dX8_rowNamed_31 rfl rfl ⟨Nat.le_refl _, Nat.le_refl _⟩ ⟨by rw [if_neg (by omega), if_pos (by omega)], rfl⟩
  · skip
    refine xg_aloadn 6 dX8_rowNamed_5 rfl rfl rfl ?_
    refine xg_getP 9 kf_RX8_18 dX8_rowNamed_6 rfl s0 p2 ?_
    subst hX
    exact xg_areturn (v := some _) dX8_rowNamed_9 rfl rfl ⟨Nat.le_refl _, Nat.le_refl _⟩ ⟨by rw [if_pos (by omega)], rfl⟩

