/-! the law's beginning -/
/-- a new ledger, its tape and its readers' rows too -/
def xNewL2 (o : Nat) (T : Nat → Nat × Int) (F : Nat → Nat → Int) (I : Nat → Int → Int) (P : Nat → Nat → Option Nat) (Y : Nat → Int → Option Nat) : Option Value → xH → Prop := fun v h' => v = none ∧ ∃ (T' : Nat → Nat × Int) (F' : Nat → Nat → Int) (I' : Nat → Int → Int) (P' : Nat → Nat → Option Nat) (Y' : Nat → Int → Option Nat), h' = (o + 168, T', F', I', P', Y') ∧ LNew T' F' I' P' Y' o ∧ (∀ j : Int, I' (o + 1) j = 0) ∧ ∀ j : Int, I' (o + 122) j = 0 ∧ I' (o + 123) j = 0
set_option maxHeartbeats 4000000 in
set_option maxRecDepth 100000 in
theorem ct_X11_init2 {E : xE} {z : Nat} {T : Nat → Nat × Int} {F : Nat → Nat → Int} {I : Nat → Int → Int} {P : Nat → Nat → Option Nat} {Y : Nat → Int → Option Nat} {o : Nat} (hE : ∀ u : State, E.2.2.2.2 u → xOld u) (hE2 : ∀ u : State, E.2.2.2.2 u → (Cond.arrayOver (.array .int)).before #[] u = true) (hk : (T o).1 = 12) (hz : z = o + 1) : Ct E 3 mX11_init 167 6911 [.ref o] (z, T, F, I, P, Y) (xNewL2 o T F I P Y) := by
  subst hz
  refine Ct.of [some (.ref o)] kt_X11_init rfl (Nat.le_of_ble_eq_true rfl) rfl (fun d hd => ?_)
  generalize hX : xN E _ _ _ = X
  refine xg_aloadn 1 dX11_init_0 rfl rfl rfl ?_
  refine xg_oi 4 kl_RX11_1 dX11_init_1 rfl (Nat.le_of_ble_eq_true rfl) (by omega) ?_
  refine xg_aloadn 5 dX11_init_4 rfl rfl rfl ?_
  refine xg_sipush 8 dX11_init_5 rfl (by decide) ?_
  refine xg_nai 10 dX11_init_8 rfl (by omega) ⟨by first | decide | omega, by first | decide | omega⟩ ?_
  refine xg_putAF 13 kf_RX11_9 rfl (fun C T N h => by cases h.1; rfl) dX11_init_10 rfl (by simp (disch := omega) only [upT_na, hk]) (show _ = va_rf (some _) from rfl) ?_
  refine xg_aloadn 14 dX11_init_13 rfl rfl rfl ?_
  refine xg_iconst 15 dX11_init_14 rfl ?_
  refine xg_putI 18 kf_RX11_13 dX11_init_15 rfl (by simp (disch := omega) only [upT_na, hk]) ?_
  refine xg_aloadn 19 dX11_init_18 rfl rfl rfl ?_
  refine xg_iconst 20 dX11_init_19 rfl ?_
  refine xg_putI 23 kf_RX11_17 dX11_init_20 rfl (by simp (disch := omega) only [upT_na, hk]) ?_
  refine xg_aloadn 24 dX11_init_23 rfl rfl rfl ?_
  refine xg_new 27 kc_8 kd_8 kn_RX11_20 kw_RX8 dX11_init_24 rfl ⟨by first | decide | omega, by first | decide | omega⟩ ?_
  refine xg_dup 28 dX11_init_27 rfl rfl ?_
  refine xg_callIs 31 [] _ ki_X8_init kl_RX11_22 dX11_init_28 rfl rfl rfl (Nat.le_of_ble_eq_true rfl) (by omega) ⟨by first | decide | omega, by first | decide | omega⟩ (ct_X8_init hE (by rw [upT_at]) rfl (fun j => by rw [up0_at]) (by rw [up0_at])) (fun T1 F1 I1 P1 Y1 hN1 hL1 => ?_)
  have k1 : (T1 o).1 = 12 := by
    rw [(hL1 o (by omega)).1]
    simp (disch := omega) only [upT_na, hk]
  refine xg_putO 34 kf_RX11_23 dX11_init_31 rfl (by simp (disch := omega) only [upT_na, k1]) (show _ = va_rf (some _) from rfl) ?_
  refine xg_aloadn 35 dX11_init_34 rfl rfl rfl ?_
  refine xg_new 38 kc_8 kd_8 kn_RX11_20 kw_RX8 dX11_init_35 rfl ⟨by first | decide | omega, by first | decide | omega⟩ ?_
  refine xg_dup 39 dX11_init_38 rfl rfl ?_
  refine xg_callIs 42 [] _ ki_X8_init kl_RX11_22 dX11_init_39 rfl rfl rfl (Nat.le_of_ble_eq_true rfl) (by omega) ⟨by first | decide | omega, by first | decide | omega⟩ (ct_X8_init hE (by rw [upT_at]) rfl (fun j => by rw [up0_at]) (by rw [up0_at])) (fun T2 F2 I2 P2 Y2 hN2 hL2 => ?_)
  have k2 : (T2 o).1 = 12 := by
    rw [(hL2 o (by omega)).1]
    simp (disch := omega) only [upT_na, k1]
  refine xg_putO 45 kf_RX11_27 dX11_init_42 rfl (by simp (disch := omega) only [upT_na, k2]) (show _ = va_rf (some _) from rfl) ?_
  refine xg_aloadn 46 dX11_init_45 rfl rfl rfl ?_
  refine xg_null 47 dX11_init_46 rfl ?_
  refine xg_putO 50 kf_RX11_30 dX11_init_47 rfl (by simp (disch := omega) only [upT_na, k2]) (show _ = va_rf none from rfl) ?_
  refine xg_aloadn 51 dX11_init_50 rfl rfl rfl ?_
  refine xg_bipush 53 dX11_init_51 rfl (by decide) ?_
  refine xg_ana (k := 18) 56 kn_RX11_20 (fun u hu => (hE u hu).2.1) (by omega) rfl dX11_init_53 rfl (by omega) ⟨by first | decide | omega, by first | decide | omega⟩ ?_
  refine xg_putAF 59 kf_RX11_33 rfl (fun C T N h => by cases h.1; rfl) dX11_init_56 rfl (by simp (disch := omega) only [upT_na, k2]) (show _ = va_rf (some _) from rfl) ?_
  refine xg_aloadn 60 dX11_init_59 rfl rfl rfl ?_
  refine xg_iconst 61 dX11_init_60 rfl ?_
  refine xg_putI 64 kf_RX11_37 dX11_init_61 rfl (by simp (disch := omega) only [upT_na, k2]) ?_
  refine xg_aloadn 65 dX11_init_64 rfl rfl rfl ?_
  refine xg_iconst 66 dX11_init_65 rfl ?_
  refine xg_putI 69 kf_RX11_40 dX11_init_66 rfl (by simp (disch := omega) only [upT_na, k2]) ?_
  refine xg_aloadn 70 dX11_init_69 rfl rfl rfl ?_
  refine xg_new 73 kc_7 kd_7 kn_RX11_43 kw_RX7 dX11_init_70 rfl ⟨by first | decide | omega, by first | decide | omega⟩ ?_
  refine xg_dup 74 dX11_init_73 rfl rfl ?_
  refine xg_callI 77 [] _ ki_X7_init kl_RX11_45 dX11_init_74 rfl rfl rfl (Nat.le_of_ble_eq_true rfl) (by omega) ⟨by first | decide | omega, by first | decide | omega⟩ (ct_X7_init (by rw [upT_at]) (by omega)) ?_
  refine xg_putOF 80 kf_RX11_46 rfl (fun C T N h => by cases h.1; rfl) dX11_init_77 rfl (by simp (disch := omega) only [upT_na, k2]) (show _ = va_rf (some _) from rfl) ?_
  refine xg_aloadn 81 dX11_init_80 rfl rfl rfl ?_
  refine xg_new 84 kc_9 kd_9 kn_RX11_50 kw_RX9 dX11_init_81 rfl ⟨by first | decide | omega, by first | decide | omega⟩ ?_
  refine xg_dup 85 dX11_init_84 rfl rfl ?_
  refine xg_aloadn 86 dX11_init_85 rfl rfl rfl ?_
  refine xg_getP 89 kf_RX11_46 dX11_init_86 rfl (by simp (disch := omega) only [upT_na, k2]) (show _ = some (o + 1 + 1 + 57 + 57 + 1) by simp (disch := omega) only [up0_na, upP_at, upP_nk, upP_na]) ?_
  refine xg_callI 92 [_] _ ki_X9_init kl_RX11_52 dX11_init_89 rfl rfl rfl (Nat.le_of_ble_eq_true rfl) (by omega) ⟨by first | decide | omega, by first | decide | omega⟩ (ct_X9_init (by rw [upT_at]) (by omega)) ?_
  refine xg_putOF 95 kf_RX11_55 rfl (fun C T N h => by cases h.1; rfl) dX11_init_92 rfl (by simp (disch := omega) only [upT_na, k2]) (show _ = va_rf (some _) from rfl) ?_
  refine xg_aloadn 96 dX11_init_95 rfl rfl rfl ?_
  refine xg_new 99 kc_4 kd_4 kn_RX11_59 kw_RX4 dX11_init_96 rfl ⟨by first | decide | omega, by first | decide | omega⟩ ?_
  refine xg_dup 100 dX11_init_99 rfl rfl ?_
  refine xg_aloadn 101 dX11_init_100 rfl rfl rfl ?_
  refine xg_getP 104 kf_RX11_46 dX11_init_101 rfl (by simp (disch := omega) only [upT_na, k2]) (show _ = some (o + 1 + 1 + 57 + 57 + 1) by simp (disch := omega) only [up0_na, upP_at, upP_nk, upP_na]) ?_
  refine xg_callI 107 [_] _ ki_X4_init kl_RX11_61 dX11_init_104 rfl rfl rfl (Nat.le_of_ble_eq_true rfl) (by omega) ⟨by first | decide | omega, by first | decide | omega⟩ (ct_X4_init (by rw [upT_at]) (by omega)) ?_
  refine xg_putOF 110 kf_RX11_62 rfl (fun C T N h => by cases h.1; rfl) dX11_init_107 rfl (by simp (disch := omega) only [upT_na, k2]) (show _ = va_rf (some _) from rfl) ?_
  refine xg_aloadn 111 dX11_init_110 rfl rfl rfl ?_
  refine xg_new 114 kc_0 kd_0 kn_RX11_66 kw_RX0 dX11_init_111 rfl ⟨by first | decide | omega, by first | decide | omega⟩ ?_
  refine xg_dup 115 dX11_init_114 rfl rfl ?_
  refine xg_callIc 118 [] _ ki_X0_init kl_RX11_68 dX11_init_115 rfl rfl rfl (Nat.le_of_ble_eq_true rfl) (by omega) ⟨by first | decide | omega, by first | decide | omega⟩ (ct_X0_init hE2 (by rw [upT_at]) rfl) (fun T3 I3 P3 Y3 hC3 hL3 => ?_)
  have k3 : (T3 o).1 = 12 := by
    rw [(hL3 o (by omega)).1]
    simp (disch := omega) only [upT_na, k2]
  refine xg_putOF 121 kf_RX11_69 rfl (fun C T N h => by cases h.1; rfl) dX11_init_118 rfl (by simp (disch := omega) only [upT_na, k3]) (show _ = va_rf (some _) from rfl) ?_
  subst hX
  refine xg_return dX11_init_121 rfl ⟨by first | decide | omega, by first | decide | omega⟩ ?_
  unfold xNewL2
  have l1T := fun (b : Nat) hb => (hL1 b hb).1
  have l1F := fun (b : Nat) hb => (hL1 b hb).2.1
  have l1I := fun (b : Nat) hb => (hL1 b hb).2.2.1
  have l1P := fun (b : Nat) hb => (hL1 b hb).2.2.2.1
  have l1Y := fun (b : Nat) hb => (hL1 b hb).2.2.2.2
  have l2T := fun (b : Nat) hb => (hL2 b hb).1
  have l2F := fun (b : Nat) hb => (hL2 b hb).2.1
  have l2I := fun (b : Nat) hb => (hL2 b hb).2.2.1
  have l2P := fun (b : Nat) hb => (hL2 b hb).2.2.2.1
  have l2Y := fun (b : Nat) hb => (hL2 b hb).2.2.2.2
  have l3T := fun (b : Nat) hb => (hL3 b hb).1
  have l3I := fun (b : Nat) hb => (hL3 b hb).2.2.1
  have l3P := fun (b : Nat) hb => (hL3 b hb).2.2.2.1
  have l3Y := fun (b : Nat) hb => (hL3 b hb).2.2.2.2
  refine ⟨rfl, _, _, _, _, _, rfl, ⟨⟨?_, ?_, ?_, ?_⟩, ⟨?_, ?_, ?_, ?_⟩, ⟨?_, hN1.mv (fun b b0 b1 => ⟨?_, ?_, ?_, ?_, ?_⟩)⟩, ⟨?_, hN2.mv (fun b b0 b1 => ⟨?_, ?_, ?_, ?_, ?_⟩)⟩, ?_, ⟨?_, ?_, ?_, fun j => ?_⟩, ⟨?_, ?_, ?_⟩, ⟨?_, ?_⟩, ⟨?_, ?_⟩, ?_, ?_⟩, fun j => ?_, fun j => ⟨?_, ?_⟩⟩
  all_goals first
    | (simp (disch := omega) only [Nat.add_assoc, Nat.reduceAdd, upT_at, upT_na, upP_at, upP_nk, upP_na, up0_at, up0_na, upF_at, upF_nk, upF_na, l1T, l1F, l1I, l1P, l1Y, l2T, l2F, l2I, l2P, l2Y, l3T, l3I, l3P, l3Y, hk]; done)
    | (unfold wScn; simp (disch := omega) only [Nat.add_assoc, Nat.reduceAdd, upT_at, upT_na, upP_at, upP_nk, upP_na, up0_at, up0_na, upF_at, upF_nk, upF_na, l1T, l1F, l1I, l1P, l1Y, l2T, l2F, l2I, l2P, l2Y, l3T, l3I, l3P, l3Y, true_and, and_true]; done)
    | (unfold wSrd; simp (disch := omega) only [Nat.add_assoc, Nat.reduceAdd, upT_at, upT_na, upP_at, upP_nk, upP_na, up0_at, up0_na, upF_at, upF_nk, upF_na, l1T, l1F, l1I, l1P, l1Y, l2T, l2F, l2I, l2P, l2Y, l3T, l3I, l3P, l3Y, true_and, and_true]; done)
    | (unfold wLrd; simp (disch := omega) only [Nat.add_assoc, Nat.reduceAdd, upT_at, upT_na, upP_at, upP_nk, upP_na, up0_at, up0_na, upF_at, upF_nk, upF_na, l1T, l1F, l1I, l1P, l1Y, l2T, l2F, l2I, l2P, l2Y, l3T, l3I, l3P, l3Y, true_and, and_true]; done)
    | (unfold wCho at hC3 ⊢; simp (disch := omega) only [upP_na]; exact hC3)
    | skip

theorem xg_callI2 {E : xE} {M M' : xM} {X : xX} {pc : Nat} {L : List (Option Value)} {st : List Value} {c n d0 mc ms : Nat} {T : Nat → Nat × Int} {F : Nat → Nat → Int} {I : Nat → Int → Int} {P : Nat → Nat → Option Nat} {Y : Nat → Int → Option Nat} {h : xH} {b i k' mc' ms' : Nat} (q : Nat) (As rest : List Value) (hM : xMi M') (hl : Cond.methodLink M.1.cls i M'.1 ∈ xT) (d1 : decode M.2.1 pc = .ok (.invokespecial i, 3)) (hq : pc + 3 = q)
    (hn : As.length = M'.2.2.2.2) (hst : st = As.reverse ++ .ref b :: rest) (hsum : (rest.map fun v => v.category).sum ≤ 8) (hd : k' + 1 ≤ d0) (hc : c + mc' ≤ mc ∧ n + ms' ≤ ms) (ct : Ct E k' M' mc' ms' (.ref b :: As) h (xNewL2 b T F I P Y))
    (kk : ∀ (T' : Nat → Nat × Int) (F' : Nat → Nat → Int) (I' : Nat → Int → Int) (P' : Nat → Nat → Option Nat) (Y' : Nat → Int → Option Nat), LNew T' F' I' P' Y' b → (∀ j : Int, I' (b + 1) j = 0) → (∀ j : Int, I' (b + 122) j = 0 ∧ I' (b + 123) j = 0) → xG E M (xR d0 mc ms) X q L rest (b + 168, T', F', I', P', Y') (c + mc') (n + ms')) : xG E M (xR d0 mc ms) X pc L st h c n :=
  xg_callI0 q hM hl d1 hq hn hst hsum hd hc ct (fun v h' e => by obtain ⟨rfl, T', F', I', P', Y', rfl, h1, h2, h3⟩ := e; exact kk T' F' I' P' Y' h1 h2 h3)
theorem xg_callIm {E : xE} {M M' : xM} {X : xX} {pc : Nat} {L : List (Option Value)} {st : List Value} {c n d0 mc ms : Nat} {T : Nat → Nat × Int} {F : Nat → Nat → Int} {I : Nat → Int → Int} {P : Nat → Nat → Option Nat} {Y : Nat → Int → Option Nat} {h : xH} {b i k' mc' ms' : Nat} (q : Nat) (As rest : List Value) (hM : xMi M') (hl : Cond.methodLink M.1.cls i M'.1 ∈ xT) (d1 : decode M.2.1 pc = .ok (.invokespecial i, 3)) (hq : pc + 3 = q)
    (hn : As.length = M'.2.2.2.2) (hst : st = As.reverse ++ .ref b :: rest) (hsum : (rest.map fun v => v.category).sum ≤ 8) (hd : k' + 1 ≤ d0) (hc : c + mc' ≤ mc ∧ n + ms' ≤ ms) (ct : Ct E k' M' mc' ms' (.ref b :: As) h (xNewM b T F I P Y))
    (kk : ∀ (T' : Nat → Nat × Int) (F' : Nat → Nat → Int) (I' : Nat → Int → Int) (P' : Nat → Nat → Option Nat), wM T' P' b → (∀ j : Nat, F' b j = if j = 14 then -1 else 0) → (∀ k : Nat, 2 ≤ k → k ≤ 11 → ∀ j : Int, I' (b + k) j = 0) → (∀ x : Nat, x < b → T' x = T x ∧ F' x = F x ∧ I' x = I x ∧ P' x = P x) → xG E M (xR d0 mc ms) X q L rest (b + 12, T', F', upA I' (b + 1) wNew, P', Y) (c + mc') (n + ms')) : xG E M (xR d0 mc ms) X pc L st h c n :=
  xg_callI0 q hM hl d1 hq hn hst hsum hd hc ct (fun v h' e => by obtain ⟨rfl, T', F', I', P', rfl, h1, h2, h3, h4⟩ := e; exact kk T' F' I' P' h1 h2 h3 h4)
theorem w32_New : w32 wNew := by
  intro i; unfold wNew; split <;> omega
/-- the loop's first state -/
theorem LI.beg {o m : Nat} {T : Nat → Nat × Int} {F : Nat → Nat → Int} {I : Nat → Int → Int} {P : Nat → Nat → Option Nat} {Y : Nat → Int → Option Nat} {T' : Nat → Nat × Int} {F' : Nat → Nat → Int} {I' : Nat → Int → Int} {P' : Nat → Nat → Option Nat}
    (hL : LNew T F I P Y o) (h1 : ∀ j : Int, I (o + 1) j = 0) (h2 : ∀ j : Int, I (o + 122) j = 0 ∧ I (o + 123) j = 0) (hm : m = o + 168) (hM : wM T' P' m) (hF : ∀ j : Nat, F' m j = if j = 14 then -1 else 0)
    (hI : ∀ k : Nat, 2 ≤ k → k ≤ 11 → ∀ j : Int, I' (m + k) j = 0) (hw : I' (m + 1) = wNew) (hx : ∀ b : Nat, b < m → T' b = T b ∧ F' b = F b ∧ I' b = I b ∧ P' b = P b) (ho : (T' (m + 12)).1 = 16 ∧ (T' (m + 12)).2 = 1) :
    LI o m (m + 13) T' F' I' P' Y (fun s => if s = 0 then some wNew else none) := by
  subst hm
  obtain ⟨⟨a1, a2, a3, a4⟩, ⟨b1, b2, b3, b4⟩, ⟨c1, c2⟩, ⟨d1, d2⟩, e1, ⟨f1, f2, f3, f4⟩, ⟨g1, g2, g3⟩, ⟨i1, i2⟩, ⟨j1, j2⟩, k1, k2⟩ := hL
  have hT : ∀ b : Nat, b < o + 168 → T' b = T b := fun b hb => (hx b hb).1
  have hF1 : ∀ b : Nat, b < o + 168 → F' b = F b := fun b hb => (hx b hb).2.1
  have hI1 : ∀ b : Nat, b < o + 168 → I' b = I b := fun b hb => (hx b hb).2.2.1
  have hP : ∀ b : Nat, b < o + 168 → P' b = P b := fun b hb => (hx b hb).2.2.2
  have s1 : SNew T' F' I' P' Y (o + 2) := c2.mv (fun b b0 b1 => ⟨hT b (by omega), hF1 b (by omega), hI1 b (by omega), hP b (by omega), rfl⟩)
  have s2 : SNew T' F' I' P' Y (o + 59) := d2.mv (fun b b0 b1 => ⟨hT b (by omega), hF1 b (by omega), hI1 b (by omega), hP b (by omega), rfl⟩)
  have hsl : ∀ s x : Nat, s < 15 → lSl o P' Y s = some x → (s = 0 ∧ x = o + 2) ∨ (s = 1 ∧ x = o + 59) := by
    intro s x hs hl
    unfold lSl at hl
    by_cases q0 : s = 0
    · rw [if_pos q0, hP o (by omega), c1] at hl; cases hl; exact Or.inl ⟨q0, rfl⟩
    rw [if_neg q0] at hl
    by_cases q1 : s = 1
    · rw [if_pos q1, hP o (by omega), d1] at hl; cases hl; exact Or.inr ⟨q1, rfl⟩
    rw [if_neg q1] at hl
    by_cases q2 : s = 2
    · rw [if_pos q2, hP o (by omega), e1] at hl; cases hl
    rw [if_neg q2, f4] at hl; cases hl
  have p16 : ∀ s x : Nat, s < 15 → lSl o P' Y s = some x → P' x 16 = none := by
    intro s x hs hl
    rcases hsl s x hs hl with ⟨-, rfl⟩ | ⟨-, rfl⟩
    · exact s1.2.2.2.2.1
    · exact s2.2.2.2.2.1
  have q1 : ∀ k : Nat, 2 ≤ k → k ≤ 11 → I' (o + 168 + k) = fun _ => 0 := fun k h1 h2 => funext (hI k h1 h2)
  refine ⟨⟨⟨?_, ?_, ?_, ?_, ?_, ?_, ?_, ?_⟩, ⟨?_, ?_, ?_, ?_⟩, ?_, ?_, ?_, ?_⟩, ⟨?_, ?_⟩, ⟨o + 59, ?_⟩, ⟨hM, ho⟩, ⟨?_, ?_, ?_, ?_, ?_⟩, ⟨?_, ?_, ?_, ?_⟩, ⟨?_, ?_⟩, ?_, rfl⟩
  · rw [hT o (by omega)]; exact a1
  · rw [hP o (by omega), hT (o + 1) (by omega)]; exact ⟨a2, a3, a4⟩
  · rw [hP o (by omega), hT (o + 116) (by omega)]; exact ⟨f1, f2, f3⟩
  · unfold wScn at g2 ⊢
    rw [hP o (by omega), hP (o + 117) (by omega), hT (o + 117) (by omega), hT (o + 117 + 1) (by omega), hT (o + 117 + 2) (by omega), hT (o + 117 + 3) (by omega)]; exact ⟨g1, g2⟩
  · unfold wSrd at i2 ⊢
    rw [hP o (by omega), hP (o + 121) (by omega), hT (o + 121) (by omega), hT (o + 121 + 1) (by omega), hT (o + 121 + 2) (by omega)]; exact ⟨i1, i2⟩
  · unfold wLrd at j2 ⊢
    rw [hP o (by omega), hP (o + 124) (by omega), hT (o + 124) (by omega), hT (o + 124 + 1) (by omega), hT (o + 124 + 2) (by omega), hT (o + 124 + 3) (by omega), hT (o + 124 + 4) (by omega)]; exact ⟨j1, j2⟩
  · rw [hP o (by omega)]; exact k1
  · exact wCho.frT k2 (fun b _ hb => ⟨hT b (by omega), hP b (by omega), rfl⟩)
  · intro s x hs hl
    rcases hsl s x hs hl with ⟨-, rfl⟩ | ⟨-, rfl⟩ <;> exact ⟨Or.inl ⟨by omega, by omega⟩, Or.inl (by omega), by omega⟩
  · intro s s' x x' hs hs' hne hl hl'
    rcases hsl s x hs hl with ⟨h3, rfl⟩ | ⟨h3, rfl⟩ <;> rcases hsl s' x' hs' hl' with ⟨h4, rfl⟩ | ⟨h4, rfl⟩ <;> omega
  · intro s x l hs hl hp
    rw [p16 s x hs hl] at hp; cases hp
  · intro s s' x x' l l' hs hs' hl hl' hp
    rw [p16 s x hs hl] at hp; cases hp
  · intro s x hs hl
    rcases hsl s x hs hl with ⟨-, rfl⟩ | ⟨-, rfl⟩
    · exact s1.sr.sw
    · exact s2.sr.sw
  · intro s u hs hu
    by_cases q0 : s = 0
    · subst q0
      cases hu
      exact ⟨o + 2, by unfold lSl; rw [if_pos rfl, hP o (by omega)]; exact c1, s1.sr, wNew_inv⟩
    · simp only [if_neg q0] at hu; cases hu
  · intro j
    rw [hI1 (o + 121 + 1) (by omega), hI1 (o + 121 + 2) (by omega)]
    have h3 := h2 (j : Int)
    have e2 : I (o + 121 + 1) (j : Int) = 0 := h3.1
    have e3 : I (o + 121 + 2) (j : Int) = 0 := h3.2
    rw [e2, e3]; omega
  · omega
  · show some wNew = _; rw [hw]
  · intro s u hs hu
    by_cases q0 : s = 0
    · subst q0; cases hu; decide
    · simp only [if_neg q0] at hu; cases hu
  · rw [hP o (by omega)]; exact d1
  · rw [hF1 o (by omega), b3]; omega
  · rw [hF1 o (by omega), b4]; omega
  · rw [hF, hF1 o (by omega), b4]; rfl
  · rw [hF, hF1 o (by omega), b1]; rfl
  · rw [hF, hF1 o (by omega), b2]; rfl
  · rw [hF1 o (by omega), b1]; omega
  · intro j _ _; rw [hI1 (o + 1) (by omega), h1]; omega
  · rw [hF1 o (by omega), b1]; intro j h3 h4; omega
  · intro j; rw [hI 6 (by omega) (by omega)]; omega
  · rw [q1 2 (by omega) (by omega)]; intro j; show -2147483648 ≤ (0 : Int) ∧ (0 : Int) < 2147483648; omega
  · refine Or.inl ⟨?_, ?_⟩
    · rw [hP o (by omega)]; exact e1
    · rw [hF]; rfl
  · rw [hF1 o (by omega), b4]; exact LU.zero
set_option maxHeartbeats 40000000 in
set_option maxRecDepth 100000 in
theorem law_all {E : xE} {nm : MethodName} {ad adv : Nat → Nat} {sio : Option Nat} {qS v0 : Nat} {tx : String} (hV : xEnv E ad adv sio qS v0 tx) {o b N : Nat} {xs : Nat → Int32} {T : Nat → Nat × Int} {F : Nat → Nat → Int} {I : Nat → Int → Int} {P : Nat → Nat → Option Nat} {Y : Nat → Int → Option Nat} (hE : ∀ u : State, E.2.2.2.2 u → xOld u) (hE2 : ∀ u : State, E.2.2.2.2 u → (Cond.arrayOver (.array .int)).before #[] u = true) (hX : ∀ u : State, E.2.2.2.2 u → va_X b N xs u u.heap ∧ b < E.2.2.2.1) (hN : N ≤ 3072) :
    xG E (mL_law_ nm) (xR 1400 601024 7293034) (xLX E) 0 [some (.ref b), none, none, none, none, none, none] [] (o, T, F, I, P, Y) 0 0 := by
  refine xg_new 3 kc_11 kd_11 kn_RL_8 kw_RX11 dL_law__0 rfl ⟨by omega, by omega⟩ ?_
  refine xg_dup 4 dL_law__3 rfl rfl ?_
  refine xg_callI2 7 [] _ ki_X11_init kl_RL_105 dL_law__4 rfl rfl rfl (Nat.le_of_ble_eq_true rfl) (by omega) ⟨by omega, by omega⟩ (ct_X11_init2 hE hE2 (by rw [upT_at]) rfl) (fun T1 F1 I1 P1 Y1 hN1 hN2 hN3 => ?_)
  refine xg_astoren 8 _ dL_law__7 rfl rfl rfl (Nat.le_of_ble_eq_true rfl) (Or.inr rfl) ?_
  refine xg_new 11 kc_12 kd_12 kn_RL_106 kw_RX12 dL_law__8 rfl ⟨by omega, by omega⟩ ?_
  refine xg_dup 12 dL_law__11 rfl rfl ?_
  refine xg_callIm 15 [] _ ki_X12_init kl_RL_108 dL_law__12 rfl rfl rfl (Nat.le_of_ble_eq_true rfl) (by omega) ⟨by omega, by omega⟩ (ct_X12_init (by rw [upT_at]) rfl (fun j => by rw [up0_at])) (fun T2 F2 I2 P2 hW hF2 hI2 hx => ?_)
  refine xg_astoren 16 _ dL_law__15 rfl rfl rfl (Nat.le_of_ble_eq_true rfl) (Or.inr rfl) ?_
  refine xg_iconst 17 dL_law__16 rfl ?_
  refine xg_nal 19 dL_law__17 rfl (by omega) ⟨by omega, by omega⟩ ?_
  refine xg_astoren 20 _ dL_law__19 rfl rfl rfl (Nat.le_of_ble_eq_true rfl) (Or.inr rfl) ?_
  refine xg_iconst 21 dL_law__20 rfl ?_
  refine xg_istore 23 _ dL_law__21 rfl rfl (Nat.le_of_ble_eq_true rfl) (Or.inr rfl) ?_
  refine law_loop hV hX hN 4001 0 _ _ _ _ _ _ _ _ (fun s => if s = 0 then some wNew else none) ?_ (by omega) (by omega) (by omega) (by omega)
  refine LI.beg (T := T1) (F := F1) (I := I1) (P := P1) (Y := Y1) hN1 hN2 hN3 rfl ?_ ?_ ?_ ?_ ?_ ?_
  · unfold wM at hW ⊢
    simp (disch := omega) only [upT_na]
    exact hW
  · exact hF2
  · intro k h1 h2 j
    simp (disch := omega) only [up0_na, upA_na]
    exact hI2 k h1 h2 j
  · simp (disch := omega) only [up0_na, upA_at]
  · intro b hb
    obtain ⟨e1, e2, e3, e4⟩ := hx b hb
    simp (disch := omega) only [upT_na, up0_na, upA_na, e1, e2, e3, e4, true_and, and_true]
  · rw [upT_at]
    exact ⟨rfl, rfl⟩
