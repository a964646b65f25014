/-! may, likely, look -/
/-- the ledger lies apart from its store -/
def oFar (o a : Nat) (P : Nat → Nat → Option Nat) : Prop := (o < a ∨ a + 57 ≤ o) ∧ ∀ l, P a 16 = some l → o < l ∨ l + 6 ≤ o
theorem SR.o {T : Nat → Nat × Int} {F : Nat → Nat → Int} {I : Nat → Int → Int} {P : Nat → Nat → Option Nat} {Y : Nat → Int → Option Nat} {o a k : Nat} {v : Int} {w : Int → Int} (h : SR T F I P Y a w) (hD : oFar o a P) : SR T (upF F o k v) I P Y a w := by
  obtain ⟨d1, d2⟩ := hD
  refine h.fr ⟨fun b b0 b1 => ⟨rfl, upF_na _ _ _ _ (by omega), rfl, rfl, rfl⟩, fun l hl b b0 b1 => ?_⟩
  have := d2 l hl
  exact ⟨rfl, upF_na _ _ _ _ (by omega), fun _ => rfl, rfl⟩
theorem nSet_zero {p : Nat → Bool} {n : Nat} (h : ∀ i : Nat, i < n → p i = false) : nSet p n = 0 := by
  refine Nat.eq_of_testBit_eq (fun i => ?_)
  rw [nSet_bit, Nat.zero_testBit]
  by_cases c : i < n
  · rw [h i c, Bool.and_false]
  · rw [decide_eq_false c, Bool.false_and]
theorem nLow_at {p : Nat → Bool} {n b : Nat} (hn : n ≤ 12) (hb : b < n) (hp : p b = true) (hl : ∀ i : Nat, i < b → p i = false) : nSet p n ≠ 0 ∧ nLow (nSet p n) = (b : Int) := by
  have q : ∀ i : Nat, (nSet p n).testBit i = (decide (i < n) && p i) := nSet_bit p n
  have q1 : (nSet p n).testBit b = true := by rw [q, hp, decide_eq_true hb]; rfl
  have h0 : nSet p n ≠ 0 := fun c => by rw [c, Nat.zero_testBit] at q1; cases q1
  refine ⟨h0, ?_⟩
  unfold nLow
  rw [if_neg h0]
  congr 1
  have h3 : ¬ sFind (fun r => (nSet p n).testBit r) 12 0 < b := fun c => by
    have h4 := sFind_p (p := fun r => (nSet p n).testBit r) (k := 12) (lo := 0) (by omega)
    have h5 : (nSet p n).testBit (sFind (fun r => (nSet p n).testBit r) 12 0) = true := h4
    rw [q, hl _ c, Bool.and_false] at h5
    cases h5
  have h6 : ¬ b < sFind (fun r => (nSet p n).testBit r) 12 0 := fun c => by
    have h7 := sFind_lt (p := fun r => (nSet p n).testBit r) (k := 12) (lo := 0) (j := b) (by omega) c
    have h8 : (nSet p n).testBit b = false := h7
    rw [q1] at h8
    cases h8
  omega
/-- the best of the runs so far -/
def lkI (W : Int → Int) (r : Nat) (fw best : Int) : Prop := (fw = 2 ∧ best = -1 ∧ ∀ i : Nat, i < r → 2 ≤ W (i : Int)) ∨ ∃ b : Nat, b < r ∧ best = (b : Int) ∧ W (b : Int) = fw ∧ (0 ≤ fw ∧ fw ≤ 1) ∧ (∀ i : Nat, i < r → fw ≤ W (i : Int)) ∧ ∀ i : Nat, i < b → fw < W (i : Int)
theorem lkI.S {W : Int → Int} {r : Nat} {fw best : Int} (h : lkI W r fw best) (h2 : fw ≤ W (r : Int)) : lkI W (r + 1) fw best := by
  rcases h with ⟨a1, a2, a3⟩ | ⟨b, b1, b2, b3, b4, b5, b6⟩
  · exact Or.inl ⟨a1, a2, fun i hi => by
      by_cases e : i = r
      · subst e; omega
      · exact a3 i (by omega)⟩
  · exact Or.inr ⟨b, by omega, b2, b3, b4, fun i hi => by
      by_cases e : i = r
      · subst e; omega
      · exact b5 i (by omega), b6⟩
theorem lkI.N {W : Int → Int} {r : Nat} {fw best : Int} (h : lkI W r fw best) (h2 : W (r : Int) < fw) (h0 : 0 ≤ W (r : Int)) : lkI W (r + 1) (W (r : Int)) (r : Int) := by
  have hf : fw ≤ 2 := by rcases h with ⟨a1, _⟩ | ⟨b, _, _, _, b4, _⟩ <;> omega
  have hg : ∀ i : Nat, i < r → fw ≤ W (i : Int) := by
    rcases h with ⟨a1, a2, a3⟩ | ⟨b, b1, b2, b3, b4, b5, b6⟩
    · intro i hi; have := a3 i hi; omega
    · exact b5
  exact Or.inr ⟨r, by omega, rfl, rfl, by omega, fun i hi => by
      by_cases e : i = r
      · subst e; omega
      · have := hg i (by omega); omega, fun i hi => by have := hg i hi; omega⟩
theorem lkI.fin {w t : Int → Int} {e fw best : Int} (hN : wN w ≤ 12) (h : lkI (fun r => sWrg w t e r) (wN w) fw best) : sLik w t e = best := by
  have hd : ∀ (x : Int) (i : Nat), x < sWrg w t e (i : Int) → decide (sWrg w t e (i : Int) ≤ x) = false := fun x i q => decide_eq_false (by omega)
  unfold sLik sFit
  rcases h with ⟨a1, a2, a3⟩ | ⟨b, b1, b2, b3, b4, b5, b6⟩
  · rw [nSet_zero (fun i hi => hd 0 i (by have : 2 ≤ sWrg w t e (i : Int) := a3 i hi; omega)), nSet_zero (fun i hi => hd 1 i (by have : 2 ≤ sWrg w t e (i : Int) := a3 i hi; omega)), if_neg (fun q => q rfl), if_pos rfl, a2]
  · have b3' : sWrg w t e (b : Int) = fw := b3
    by_cases c : fw = 0
    · obtain ⟨n1, n2⟩ := nLow_at (p := fun r => decide (sWrg w t e (r : Int) ≤ 0)) hN b1 (decide_eq_true (by omega)) (fun i hi => hd 0 i (by have : fw < sWrg w t e (i : Int) := b6 i hi; omega))
      rw [if_pos n1, n2, b2]
    · rw [nSet_zero (p := fun r => decide (sWrg w t e (r : Int) ≤ 0)) (fun i hi => hd 0 i (by have : fw ≤ sWrg w t e (i : Int) := b5 i hi; omega)), if_neg (fun q => q rfl)]
      obtain ⟨n1, n2⟩ := nLow_at (p := fun r => decide (sWrg w t e (r : Int) ≤ 1)) hN b1 (decide_eq_true (by omega)) (fun i hi => hd 1 i (by have : fw < sWrg w t e (i : Int) := b6 i hi; omega))
      rw [if_neg n1, n2, b2]
theorem dX11_fitting_0 : decode cX11_fitting 0 = .ok (.iconst 0, 1) := by decide +kernel
theorem dX11_fitting_1 : decode cX11_fitting 1 = .ok (.istore_n 2, 1) := by decide +kernel
theorem dX11_fitting_2 : decode cX11_fitting 2 = .ok (.iconst 0, 1) := by decide +kernel
theorem dX11_fitting_3 : decode cX11_fitting 3 = .ok (.istore_n 3, 1) := by decide +kernel
theorem dX11_fitting_4 : decode cX11_fitting 4 = .ok (.iload_n 3, 1) := by decide +kernel
theorem dX11_fitting_5 : decode cX11_fitting 5 = .ok (.aload_n 0, 1) := by decide +kernel
theorem dX11_fitting_6 : decode cX11_fitting 6 = .ok (.getfield 23, 3) := by decide +kernel
theorem dX11_fitting_9 : decode cX11_fitting 9 = .ok (.getfield 314, 3) := by decide +kernel
theorem dX11_fitting_12 : decode cX11_fitting 12 = .ok (.if_icmp .ge 39, 3) := by decide +kernel
theorem dX11_fitting_15 : decode cX11_fitting 15 = .ok (.iload_n 3, 1) := by decide +kernel
theorem dX11_fitting_16 : decode cX11_fitting 16 = .ok (.bipush 12, 2) := by decide +kernel
theorem dX11_fitting_18 : decode cX11_fitting 18 = .ok (.if_icmp .ge 33, 3) := by decide +kernel
theorem dX11_fitting_21 : decode cX11_fitting 21 = .ok (.aload_n 0, 1) := by decide +kernel
theorem dX11_fitting_22 : decode cX11_fitting 22 = .ok (.aload_n 0, 1) := by decide +kernel
theorem dX11_fitting_23 : decode cX11_fitting 23 = .ok (.getfield 23, 3) := by decide +kernel
theorem dX11_fitting_26 : decode cX11_fitting 26 = .ok (.getfield 128, 3) := by decide +kernel
theorem dX11_fitting_29 : decode cX11_fitting 29 = .ok (.iload_n 3, 1) := by decide +kernel
theorem dX11_fitting_30 : decode cX11_fitting 30 = .ok (.aaload, 1) := by decide +kernel
theorem dX11_fitting_31 : decode cX11_fitting 31 = .ok (.iload_n 1, 1) := by decide +kernel
theorem dX11_fitting_32 : decode cX11_fitting 32 = .ok (.invokevirtual 317, 3) := by decide +kernel
theorem dX11_fitting_35 : decode cX11_fitting 35 = .ok (.iconst 1, 1) := by decide +kernel
theorem dX11_fitting_36 : decode cX11_fitting 36 = .ok (.if_icmp .gt 9, 3) := by decide +kernel
theorem dX11_fitting_39 : decode cX11_fitting 39 = .ok (.iload_n 2, 1) := by decide +kernel
theorem dX11_fitting_40 : decode cX11_fitting 40 = .ok (.iconst 1, 1) := by decide +kernel
theorem dX11_fitting_41 : decode cX11_fitting 41 = .ok (.iload_n 3, 1) := by decide +kernel
theorem dX11_fitting_42 : decode cX11_fitting 42 = .ok (.ishl, 1) := by decide +kernel
theorem dX11_fitting_43 : decode cX11_fitting 43 = .ok (.ior, 1) := by decide +kernel
theorem dX11_fitting_44 : decode cX11_fitting 44 = .ok (.istore_n 2, 1) := by decide +kernel
theorem dX11_fitting_45 : decode cX11_fitting 45 = .ok (.iinc 3 1, 3) := by decide +kernel
theorem dX11_fitting_48 : decode cX11_fitting 48 = .ok (.goto (-44), 3) := by decide +kernel
theorem dX11_fitting_51 : decode cX11_fitting 51 = .ok (.iload_n 2, 1) := by decide +kernel
theorem dX11_fitting_52 : decode cX11_fitting 52 = .ok (.ireturn, 1) := by decide +kernel
set_option maxHeartbeats 4000000 in
set_option maxRecDepth 100000 in
theorem ct_X11_fitting {E : xE} {z : Nat} {T : Nat → Nat × Int} {F : Nat → Nat → Int} {I : Nat → Int → Int} {P : Nat → Nat → Option Nat} {Y : Nat → Int → Option Nat} {o a : Nat} {w : Int → Int} (h1 : (T o).1 = 12) (h3 : P o 3 = some a) (hS : SR T F I P Y a w) (h0 : P o 0 = some (o + 1)) (ht1 : (T (o + 1)).1 = 14 ∧ (T (o + 1)).2 = 400) {e : Int} (he : 0 ≤ e) (hV : sTld (I (o + 1)) e = true) : Ct E 2 mX11_fitting 0 0 [.ref o, J e] (z, T, F, I, P, Y) (xd (some (J ((sFit w (I (o + 1)) e 1 : Nat)))) (z, T, F, I, P, Y)) := by
  have hO := hS.1.1
  have o0 := hO.2.1
  obtain ⟨hGd, hLw, ⟨π, ⟨hSt, hPm⟩, ⟨hSc, hTl, hJb⟩, hRun, hTab, hOut, hJo⟩, hLv, hLf⟩ := id hS
  obtain ⟨⟨st9, s0, s01, s02⟩, hRows, ⟨s4, s44⟩, ⟨s5, l9, ⟨l0, l1, l2, l3⟩, ⟨l01, l02⟩, ⟨l11, l12⟩, ⟨l21, l22⟩, l31, l32⟩, ⟨s6, s50⟩, ⟨s7, hJou⟩, -⟩ := id hSt
  have p5 : ∀ j : Nat, j < 14 → π j < 14 := hPm.2.2.2.1
  have hw0 : F a 1 = w 0 := hSc.1
  have hwN := wN_i o0.1
  obtain ⟨e1, e2, e3⟩ := sTld_t hV he
  refine Ct.of [some (.ref o), some (J e), none, none] kt_X11_fitting rfl (Nat.le_of_ble_eq_true rfl) rfl (fun d hd => ?_)
  generalize hX : xN E _ _ _ = X
  refine xg_iconst 1 dX11_fitting_0 rfl ?_
  refine xg_istoren 2 _ dX11_fitting_1 rfl rfl rfl (by decide) (Or.inr rfl) ?_
  refine xg_iconst 3 dX11_fitting_2 rfl ?_
  refine xg_istoren 4 _ dX11_fitting_3 rfl rfl rfl (by decide) (Or.inr rfl) ?_
  have loop4 : ∀ (mm : Nat) (r : Nat), (r : Int) ≤ w 0 → 20 - (r : Int) < (mm : Int) → xG E mX11_fitting (xR d 0 0) X 4 [some (.ref o), some (J e), some (J (nSet (fun i : Nat => decide (sWrg w (I (o + 1)) e (i : Int) ≤ 1)) r : Nat)), some (J (r : Int))] [] (z, T, F, I, P, Y) 0 0 := by
    intro mm
    induction mm with
    | zero => intro r hr hm; exfalso; omega
    | succ mm ih =>
      intro r hr hm
      refine xg_iloadn 5 dX11_fitting_4 rfl rfl rfl ?_
      refine xg_aloadn 6 dX11_fitting_5 rfl rfl rfl ?_
      refine xg_getP 9 kf_RX11_23 dX11_fitting_6 rfl h1 h3 ?_
      refine xg_getI 12 kf_RX11_314 dX11_fitting_9 rfl st9 ?_
      rw [hw0]
      refine xg_icge 51 15 dX11_fitting_12 rfl rfl (by omega) (fun hb12 => ?_) (fun hb12 => ?_)
      · skip
        refine xg_iloadn 52 dX11_fitting_51 rfl rfl rfl ?_
        subst hX
        exact xg_ireturn dX11_fitting_52 rfl ⟨Nat.le_refl _, Nat.le_refl _⟩ ⟨by rw [show r = wN w by omega]; rfl, rfl⟩
      · skip
        refine xg_iloadn 16 dX11_fitting_15 rfl rfl rfl ?_
        refine xg_bipush 18 dX11_fitting_16 rfl (by decide) ?_
        refine xg_icge 51 21 dX11_fitting_18 rfl rfl (by omega) (fun hb18 => ?_) (fun hb18 => ?_)
        · skip
          refine xg_iloadn 52 dX11_fitting_51 rfl rfl rfl ?_
          subst hX
          exact xg_ireturn dX11_fitting_52 rfl ⟨Nat.le_refl _, Nat.le_refl _⟩ ⟨by rw [show r = wN w by omega]; rfl, rfl⟩
        · skip
          have hr9 : (r : Int) < w 0 := by omega
          have hb : wRow T P (a + 2 + 3 * π r) := hRows _ (p5 r (by omega))
          have hR := hRun r hr9
          refine xg_aloadn 22 dX11_fitting_21 rfl rfl rfl ?_
          refine xg_aloadn 23 dX11_fitting_22 rfl rfl rfl ?_
          refine xg_getP 26 kf_RX11_23 dX11_fitting_23 rfl h1 h3 ?_
          refine xg_getP 29 kf_RX11_128 dX11_fitting_26 rfl st9 s0 ?_
          refine xg_iloadn 30 dX11_fitting_29 rfl rfl rfl ?_
          refine xg_rald 31 dX11_fitting_30 rfl s01 (by rw [s02]; omega) (hPm.1 r (by omega)) ?_
          refine xg_iloadn 32 dX11_fitting_31 rfl rfl rfl ?_
          refine xg_callV 35 11 [_, _] _ kv_X11_wrongRows ⟨_, _, rfl⟩ kl_RX11_317 dX11_fitting_32 rfl h1 (by omega) rfl rfl (Nat.le_of_ble_eq_true rfl) (by omega) ⟨Nat.le_refl _, Nat.le_refl _⟩ (ct_X11_wrongRows h1 h0 ht1 hb hO (r := (r : Int)) (by omega) (fun k k0 k1 => (hR.2.2.2 k k0 k1).1) he hV) rfl ?_
          have hwb : 0 ≤ sWrg w (I (o + 1)) e (r : Int) ∧ sWrg w (I (o + 1)) e (r : Int) ≤ 400 := by have := sWrg_bd w (I (o + 1)) (r : Int) (e / 2).toNat; unfold sWrg; omega
          refine xg_iconst 36 dX11_fitting_35 rfl ?_
          refine xg_icgt 45 39 dX11_fitting_36 rfl rfl (by omega) (fun hb36 => ?_) (fun hb36 => ?_)
          · skip
            refine xg_iinc 48 _ dX11_fitting_45 rfl rfl rfl rfl (by decide) (Or.inr rfl) ?_
            refine xg_goto 4 dX11_fitting_48 rfl ?_
            exact xg_weak _ (xle_s rfl (xle_s rfl (xle_s (congrArg (fun x => some (J x)) (nSet_no (p := (fun i : Nat => decide (sWrg w (I (o + 1)) e (i : Int) ≤ 1))) (decide_eq_false (by omega)))) (xle_s (v := J ((r + 1 : Nat) : Int)) (congrArg (fun x => some (J x)) (by omega)) xle_0)))) (ih (r + 1) (by omega) (by omega))
          · skip
            refine xg_iloadn 40 dX11_fitting_39 rfl rfl rfl ?_
            refine xg_iconst 41 dX11_fitting_40 rfl ?_
            refine xg_iloadn 42 dX11_fitting_41 rfl rfl rfl ?_
            refine xg_ishl 43 dX11_fitting_42 rfl ?_
            refine xg_ior 44 dX11_fitting_43 rfl ?_
            refine xg_istoren 45 _ dX11_fitting_44 rfl rfl rfl (by decide) (Or.inr rfl) ?_
            refine xg_iinc 48 _ dX11_fitting_45 rfl rfl rfl rfl (by decide) (Or.inr rfl) ?_
            refine xg_goto 4 dX11_fitting_48 rfl ?_
            exact xg_weak _ (xle_s rfl (xle_s rfl (xle_s (congrArg (fun x => some (J x)) (nSet_t (p := (fun i : Nat => decide (sWrg w (I (o + 1)) e (i : Int) ≤ 1))) (decide_eq_true (by omega)) (by omega))) (xle_s (v := J ((r + 1 : Nat) : Int)) (congrArg (fun x => some (J x)) (by omega)) xle_0)))) (ih (r + 1) (by omega) (by omega))
  exact xg_weak _ (xle_s rfl (xle_s rfl (xle_s rfl (xle_s rfl xle_0)))) (loop4 30 0 (by omega) (by omega))

theorem dX11_may_0 : decode cX11_may 0 = .ok (.aload_n 0, 1) := by decide +kernel
theorem dX11_may_1 : decode cX11_may 1 = .ok (.invokevirtual 308, 3) := by decide +kernel
theorem dX11_may_4 : decode cX11_may 4 = .ok (.istore_n 1, 1) := by decide +kernel
theorem dX11_may_5 : decode cX11_may 5 = .ok (.iload_n 1, 1) := by decide +kernel
theorem dX11_may_6 : decode cX11_may 6 = .ok (.iconst (-1), 1) := by decide +kernel
theorem dX11_may_7 : decode cX11_may 7 = .ok (.if_icmp .ne 11, 3) := by decide +kernel
theorem dX11_may_10 : decode cX11_may 10 = .ok (.new 92, 3) := by decide +kernel
theorem dX11_may_13 : decode cX11_may 13 = .ok (.dup, 1) := by decide +kernel
theorem dX11_may_14 : decode cX11_may 14 = .ok (.invokespecial 94, 3) := by decide +kernel
theorem dX11_may_17 : decode cX11_may 17 = .ok (.athrow, 1) := by decide +kernel
theorem dX11_may_18 : decode cX11_may 18 = .ok (.aload_n 0, 1) := by decide +kernel
theorem dX11_may_19 : decode cX11_may 19 = .ok (.iload_n 1, 1) := by decide +kernel
theorem dX11_may_20 : decode cX11_may 20 = .ok (.invokevirtual 311, 3) := by decide +kernel
theorem dX11_may_23 : decode cX11_may 23 = .ok (.ireturn, 1) := by decide +kernel
set_option maxHeartbeats 4000000 in
set_option maxRecDepth 100000 in
theorem ct_X11_may {E : xE} {z : Nat} {T : Nat → Nat × Int} {F : Nat → Nat → Int} {I : Nat → Int → Int} {P : Nat → Nat → Option Nat} {Y : Nat → Int → Option Nat} {o a : Nat} {w : Int → Int} (h1 : (T o).1 = 12) (h3 : P o 3 = some a) (hS : SR T F I P Y a w) (h0 : P o 0 = some (o + 1)) (ht1 : (T (o + 1)).1 = 14 ∧ (T (o + 1)).2 = 400) (he : 0 ≤ F o 1 ∧ F o 1 ≤ 400) (htb : ∀ j : Int, 0 ≤ j → j < F o 1 → 0 ≤ I (o + 1) j ∧ I (o + 1) j ≤ 255) (hof : oFar o a P) (hV : sTld (I (o + 1)) (F o 1) = true) : Ct E 3 mX11_may 0 0 [.ref o] (z, T, F, I, P, Y) (xd (some (J ((sFit w (I (o + 1)) (F o 1) 1 : Nat)))) (z, T, upF F o 1 0, I, P, Y)) := by
  have hS2 : SR T (upF F o 1 0) I P Y a w := hS.o hof
  refine Ct.of [some (.ref o), none] kt_X11_may rfl (Nat.le_of_ble_eq_true rfl) rfl (fun d hd => ?_)
  generalize hX : xN E _ _ _ = X
  refine xg_aloadn 1 dX11_may_0 rfl rfl rfl ?_
  refine xg_callV 4 11 [] _ kv_X11_takeRows ⟨_, _, rfl⟩ kl_RX11_308 dX11_may_1 rfl h1 (by omega) rfl rfl (Nat.le_of_ble_eq_true rfl) (by omega) ⟨Nat.le_refl _, Nat.le_refl _⟩ (ct_X11_takeRows h1 h0 ht1 he htb) rfl ?_
  rw [if_pos hV]
  refine xg_istoren 5 _ dX11_may_4 rfl rfl rfl (by decide) (Or.inr rfl) ?_
  refine xg_iloadn 6 dX11_may_5 rfl rfl rfl ?_
  refine xg_iconst 7 dX11_may_6 rfl ?_
  refine xg_icne 18 10 dX11_may_7 rfl rfl (by omega) (fun hb7 => ?_) (fun hb7 => ?_)
  · skip
    refine xg_aloadn 19 dX11_may_18 rfl rfl rfl ?_
    refine xg_iloadn 20 dX11_may_19 rfl rfl rfl ?_
    refine xg_callV 23 11 [_] _ kv_X11_fitting ⟨_, _, rfl⟩ kl_RX11_311 dX11_may_20 rfl h1 (by omega) rfl rfl (Nat.le_of_ble_eq_true rfl) (by omega) ⟨Nat.le_refl _, Nat.le_refl _⟩ (ct_X11_fitting h1 h3 hS2 h0 ht1 he.1 hV) rfl ?_
    subst hX
    exact xg_ireturn dX11_may_23 rfl ⟨Nat.le_refl _, Nat.le_refl _⟩ ⟨rfl, rfl⟩
  · exfalso; omega

theorem dX11_likely_0 : decode cX11_likely 0 = .ok (.aload_n 0, 1) := by decide +kernel
theorem dX11_likely_1 : decode cX11_likely 1 = .ok (.invokevirtual 308, 3) := by decide +kernel
theorem dX11_likely_4 : decode cX11_likely 4 = .ok (.istore_n 1, 1) := by decide +kernel
theorem dX11_likely_5 : decode cX11_likely 5 = .ok (.iload_n 1, 1) := by decide +kernel
theorem dX11_likely_6 : decode cX11_likely 6 = .ok (.iconst (-1), 1) := by decide +kernel
theorem dX11_likely_7 : decode cX11_likely 7 = .ok (.if_icmp .ne 11, 3) := by decide +kernel
theorem dX11_likely_10 : decode cX11_likely 10 = .ok (.new 92, 3) := by decide +kernel
theorem dX11_likely_13 : decode cX11_likely 13 = .ok (.dup, 1) := by decide +kernel
theorem dX11_likely_14 : decode cX11_likely 14 = .ok (.invokespecial 94, 3) := by decide +kernel
theorem dX11_likely_17 : decode cX11_likely 17 = .ok (.athrow, 1) := by decide +kernel
theorem dX11_likely_18 : decode cX11_likely 18 = .ok (.iconst 2, 1) := by decide +kernel
theorem dX11_likely_19 : decode cX11_likely 19 = .ok (.istore_n 2, 1) := by decide +kernel
theorem dX11_likely_20 : decode cX11_likely 20 = .ok (.iconst (-1), 1) := by decide +kernel
theorem dX11_likely_21 : decode cX11_likely 21 = .ok (.istore_n 3, 1) := by decide +kernel
theorem dX11_likely_22 : decode cX11_likely 22 = .ok (.iconst 0, 1) := by decide +kernel
theorem dX11_likely_23 : decode cX11_likely 23 = .ok (.istore 4, 2) := by decide +kernel
theorem dX11_likely_25 : decode cX11_likely 25 = .ok (.iload 4, 2) := by decide +kernel
theorem dX11_likely_27 : decode cX11_likely 27 = .ok (.aload_n 0, 1) := by decide +kernel
theorem dX11_likely_28 : decode cX11_likely 28 = .ok (.getfield 23, 3) := by decide +kernel
theorem dX11_likely_31 : decode cX11_likely 31 = .ok (.getfield 314, 3) := by decide +kernel
theorem dX11_likely_34 : decode cX11_likely 34 = .ok (.if_icmp .ge 45, 3) := by decide +kernel
theorem dX11_likely_37 : decode cX11_likely 37 = .ok (.iload 4, 2) := by decide +kernel
theorem dX11_likely_39 : decode cX11_likely 39 = .ok (.bipush 12, 2) := by decide +kernel
theorem dX11_likely_41 : decode cX11_likely 41 = .ok (.if_icmp .ge 38, 3) := by decide +kernel
theorem dX11_likely_44 : decode cX11_likely 44 = .ok (.aload_n 0, 1) := by decide +kernel
theorem dX11_likely_45 : decode cX11_likely 45 = .ok (.aload_n 0, 1) := by decide +kernel
theorem dX11_likely_46 : decode cX11_likely 46 = .ok (.getfield 23, 3) := by decide +kernel
theorem dX11_likely_49 : decode cX11_likely 49 = .ok (.getfield 128, 3) := by decide +kernel
theorem dX11_likely_52 : decode cX11_likely 52 = .ok (.iload 4, 2) := by decide +kernel
theorem dX11_likely_54 : decode cX11_likely 54 = .ok (.aaload, 1) := by decide +kernel
theorem dX11_likely_55 : decode cX11_likely 55 = .ok (.iload_n 1, 1) := by decide +kernel
theorem dX11_likely_56 : decode cX11_likely 56 = .ok (.invokevirtual 317, 3) := by decide +kernel
theorem dX11_likely_59 : decode cX11_likely 59 = .ok (.istore 5, 2) := by decide +kernel
theorem dX11_likely_61 : decode cX11_likely 61 = .ok (.iload 5, 2) := by decide +kernel
theorem dX11_likely_63 : decode cX11_likely 63 = .ok (.iload_n 2, 1) := by decide +kernel
theorem dX11_likely_64 : decode cX11_likely 64 = .ok (.if_icmp .ge 9, 3) := by decide +kernel
theorem dX11_likely_67 : decode cX11_likely 67 = .ok (.iload 5, 2) := by decide +kernel
theorem dX11_likely_69 : decode cX11_likely 69 = .ok (.istore_n 2, 1) := by decide +kernel
theorem dX11_likely_70 : decode cX11_likely 70 = .ok (.iload 4, 2) := by decide +kernel
theorem dX11_likely_72 : decode cX11_likely 72 = .ok (.istore_n 3, 1) := by decide +kernel
theorem dX11_likely_73 : decode cX11_likely 73 = .ok (.iinc 4 1, 3) := by decide +kernel
theorem dX11_likely_76 : decode cX11_likely 76 = .ok (.goto (-51), 3) := by decide +kernel
theorem dX11_likely_79 : decode cX11_likely 79 = .ok (.iload_n 3, 1) := by decide +kernel
theorem dX11_likely_80 : decode cX11_likely 80 = .ok (.ireturn, 1) := by decide +kernel
set_option maxHeartbeats 4000000 in
set_option maxRecDepth 100000 in
theorem ct_X11_likely {E : xE} {z : Nat} {T : Nat → Nat × Int} {F : Nat → Nat → Int} {I : Nat → Int → Int} {P : Nat → Nat → Option Nat} {Y : Nat → Int → Option Nat} {o a : Nat} {w : Int → Int} (h1 : (T o).1 = 12) (h3 : P o 3 = some a) (hS : SR T F I P Y a w) (h0 : P o 0 = some (o + 1)) (ht1 : (T (o + 1)).1 = 14 ∧ (T (o + 1)).2 = 400) (he : 0 ≤ F o 1 ∧ F o 1 ≤ 400) (htb : ∀ j : Int, 0 ≤ j → j < F o 1 → 0 ≤ I (o + 1) j ∧ I (o + 1) j ≤ 255) (hof : oFar o a P) (hV : sTld (I (o + 1)) (F o 1) = true) : Ct E 2 mX11_likely 0 0 [.ref o] (z, T, F, I, P, Y) (xd (some (J (sLik w (I (o + 1)) (F o 1)))) (z, T, upF F o 1 0, I, P, Y)) := by
  have hS2 : SR T (upF F o 1 0) I P Y a w := hS.o hof
  have hO := hS.1.1
  have o0 := hO.2.1
  obtain ⟨hGd, hLw, ⟨π, ⟨hSt, hPm⟩, ⟨hSc, hTl, hJb⟩, hRun, hTab, hOut, hJo⟩, hLv, hLf⟩ := id hS2
  obtain ⟨⟨st9, s0, s01, s02⟩, hRows, ⟨s4, s44⟩, ⟨s5, l9, ⟨l0, l1, l2, l3⟩, ⟨l01, l02⟩, ⟨l11, l12⟩, ⟨l21, l22⟩, l31, l32⟩, ⟨s6, s50⟩, ⟨s7, hJou⟩, -⟩ := id hSt
  have p5 : ∀ j : Nat, j < 14 → π j < 14 := hPm.2.2.2.1
  have hw0 : upF F o 1 0 a 1 = w 0 := hSc.1
  have hwN := wN_i o0.1
  obtain ⟨e1, e2, e3⟩ := sTld_t hV he.1
  refine Ct.of [some (.ref o), none, none, none, none, none] kt_X11_likely rfl (Nat.le_of_ble_eq_true rfl) rfl (fun d hd => ?_)
  generalize hX : xN E _ _ _ = X
  refine xg_aloadn 1 dX11_likely_0 rfl rfl rfl ?_
  refine xg_callV 4 11 [] _ kv_X11_takeRows ⟨_, _, rfl⟩ kl_RX11_308 dX11_likely_1 rfl h1 (by omega) rfl rfl (Nat.le_of_ble_eq_true rfl) (by omega) ⟨Nat.le_refl _, Nat.le_refl _⟩ (ct_X11_takeRows h1 h0 ht1 he htb) rfl ?_
  rw [if_pos hV]
  refine xg_istoren 5 _ dX11_likely_4 rfl rfl rfl (by decide) (Or.inr rfl) ?_
  refine xg_iloadn 6 dX11_likely_5 rfl rfl rfl ?_
  refine xg_iconst 7 dX11_likely_6 rfl ?_
  refine xg_icne 18 10 dX11_likely_7 rfl rfl (by omega) (fun hb7 => ?_) (fun hb7 => ?_)
  · skip
    refine xg_iconst 19 dX11_likely_18 rfl ?_
    refine xg_istoren 20 _ dX11_likely_19 rfl rfl rfl (by decide) (Or.inr rfl) ?_
    refine xg_iconst 21 dX11_likely_20 rfl ?_
    refine xg_istoren 22 _ dX11_likely_21 rfl rfl rfl (by decide) (Or.inr rfl) ?_
    refine xg_iconst 23 dX11_likely_22 rfl ?_
    refine xg_istore 25 _ dX11_likely_23 rfl rfl (by decide) (Or.inr rfl) ?_
    have loop25 : ∀ (mm : Nat) (r : Nat) (fw best : Int), (r : Int) ≤ w 0 → (0 ≤ fw ∧ fw ≤ 2) → lkI (fun r => sWrg w (I (o + 1)) (F o 1) r) r fw best → 20 - (r : Int) < (mm : Int) → xG E mX11_likely (xR d 0 0) X 25 [some (.ref o), some (J (F o 1)), some (J fw), some (J best), some (J (r : Int)), none] [] (z, T, upF F o 1 0, I, P, Y) 0 0 := by
      intro mm
      induction mm with
      | zero => intro r fw best hr hfw hlk hm; exfalso; omega
      | succ mm ih =>
        intro r fw best hr hfw hlk hm
        refine xg_iload 27 dX11_likely_25 rfl rfl ?_
        refine xg_aloadn 28 dX11_likely_27 rfl rfl rfl ?_
        refine xg_getP 31 kf_RX11_23 dX11_likely_28 rfl h1 h3 ?_
        refine xg_getI 34 kf_RX11_314 dX11_likely_31 rfl st9 ?_
        rw [hw0]
        refine xg_icge 79 37 dX11_likely_34 rfl rfl (by omega) (fun hb34 => ?_) (fun hb34 => ?_)
        · skip
          refine xg_iloadn 80 dX11_likely_79 rfl rfl rfl ?_
          subst hX
          refine xg_ireturn dX11_likely_80 rfl ⟨Nat.le_refl _, Nat.le_refl _⟩ ?_
          rw [show r = wN w by omega] at hlk
          exact ⟨by rw [lkI.fin (by omega) hlk], rfl⟩
        · skip
          refine xg_iload 39 dX11_likely_37 rfl rfl ?_
          refine xg_bipush 41 dX11_likely_39 rfl (by decide) ?_
          refine xg_icge 79 44 dX11_likely_41 rfl rfl (by omega) (fun hb41 => ?_) (fun hb41 => ?_)
          · skip
            refine xg_iloadn 80 dX11_likely_79 rfl rfl rfl ?_
            subst hX
            refine xg_ireturn dX11_likely_80 rfl ⟨Nat.le_refl _, Nat.le_refl _⟩ ?_
            rw [show r = wN w by omega] at hlk
            exact ⟨by rw [lkI.fin (by omega) hlk], rfl⟩
          · skip
            have hr9 : (r : Int) < w 0 := by omega
            have hb : wRow T P (a + 2 + 3 * π r) := hRows _ (p5 r (by omega))
            have hR := hRun r hr9
            refine xg_aloadn 45 dX11_likely_44 rfl rfl rfl ?_
            refine xg_aloadn 46 dX11_likely_45 rfl rfl rfl ?_
            refine xg_getP 49 kf_RX11_23 dX11_likely_46 rfl h1 h3 ?_
            refine xg_getP 52 kf_RX11_128 dX11_likely_49 rfl st9 s0 ?_
            refine xg_iload 54 dX11_likely_52 rfl rfl ?_
            refine xg_rald 55 dX11_likely_54 rfl s01 (by rw [s02]; omega) (hPm.1 r (by omega)) ?_
            refine xg_iloadn 56 dX11_likely_55 rfl rfl rfl ?_
            refine xg_callV 59 11 [_, _] _ kv_X11_wrongRows ⟨_, _, rfl⟩ kl_RX11_317 dX11_likely_56 rfl h1 (by omega) rfl rfl (Nat.le_of_ble_eq_true rfl) (by omega) ⟨Nat.le_refl _, Nat.le_refl _⟩ (ct_X11_wrongRows h1 h0 ht1 hb hO (r := (r : Int)) (by omega) (fun k k0 k1 => (hR.2.2.2 k k0 k1).1) he.1 hV) rfl ?_
            have hwb : 0 ≤ sWrg w (I (o + 1)) (F o 1) (r : Int) ∧ sWrg w (I (o + 1)) (F o 1) (r : Int) ≤ 400 := by have := sWrg_bd w (I (o + 1)) (r : Int) (F o 1 / 2).toNat; unfold sWrg; omega
            refine xg_istore 61 _ dX11_likely_59 rfl rfl (by decide) (Or.inr rfl) ?_
            refine xg_iload 63 dX11_likely_61 rfl rfl ?_
            refine xg_iloadn 64 dX11_likely_63 rfl rfl rfl ?_
            refine xg_icge 73 67 dX11_likely_64 rfl rfl (by omega) (fun hb64 => ?_) (fun hb64 => ?_)
            · skip
              refine xg_iinc 76 _ dX11_likely_73 rfl rfl rfl rfl (by decide) (Or.inr rfl) ?_
              refine xg_goto 25 dX11_likely_76 rfl ?_
              exact xg_weak _ (xle_s rfl (xle_s rfl (xle_s rfl (xle_s rfl (xle_s (v := J ((r + 1 : Nat) : Int)) (congrArg (fun x => some (J x)) (by omega)) (xle_n xle_0)))))) (ih (r + 1) fw best (by omega) hfw (hlk.S (by show fw ≤ sWrg w _ _ _; omega)) (by omega))
            · skip
              refine xg_iload 69 dX11_likely_67 rfl rfl ?_
              refine xg_istoren 70 _ dX11_likely_69 rfl rfl rfl (by decide) (Or.inr rfl) ?_
              refine xg_iload 72 dX11_likely_70 rfl rfl ?_
              refine xg_istoren 73 _ dX11_likely_72 rfl rfl rfl (by decide) (Or.inr rfl) ?_
              refine xg_iinc 76 _ dX11_likely_73 rfl rfl rfl rfl (by decide) (Or.inr rfl) ?_
              refine xg_goto 25 dX11_likely_76 rfl ?_
              exact xg_weak _ (xle_s rfl (xle_s rfl (xle_s rfl (xle_s rfl (xle_s (v := J ((r + 1 : Nat) : Int)) (congrArg (fun x => some (J x)) (by omega)) (xle_n xle_0)))))) (ih (r + 1) (sWrg w (I (o + 1)) (F o 1) (r : Int)) (r : Int) (by omega) (by omega) (lkI.N (W := (fun r => sWrg w (I (o + 1)) (F o 1) r)) hlk (by show sWrg w _ _ _ < fw; omega) hwb.1) (by omega))
    exact xg_weak _ (xle_s rfl (xle_s rfl (xle_s rfl (xle_s rfl (xle_s rfl (xle_n xle_0)))))) (loop25 30 0 2 (-1) (by omega) (by omega) (Or.inl ⟨rfl, rfl, fun i hi => absurd hi (Nat.not_lt_zero i)⟩) (by omega))
  · exfalso; omega

