theorem xbit2 {s a c : Nat} (hs : s < 2147483648) (ha : a < 31) (hc : c < 31) : xand (xand (xshr (s : Int) (a : Int)) (xshr (s : Int) (c : Int))) 1 = bI (s.testBit a && s.testBit c) := by
  have h1 : s >>> a ≤ s := Nat.shiftRight_le s a
  have h2 : s >>> c ≤ s := Nat.shiftRight_le s c
  have h3 : (s >>> a) &&& (s >>> c) ≤ s >>> a := Nat.and_le_left
  have h4 : xand (xand (xshr (s : Int) (a : Int)) (xshr (s : Int) (c : Int))) 1 = ((((s >>> a) &&& (s >>> c)) &&& 1 : Nat) : Int) := by
    rw [xshr_nat hs (by omega), xshr_nat hs (by omega), xand_nat (by omega) (by omega)]
    exact xand_nat (b := 1) (by omega) (by omega)
  have h5 : ((s >>> a) &&& (s >>> c)).testBit 0 = (s.testBit a && s.testBit c) := by
    rw [Nat.testBit_and, Nat.testBit_shiftRight, Nat.testBit_shiftRight, Nat.add_zero, Nat.add_zero]
  rw [h4, Nat.and_one_is_mod, ← h5, Nat.testBit_zero]
  have h6 : ((s >>> a) &&& (s >>> c)) % 2 < 2 := Nat.mod_lt _ (by decide)
  by_cases c2 : ((s >>> a) &&& (s >>> c)) % 2 = 1
  · rw [decide_eq_true c2, c2]; rfl
  · rw [decide_eq_false c2, show ((s >>> a) &&& (s >>> c)) % 2 = 0 by omega]; rfl
theorem dX11_greatestPart_0 : decode cX11_greatestPart 0 = .ok (.iconst 0, 1) := by decide +kernel
theorem dX11_greatestPart_1 : decode cX11_greatestPart 1 = .ok (.istore_n 3, 1) := by decide +kernel
theorem dX11_greatestPart_2 : decode cX11_greatestPart 2 = .ok (.iconst 0, 1) := by decide +kernel
theorem dX11_greatestPart_3 : decode cX11_greatestPart 3 = .ok (.istore 4, 2) := by decide +kernel
theorem dX11_greatestPart_5 : decode cX11_greatestPart 5 = .ok (.iload 4, 2) := by decide +kernel
theorem dX11_greatestPart_7 : decode cX11_greatestPart 7 = .ok (.aload_n 0, 1) := by decide +kernel
theorem dX11_greatestPart_8 : decode cX11_greatestPart 8 = .ok (.getfield 23, 3) := by decide +kernel
theorem dX11_greatestPart_11 : decode cX11_greatestPart 11 = .ok (.getfield 314, 3) := by decide +kernel
theorem dX11_greatestPart_14 : decode cX11_greatestPart 14 = .ok (.if_icmp .ge 114, 3) := by decide +kernel
theorem dX11_greatestPart_17 : decode cX11_greatestPart 17 = .ok (.iload 4, 2) := by decide +kernel
theorem dX11_greatestPart_19 : decode cX11_greatestPart 19 = .ok (.bipush 12, 2) := by decide +kernel
theorem dX11_greatestPart_21 : decode cX11_greatestPart 21 = .ok (.if_icmp .ge 107, 3) := by decide +kernel
theorem dX11_greatestPart_24 : decode cX11_greatestPart 24 = .ok (.iconst 0, 1) := by decide +kernel
theorem dX11_greatestPart_25 : decode cX11_greatestPart 25 = .ok (.istore 5, 2) := by decide +kernel
theorem dX11_greatestPart_27 : decode cX11_greatestPart 27 = .ok (.iconst 0, 1) := by decide +kernel
theorem dX11_greatestPart_28 : decode cX11_greatestPart 28 = .ok (.istore 6, 2) := by decide +kernel
theorem dX11_greatestPart_30 : decode cX11_greatestPart 30 = .ok (.iload 6, 2) := by decide +kernel
theorem dX11_greatestPart_32 : decode cX11_greatestPart 32 = .ok (.aload_n 0, 1) := by decide +kernel
theorem dX11_greatestPart_33 : decode cX11_greatestPart 33 = .ok (.getfield 23, 3) := by decide +kernel
theorem dX11_greatestPart_36 : decode cX11_greatestPart 36 = .ok (.getfield 314, 3) := by decide +kernel
theorem dX11_greatestPart_39 : decode cX11_greatestPart 39 = .ok (.if_icmp .ge 76, 3) := by decide +kernel
theorem dX11_greatestPart_42 : decode cX11_greatestPart 42 = .ok (.iload 6, 2) := by decide +kernel
theorem dX11_greatestPart_44 : decode cX11_greatestPart 44 = .ok (.bipush 12, 2) := by decide +kernel
theorem dX11_greatestPart_46 : decode cX11_greatestPart 46 = .ok (.if_icmp .ge 69, 3) := by decide +kernel
theorem dX11_greatestPart_49 : decode cX11_greatestPart 49 = .ok (.aload_n 0, 1) := by decide +kernel
theorem dX11_greatestPart_50 : decode cX11_greatestPart 50 = .ok (.getfield 23, 3) := by decide +kernel
theorem dX11_greatestPart_53 : decode cX11_greatestPart 53 = .ok (.getfield 128, 3) := by decide +kernel
theorem dX11_greatestPart_56 : decode cX11_greatestPart 56 = .ok (.iload 4, 2) := by decide +kernel
theorem dX11_greatestPart_58 : decode cX11_greatestPart 58 = .ok (.aaload, 1) := by decide +kernel
theorem dX11_greatestPart_59 : decode cX11_greatestPart 59 = .ok (.iload_n 2, 1) := by decide +kernel
theorem dX11_greatestPart_60 : decode cX11_greatestPart 60 = .ok (.invokevirtual 166, 3) := by decide +kernel
theorem dX11_greatestPart_63 : decode cX11_greatestPart 63 = .ok (.aload_n 0, 1) := by decide +kernel
theorem dX11_greatestPart_64 : decode cX11_greatestPart 64 = .ok (.getfield 23, 3) := by decide +kernel
theorem dX11_greatestPart_67 : decode cX11_greatestPart 67 = .ok (.getfield 128, 3) := by decide +kernel
theorem dX11_greatestPart_70 : decode cX11_greatestPart 70 = .ok (.iload 6, 2) := by decide +kernel
theorem dX11_greatestPart_72 : decode cX11_greatestPart 72 = .ok (.aaload, 1) := by decide +kernel
theorem dX11_greatestPart_73 : decode cX11_greatestPart 73 = .ok (.iload_n 2, 1) := by decide +kernel
theorem dX11_greatestPart_74 : decode cX11_greatestPart 74 = .ok (.invokevirtual 166, 3) := by decide +kernel
theorem dX11_greatestPart_77 : decode cX11_greatestPart 77 = .ok (.if_icmp .ne 7, 3) := by decide +kernel
theorem dX11_greatestPart_80 : decode cX11_greatestPart 80 = .ok (.iconst 1, 1) := by decide +kernel
theorem dX11_greatestPart_81 : decode cX11_greatestPart 81 = .ok (.goto 4, 3) := by decide +kernel
theorem dX11_greatestPart_84 : decode cX11_greatestPart 84 = .ok (.iconst 0, 1) := by decide +kernel
theorem dX11_greatestPart_85 : decode cX11_greatestPart 85 = .ok (.istore 7, 2) := by decide +kernel
theorem dX11_greatestPart_87 : decode cX11_greatestPart 87 = .ok (.iload 7, 2) := by decide +kernel
theorem dX11_greatestPart_89 : decode cX11_greatestPart 89 = .ok (.ifCond .eq 20, 3) := by decide +kernel
theorem dX11_greatestPart_92 : decode cX11_greatestPart 92 = .ok (.iload_n 1, 1) := by decide +kernel
theorem dX11_greatestPart_93 : decode cX11_greatestPart 93 = .ok (.iload 4, 2) := by decide +kernel
theorem dX11_greatestPart_95 : decode cX11_greatestPart 95 = .ok (.ishr, 1) := by decide +kernel
theorem dX11_greatestPart_96 : decode cX11_greatestPart 96 = .ok (.iload_n 1, 1) := by decide +kernel
theorem dX11_greatestPart_97 : decode cX11_greatestPart 97 = .ok (.iload 6, 2) := by decide +kernel
theorem dX11_greatestPart_99 : decode cX11_greatestPart 99 = .ok (.ishr, 1) := by decide +kernel
theorem dX11_greatestPart_100 : decode cX11_greatestPart 100 = .ok (.iand, 1) := by decide +kernel
theorem dX11_greatestPart_101 : decode cX11_greatestPart 101 = .ok (.iconst 1, 1) := by decide +kernel
theorem dX11_greatestPart_102 : decode cX11_greatestPart 102 = .ok (.iand, 1) := by decide +kernel
theorem dX11_greatestPart_103 : decode cX11_greatestPart 103 = .ok (.ifCond .eq 6, 3) := by decide +kernel
theorem dX11_greatestPart_106 : decode cX11_greatestPart 106 = .ok (.iinc 5 1, 3) := by decide +kernel
theorem dX11_greatestPart_109 : decode cX11_greatestPart 109 = .ok (.iinc 6 1, 3) := by decide +kernel
theorem dX11_greatestPart_112 : decode cX11_greatestPart 112 = .ok (.goto (-82), 3) := by decide +kernel
theorem dX11_greatestPart_115 : decode cX11_greatestPart 115 = .ok (.iload_n 3, 1) := by decide +kernel
theorem dX11_greatestPart_116 : decode cX11_greatestPart 116 = .ok (.iload 5, 2) := by decide +kernel
theorem dX11_greatestPart_118 : decode cX11_greatestPart 118 = .ok (.invokestatic 303, 3) := by decide +kernel
theorem dX11_greatestPart_121 : decode cX11_greatestPart 121 = .ok (.istore_n 3, 1) := by decide +kernel
theorem dX11_greatestPart_122 : decode cX11_greatestPart 122 = .ok (.iinc 4 1, 3) := by decide +kernel
theorem dX11_greatestPart_125 : decode cX11_greatestPart 125 = .ok (.goto (-120), 3) := by decide +kernel
theorem dX11_greatestPart_128 : decode cX11_greatestPart 128 = .ok (.iload_n 3, 1) := by decide +kernel
theorem dX11_greatestPart_129 : decode cX11_greatestPart 129 = .ok (.ireturn, 1) := by decide +kernel
set_option maxHeartbeats 4000000 in
set_option maxRecDepth 100000 in
theorem ct_X11_greatestPart {E : xE} {z : Nat} {T : Nat → Nat × Int} {F : Nat → Nat → Int} {I : Nat → Int → Int} {P : Nat → Nat → Option Nat} {Y : Nat → Int → Option Nat} {o a : Nat} {w : Int → Int} (h1 : (T o).1 = 12) (h3 : P o 3 = some a) (hS : SR T F I P Y a w) {s : Nat} (hs : s < 4096) {key : Int} (hk : 0 ≤ key ∧ key < 60) : Ct E 1 mX11_greatestPart 0 0 [.ref o, J (s : Int), J key] (z, T, F, I, P, Y) (xd (some (J (sPart w s key (wN w)))) (z, T, F, I, P, Y)) := by
  have hO := hS.1.1
  have o0 := hO.2.1
  obtain ⟨hGd, hLw, ⟨π, ⟨hSt, hPm⟩, ⟨hSc, hTl, hJb⟩, hRun, hTab, hOut, hJo⟩, hLv, hLf⟩ := id hS
  obtain ⟨⟨st9, s0, s01, s02⟩, hRows, ⟨s4, s44⟩, ⟨s5, l9, ⟨l0, l1, l2, l3⟩, ⟨l01, l02⟩, ⟨l11, l12⟩, ⟨l21, l22⟩, l31, l32⟩, ⟨s6, s50⟩, ⟨s7, hJou⟩, -⟩ := id hSt
  have p5 : ∀ j : Nat, j < 14 → π j < 14 := hPm.2.2.2.1
  have hw0 : F a 1 = w 0 := hSc.1
  have hwN := wN_i o0.1
  refine Ct.of [some (.ref o), some (J (s : Int)), some (J key), none, none, none, none, none] kt_X11_greatestPart rfl (Nat.le_of_ble_eq_true rfl) rfl (fun d hd => ?_)
  generalize hX : xN E _ _ _ = X
  refine xg_iconst 1 dX11_greatestPart_0 rfl ?_
  refine xg_istoren 2 _ dX11_greatestPart_1 rfl rfl rfl (by decide) (Or.inr rfl) ?_
  refine xg_iconst 3 dX11_greatestPart_2 rfl ?_
  refine xg_istore 5 _ dX11_greatestPart_3 rfl rfl (by decide) (Or.inr rfl) ?_
  have loop5 : ∀ (mm : Nat) (p : Nat), ((p : Int) ≤ w 0) → 20 - (p : Int) < (mm : Int) → xG E mX11_greatestPart (xR d 0 0) X 5 [some (.ref o), some (J (s : Int)), some (J key), some (J (sPart w s key p)), some (J (p : Int)), none, none, none] [] (z, T, F, I, P, Y) 0 0 := by
    intro mm
    induction mm with
    | zero => intro p hp hm; exfalso; omega
    | succ mm iho =>
      intro p hp hm
      have hpb := sPart_bd (w := w) o0.2 s key p
      have hqb := sPart_bd (w := w) o0.2 s key (p + 1)
      have hpr := pPrt_bd w s key (p : Int) (wN w)
      refine xg_iload 7 dX11_greatestPart_5 rfl rfl ?_
      refine xg_aloadn 8 dX11_greatestPart_7 rfl rfl rfl ?_
      refine xg_getP 11 kf_RX11_23 dX11_greatestPart_8 rfl h1 h3 ?_
      refine xg_getI 14 kf_RX11_314 dX11_greatestPart_11 rfl st9 ?_
      rw [hw0]
      refine xg_icge 128 17 dX11_greatestPart_14 rfl rfl (by omega) (fun hb14 => ?_) (fun hb14 => ?_)
      · skip
        refine xg_iloadn 129 dX11_greatestPart_128 rfl rfl rfl ?_
        subst hX
        exact xg_ireturn dX11_greatestPart_129 rfl ⟨Nat.le_refl _, Nat.le_refl _⟩ ⟨by rw [show p = wN w by omega], rfl⟩
      · skip
        refine xg_iload 19 dX11_greatestPart_17 rfl rfl ?_
        refine xg_bipush 21 dX11_greatestPart_19 rfl (by decide) ?_
        refine xg_icge 128 24 dX11_greatestPart_21 rfl rfl (by omega) (fun hb21 => ?_) (fun hb21 => ?_)
        · skip
          refine xg_iloadn 129 dX11_greatestPart_128 rfl rfl rfl ?_
          subst hX
          exact xg_ireturn dX11_greatestPart_129 rfl ⟨Nat.le_refl _, Nat.le_refl _⟩ ⟨by rw [show p = wN w by omega], rfl⟩
        · skip
          refine xg_iconst 25 dX11_greatestPart_24 rfl ?_
          refine xg_istore 27 _ dX11_greatestPart_25 rfl rfl (by decide) (Or.inr rfl) ?_
          refine xg_iconst 28 dX11_greatestPart_27 rfl ?_
          refine xg_istore 30 _ dX11_greatestPart_28 rfl rfl (by decide) (Or.inr rfl) ?_
          have loop30 : ∀ (mm : Nat) (c : Nat), ((c : Int) ≤ w 0) → 20 - (c : Int) < (mm : Int) → xG E mX11_greatestPart (xR d 0 0) X 30 [some (.ref o), some (J (s : Int)), some (J key), some (J (sPart w s key p)), some (J (p : Int)), some (J (pSum (fun b : Int => if s.testBit ((p : Int) : Int).toNat = true ∧ s.testBit b.toNat = true ∧ sTby w ((p : Int) : Int) key = sTby w b key then 1 else 0) c)), some (J (c : Int)), none] [] (z, T, F, I, P, Y) 0 0 := by
            intro mm
            induction mm with
            | zero => intro c hc hm; exfalso; omega
            | succ mm ih =>
              intro c hc hm
              have hcb := pPrt_bd w s key (p : Int) c
              refine xg_iload 32 dX11_greatestPart_30 rfl rfl ?_
              refine xg_aloadn 33 dX11_greatestPart_32 rfl rfl rfl ?_
              refine xg_getP 36 kf_RX11_23 dX11_greatestPart_33 rfl h1 h3 ?_
              refine xg_getI 39 kf_RX11_314 dX11_greatestPart_36 rfl st9 ?_
              rw [hw0]
              refine xg_icge 115 42 dX11_greatestPart_39 rfl rfl (by omega) (fun hb39 => ?_) (fun hb39 => ?_)
              · skip
                refine xg_iloadn 116 dX11_greatestPart_115 rfl rfl rfl ?_
                refine xg_iload 118 dX11_greatestPart_116 rfl rfl ?_
                refine xg_mmax 121 kl_RX11_303 dX11_greatestPart_118 rfl (by omega) (Nat.le_of_ble_eq_true rfl) (by omega) ⟨Nat.le_refl _, Nat.le_refl _⟩ ?_
                refine xg_istoren 122 _ dX11_greatestPart_121 rfl rfl rfl (by decide) (Or.inr rfl) ?_
                refine xg_iinc 125 _ dX11_greatestPart_122 rfl rfl rfl rfl (by decide) (Or.inr rfl) ?_
                refine xg_goto 5 dX11_greatestPart_125 rfl ?_
                exact xg_weak _ (xle_s rfl (xle_s rfl (xle_s rfl (xle_s (congrArg (fun x => some (J x)) (by rw [sPart, show c = wN w by omega]; rfl)) (xle_s (v := J ((p + 1 : Nat) : Int)) (congrArg (fun x => some (J x)) (by omega)) (xle_n (xle_n (xle_n xle_0)))))))) (iho (p + 1) (by omega) (by omega))
              · skip
                refine xg_iload 44 dX11_greatestPart_42 rfl rfl ?_
                refine xg_bipush 46 dX11_greatestPart_44 rfl (by decide) ?_
                refine xg_icge 115 49 dX11_greatestPart_46 rfl rfl (by omega) (fun hb46 => ?_) (fun hb46 => ?_)
                · skip
                  refine xg_iloadn 116 dX11_greatestPart_115 rfl rfl rfl ?_
                  refine xg_iload 118 dX11_greatestPart_116 rfl rfl ?_
                  refine xg_mmax 121 kl_RX11_303 dX11_greatestPart_118 rfl (by omega) (Nat.le_of_ble_eq_true rfl) (by omega) ⟨Nat.le_refl _, Nat.le_refl _⟩ ?_
                  refine xg_istoren 122 _ dX11_greatestPart_121 rfl rfl rfl (by decide) (Or.inr rfl) ?_
                  refine xg_iinc 125 _ dX11_greatestPart_122 rfl rfl rfl rfl (by decide) (Or.inr rfl) ?_
                  refine xg_goto 5 dX11_greatestPart_125 rfl ?_
                  exact xg_weak _ (xle_s rfl (xle_s rfl (xle_s rfl (xle_s (congrArg (fun x => some (J x)) (by rw [sPart, show c = wN w by omega]; rfl)) (xle_s (v := J ((p + 1 : Nat) : Int)) (congrArg (fun x => some (J x)) (by omega)) (xle_n (xle_n (xle_n xle_0)))))))) (iho (p + 1) (by omega) (by omega))
                · skip
                  have hbp : wRow T P (a + 2 + 3 * π p) := hRows _ (p5 p (by omega))
                  have hVp : I (a + 2 + 3 * π p + 1) key = w (201 + 122 * (p : Int) + key) := ((hRun p (by omega)).2.2.2 key hk.1 hk.2).1
                  have hVbp := hO.2.2.2.2.2.2.2.2.2.2.2.2.2.2 (201 + 122 * (p : Int) + key) (by omega) (by omega)
                  have htyp : sTby w (p : Int) key = if w (201 + 122 * (p : Int) + key) = -1 then 101 else w (201 + 122 * (p : Int) + key) := rfl
                  have hbc : wRow T P (a + 2 + 3 * π c) := hRows _ (p5 c (by omega))
                  have hVc : I (a + 2 + 3 * π c + 1) key = w (201 + 122 * (c : Int) + key) := ((hRun c (by omega)).2.2.2 key hk.1 hk.2).1
                  have hVbc := hO.2.2.2.2.2.2.2.2.2.2.2.2.2.2 (201 + 122 * (c : Int) + key) (by omega) (by omega)
                  have htyc : sTby w (c : Int) key = if w (201 + 122 * (c : Int) + key) = -1 then 101 else w (201 + 122 * (c : Int) + key) := rfl
                  refine xg_aloadn 50 dX11_greatestPart_49 rfl rfl rfl ?_
                  refine xg_getP 53 kf_RX11_23 dX11_greatestPart_50 rfl h1 h3 ?_
                  refine xg_getP 56 kf_RX11_128 dX11_greatestPart_53 rfl st9 s0 ?_
                  refine xg_iload 58 dX11_greatestPart_56 rfl rfl ?_
                  refine xg_rald 59 dX11_greatestPart_58 rfl s01 (by rw [s02]; omega) (hPm.1 p (by omega)) ?_
                  refine xg_iloadn 60 dX11_greatestPart_59 rfl rfl rfl ?_
                  refine xg_callV 63 6 [_] _ kv_X6_valueOf ⟨_, _, rfl⟩ kl_RX11_166 dX11_greatestPart_60 rfl hbp.1 (by omega) rfl rfl (Nat.le_of_ble_eq_true rfl) (by omega) ⟨Nat.le_refl _, Nat.le_refl _⟩ (ct_X6_valueOf hbp (by omega)) rfl ?_
                  rw [if_pos (show 0 ≤ key ∧ key < 60 by omega), hVp]
                  refine xg_aloadn 64 dX11_greatestPart_63 rfl rfl rfl ?_
                  refine xg_getP 67 kf_RX11_23 dX11_greatestPart_64 rfl h1 h3 ?_
                  refine xg_getP 70 kf_RX11_128 dX11_greatestPart_67 rfl st9 s0 ?_
                  refine xg_iload 72 dX11_greatestPart_70 rfl rfl ?_
                  refine xg_rald 73 dX11_greatestPart_72 rfl s01 (by rw [s02]; omega) (hPm.1 c (by omega)) ?_
                  refine xg_iloadn 74 dX11_greatestPart_73 rfl rfl rfl ?_
                  refine xg_callV 77 6 [_] _ kv_X6_valueOf ⟨_, _, rfl⟩ kl_RX11_166 dX11_greatestPart_74 rfl hbc.1 (by omega) rfl rfl (Nat.le_of_ble_eq_true rfl) (by omega) ⟨Nat.le_refl _, Nat.le_refl _⟩ (ct_X6_valueOf hbc (by omega)) rfl ?_
                  rw [if_pos (show 0 ≤ key ∧ key < 60 by omega), hVc]
                  refine xg_icne 84 80 dX11_greatestPart_77 rfl rfl (by omega) (fun hb77 => ?_) (fun hb77 => ?_)
                  · skip
                    refine xg_iconst 85 dX11_greatestPart_84 rfl ?_
                    refine xg_istore 87 _ dX11_greatestPart_85 rfl rfl (by decide) (Or.inr rfl) ?_
                    refine xg_iload 89 dX11_greatestPart_87 rfl rfl ?_
                    refine xg_ifeq 109 92 dX11_greatestPart_89 rfl rfl (by omega) (fun hb89 => ?_) (fun hb89 => ?_)
                    · skip
                      refine xg_iinc 112 _ dX11_greatestPart_109 rfl rfl rfl rfl (by decide) (Or.inr rfl) ?_
                      refine xg_goto 30 dX11_greatestPart_112 rfl ?_
                      exact xg_weak _ (xle_s rfl (xle_s rfl (xle_s rfl (xle_s rfl (xle_s rfl (xle_s (congrArg (fun x => some (J x)) (by rw [pSum_s, if_neg (fun q => (by have h9 : sTby w (p : Int) key = sTby w (c : Int) key := q.2.2; rw [htyp, htyc] at h9; split at h9 <;> split at h9 <;> omega)), Int.add_zero])) (xle_s (v := J ((c + 1 : Nat) : Int)) (congrArg (fun x => some (J x)) (by omega)) (xle_n xle_0)))))))) (ih (c + 1) (by omega) (by omega))
                    · exfalso; omega
                  · skip
                    refine xg_iconst 81 dX11_greatestPart_80 rfl ?_
                    refine xg_goto 85 dX11_greatestPart_81 rfl ?_
                    refine xg_istore 87 _ dX11_greatestPart_85 rfl rfl (by decide) (Or.inr rfl) ?_
                    refine xg_iload 89 dX11_greatestPart_87 rfl rfl ?_
                    refine xg_ifeq 109 92 dX11_greatestPart_89 rfl rfl (by omega) (fun hb89 => ?_) (fun hb89 => ?_)
                    · exfalso; omega
                    · skip
                      refine xg_iloadn 93 dX11_greatestPart_92 rfl rfl rfl ?_
                      refine xg_iload 95 dX11_greatestPart_93 rfl rfl ?_
                      refine xg_ishr 96 dX11_greatestPart_95 rfl ?_
                      refine xg_iloadn 97 dX11_greatestPart_96 rfl rfl rfl ?_
                      refine xg_iload 99 dX11_greatestPart_97 rfl rfl ?_
                      refine xg_ishr 100 dX11_greatestPart_99 rfl ?_
                      refine xg_iand 101 dX11_greatestPart_100 rfl ?_
                      refine xg_iconst 102 dX11_greatestPart_101 rfl ?_
                      refine xg_iand 103 dX11_greatestPart_102 rfl ?_
                      rw [xbit2 (by omega) (by omega) (by omega)]
                      refine xg_beq 109 106 dX11_greatestPart_103 rfl rfl (fun hb103 => ?_) (fun hb103 => ?_)
                      · skip
                        refine xg_iinc 112 _ dX11_greatestPart_109 rfl rfl rfl rfl (by decide) (Or.inr rfl) ?_
                        refine xg_goto 30 dX11_greatestPart_112 rfl ?_
                        exact xg_weak _ (xle_s rfl (xle_s rfl (xle_s rfl (xle_s rfl (xle_s rfl (xle_s (congrArg (fun x => some (J x)) (by rw [pSum_s, if_neg (fun q => by have h8 : s.testBit p = true := q.1; have h9 : s.testBit c = true := q.2.1; rw [h8, h9] at hb103; cases hb103), Int.add_zero])) (xle_s (v := J ((c + 1 : Nat) : Int)) (congrArg (fun x => some (J x)) (by omega)) (xle_n xle_0)))))))) (ih (c + 1) (by omega) (by omega))
                      · skip
                        refine xg_iinc 109 _ dX11_greatestPart_106 rfl rfl rfl rfl (by decide) (Or.inr rfl) ?_
                        refine xg_iinc 112 _ dX11_greatestPart_109 rfl rfl rfl rfl (by decide) (Or.inr rfl) ?_
                        refine xg_goto 30 dX11_greatestPart_112 rfl ?_
                        have htb : s.testBit p = true ∧ s.testBit c = true := by simpa using hb103
                        exact xg_weak _ (xle_s rfl (xle_s rfl (xle_s rfl (xle_s rfl (xle_s rfl (xle_s (congrArg (fun x => some (J x)) (by rw [pSum_s, if_pos ⟨htb.1, htb.2, (by show sTby w (p : Int) key = sTby w (c : Int) key; rw [htyp, htyc]; split <;> split <;> omega)⟩])) (xle_s (v := J ((c + 1 : Nat) : Int)) (congrArg (fun x => some (J x)) (by omega)) (xle_n xle_0)))))))) (ih (c + 1) (by omega) (by omega))
          exact xg_weak _ (xle_s rfl (xle_s rfl (xle_s rfl (xle_s rfl (xle_s rfl (xle_s rfl (xle_s rfl (xle_n xle_0)))))))) (loop30 30 0 (by omega) (by omega))
  exact xg_weak _ (xle_s rfl (xle_s rfl (xle_s rfl (xle_s rfl (xle_s rfl (xle_n (xle_n (xle_n xle_0)))))))) (loop5 30 0 (by omega) (by omega))

theorem dX11_look_0 : decode cX11_look 0 = .ok (.aload_n 0, 1) := by decide +kernel
theorem dX11_look_1 : decode cX11_look 1 = .ok (.invokevirtual 308, 3) := by decide +kernel
theorem dX11_look_4 : decode cX11_look 4 = .ok (.istore_n 1, 1) := by decide +kernel
theorem dX11_look_5 : decode cX11_look 5 = .ok (.iload_n 1, 1) := by decide +kernel
theorem dX11_look_6 : decode cX11_look 6 = .ok (.iconst (-1), 1) := by decide +kernel
theorem dX11_look_7 : decode cX11_look 7 = .ok (.if_icmp .ne 11, 3) := by decide +kernel
theorem dX11_look_10 : decode cX11_look 10 = .ok (.new 92, 3) := by decide +kernel
theorem dX11_look_13 : decode cX11_look 13 = .ok (.dup, 1) := by decide +kernel
theorem dX11_look_14 : decode cX11_look 14 = .ok (.invokespecial 94, 3) := by decide +kernel
theorem dX11_look_17 : decode cX11_look 17 = .ok (.athrow, 1) := by decide +kernel
theorem dX11_look_18 : decode cX11_look 18 = .ok (.aload_n 0, 1) := by decide +kernel
theorem dX11_look_19 : decode cX11_look 19 = .ok (.iload_n 1, 1) := by decide +kernel
theorem dX11_look_20 : decode cX11_look 20 = .ok (.invokevirtual 311, 3) := by decide +kernel
theorem dX11_look_23 : decode cX11_look 23 = .ok (.istore_n 2, 1) := by decide +kernel
theorem dX11_look_24 : decode cX11_look 24 = .ok (.iload_n 2, 1) := by decide +kernel
theorem dX11_look_25 : decode cX11_look 25 = .ok (.invokestatic 321, 3) := by decide +kernel
theorem dX11_look_28 : decode cX11_look 28 = .ok (.iconst 2, 1) := by decide +kernel
theorem dX11_look_29 : decode cX11_look 29 = .ok (.if_icmp .ge 5, 3) := by decide +kernel
theorem dX11_look_32 : decode cX11_look 32 = .ok (.iconst (-1), 1) := by decide +kernel
theorem dX11_look_33 : decode cX11_look 33 = .ok (.ireturn, 1) := by decide +kernel
theorem dX11_look_34 : decode cX11_look 34 = .ok (.iconst (-1), 1) := by decide +kernel
theorem dX11_look_35 : decode cX11_look 35 = .ok (.istore_n 3, 1) := by decide +kernel
theorem dX11_look_36 : decode cX11_look 36 = .ok (.bipush 13, 2) := by decide +kernel
theorem dX11_look_38 : decode cX11_look 38 = .ok (.istore 4, 2) := by decide +kernel
theorem dX11_look_40 : decode cX11_look 40 = .ok (.iconst 0, 1) := by decide +kernel
theorem dX11_look_41 : decode cX11_look 41 = .ok (.istore 5, 2) := by decide +kernel
theorem dX11_look_43 : decode cX11_look 43 = .ok (.iload 5, 2) := by decide +kernel
theorem dX11_look_45 : decode cX11_look 45 = .ok (.bipush 60, 2) := by decide +kernel
theorem dX11_look_47 : decode cX11_look 47 = .ok (.if_icmp .ge 32, 3) := by decide +kernel
theorem dX11_look_50 : decode cX11_look 50 = .ok (.aload_n 0, 1) := by decide +kernel
theorem dX11_look_51 : decode cX11_look 51 = .ok (.iload_n 2, 1) := by decide +kernel
theorem dX11_look_52 : decode cX11_look 52 = .ok (.iload 5, 2) := by decide +kernel
theorem dX11_look_54 : decode cX11_look 54 = .ok (.invokevirtual 326, 3) := by decide +kernel
theorem dX11_look_57 : decode cX11_look 57 = .ok (.istore 6, 2) := by decide +kernel
theorem dX11_look_59 : decode cX11_look 59 = .ok (.iload 6, 2) := by decide +kernel
theorem dX11_look_61 : decode cX11_look 61 = .ok (.iload 4, 2) := by decide +kernel
theorem dX11_look_63 : decode cX11_look 63 = .ok (.if_icmp .ge 10, 3) := by decide +kernel
theorem dX11_look_66 : decode cX11_look 66 = .ok (.iload 6, 2) := by decide +kernel
theorem dX11_look_68 : decode cX11_look 68 = .ok (.istore 4, 2) := by decide +kernel
theorem dX11_look_70 : decode cX11_look 70 = .ok (.iload 5, 2) := by decide +kernel
theorem dX11_look_72 : decode cX11_look 72 = .ok (.istore_n 3, 1) := by decide +kernel
theorem dX11_look_73 : decode cX11_look 73 = .ok (.iinc 5 1, 3) := by decide +kernel
theorem dX11_look_76 : decode cX11_look 76 = .ok (.goto (-33), 3) := by decide +kernel
theorem dX11_look_79 : decode cX11_look 79 = .ok (.iload_n 3, 1) := by decide +kernel
theorem dX11_look_80 : decode cX11_look 80 = .ok (.ireturn, 1) := by decide +kernel
set_option maxHeartbeats 4000000 in
set_option maxRecDepth 100000 in
theorem ct_X11_look {E : xE} {z : Nat} {T : Nat → Nat × Int} {F : Nat → Nat → Int} {I : Nat → Int → Int} {P : Nat → Nat → Option Nat} {Y : Nat → Int → Option Nat} {o a : Nat} {w : Int → Int} (h1 : (T o).1 = 12) (h3 : P o 3 = some a) (hS : SR T F I P Y a w) (h0 : P o 0 = some (o + 1)) (ht1 : (T (o + 1)).1 = 14 ∧ (T (o + 1)).2 = 400) (he : 0 ≤ F o 1 ∧ F o 1 ≤ 400) (htb : ∀ j : Int, 0 ≤ j → j < F o 1 → 0 ≤ I (o + 1) j ∧ I (o + 1) j ≤ 255) (hof : oFar o a P) (hV : sTld (I (o + 1)) (F o 1) = true) : Ct E 3 mX11_look 0 0 [.ref o] (z, T, F, I, P, Y) (xd (some (J (sLook w (I (o + 1)) (F o 1)))) (z, T, upF F o 1 0, I, P, Y)) := by
  have hS2 : SR T (upF F o 1 0) I P Y a w := hS.o hof
  have o0 := hS.1.1.2.1
  have hf1 := sFit_lt (w := w) o0.2 (I (o + 1)) (F o 1) 1
  have hbc : xbc ((sFit w (I (o + 1)) (F o 1) 1 : Nat) : Int) = ((nPop 12 (sFit w (I (o + 1)) (F o 1) 1) : Nat) : Int) := xbc_pop ⟨_, hf1⟩
  have hbp : nPop 12 (sFit w (I (o + 1)) (F o 1) 1) ≤ 12 := nPop_le _ _
  refine Ct.of [some (.ref o), none, none, none, none, none, none] kt_X11_look rfl (Nat.le_of_ble_eq_true rfl) rfl (fun d hd => ?_)
  generalize hX : xN E _ _ _ = X
  refine xg_aloadn 1 dX11_look_0 rfl rfl rfl ?_
  refine xg_callV 4 11 [] _ kv_X11_takeRows ⟨_, _, rfl⟩ kl_RX11_308 dX11_look_1 rfl h1 (by omega) rfl rfl (Nat.le_of_ble_eq_true rfl) (by omega) ⟨Nat.le_refl _, Nat.le_refl _⟩ (ct_X11_takeRows h1 h0 ht1 he htb) rfl ?_
  rw [if_pos hV]
  refine xg_istoren 5 _ dX11_look_4 rfl rfl rfl (by decide) (Or.inr rfl) ?_
  refine xg_iloadn 6 dX11_look_5 rfl rfl rfl ?_
  refine xg_iconst 7 dX11_look_6 rfl ?_
  refine xg_icne 18 10 dX11_look_7 rfl rfl (by omega) (fun hb7 => ?_) (fun hb7 => ?_)
  · skip
    refine xg_aloadn 19 dX11_look_18 rfl rfl rfl ?_
    refine xg_iloadn 20 dX11_look_19 rfl rfl rfl ?_
    refine xg_callV 23 11 [_] _ kv_X11_fitting ⟨_, _, rfl⟩ kl_RX11_311 dX11_look_20 rfl h1 (by omega) rfl rfl (Nat.le_of_ble_eq_true rfl) (by omega) ⟨Nat.le_refl _, Nat.le_refl _⟩ (ct_X11_fitting h1 h3 hS2 h0 ht1 he.1 hV) rfl ?_
    refine xg_istoren 24 _ dX11_look_23 rfl rfl rfl (by decide) (Or.inr rfl) ?_
    refine xg_iloadn 25 dX11_look_24 rfl rfl rfl ?_
    refine xg_callS 28 [_] _ ks_J6_bitCount_0f7a4 kl_RX11_321 dX11_look_25 rfl rfl rfl (Nat.le_of_ble_eq_true rfl) (by omega) ⟨Nat.le_refl _, Nat.le_refl _⟩ (ct_J6_bitCount_0f7a4) rfl ?_
    rw [hbc]
    refine xg_iconst 29 dX11_look_28 rfl ?_
    refine xg_icge 34 32 dX11_look_29 rfl rfl (by omega) (fun hb29 => ?_) (fun hb29 => ?_)
    · skip
      refine xg_iconst 35 dX11_look_34 rfl ?_
      refine xg_istoren 36 _ dX11_look_35 rfl rfl rfl (by decide) (Or.inr rfl) ?_
      refine xg_bipush 38 dX11_look_36 rfl (by decide) ?_
      refine xg_istore 40 _ dX11_look_38 rfl rfl (by decide) (Or.inr rfl) ?_
      refine xg_iconst 41 dX11_look_40 rfl ?_
      refine xg_istore 43 _ dX11_look_41 rfl rfl (by decide) (Or.inr rfl) ?_
      have loop43 : ∀ (mm : Nat) (k : Nat) (lst : Int), k ≤ 60 → (lst = (if sLk w (sFit w (I (o + 1)) (F o 1) 1) k = -1 then 13 else sPart w (sFit w (I (o + 1)) (F o 1) 1) (sLk w (sFit w (I (o + 1)) (F o 1) 1) k) (wN w)) ∧ 0 ≤ lst ∧ lst ≤ 13) → 70 - (k : Int) < (mm : Int) → xG E mX11_look (xR d 0 0) X 43 [some (.ref o), some (J (F o 1)), some (J ((sFit w (I (o + 1)) (F o 1) 1) : Nat)), some (J (sLk w (sFit w (I (o + 1)) (F o 1) 1) k)), some (J lst), some (J (k : Int)), none] [] (z, T, upF F o 1 0, I, P, Y) 0 0 := by
        intro mm
        induction mm with
        | zero => intro k lst hk hl hm; exfalso; omega
        | succ mm ih =>
          intro k lst hk hl hm
          have hlb := sLk_bd w (sFit w (I (o + 1)) (F o 1) 1) k
          have hp1 := sPart_bd (w := w) o0.2 (sFit w (I (o + 1)) (F o 1) 1) (k : Int) (wN w)
          refine xg_iload 45 dX11_look_43 rfl rfl ?_
          refine xg_bipush 47 dX11_look_45 rfl (by decide) ?_
          refine xg_icge 79 50 dX11_look_47 rfl rfl (by omega) (fun hb47 => ?_) (fun hb47 => ?_)
          · skip
            refine xg_iloadn 80 dX11_look_79 rfl rfl rfl ?_
            subst hX
            exact xg_ireturn dX11_look_80 rfl ⟨Nat.le_refl _, Nat.le_refl _⟩ ⟨by unfold sLook; rw [if_pos (by rw [hbc]; omega), show k = 60 by omega], rfl⟩
          · skip
            refine xg_aloadn 51 dX11_look_50 rfl rfl rfl ?_
            refine xg_iloadn 52 dX11_look_51 rfl rfl rfl ?_
            refine xg_iload 54 dX11_look_52 rfl rfl ?_
            refine xg_callV 57 11 [_, _] _ kv_X11_greatestPart ⟨_, _, rfl⟩ kl_RX11_326 dX11_look_54 rfl h1 (by omega) rfl rfl (Nat.le_of_ble_eq_true rfl) (by omega) ⟨Nat.le_refl _, Nat.le_refl _⟩ (ct_X11_greatestPart h1 h3 hS2 hf1 (by omega)) rfl ?_
            refine xg_istore 59 _ dX11_look_57 rfl rfl (by decide) (Or.inr rfl) ?_
            refine xg_iload 61 dX11_look_59 rfl rfl ?_
            refine xg_iload 63 dX11_look_61 rfl rfl ?_
            refine xg_icge 73 66 dX11_look_63 rfl rfl (by omega) (fun hb63 => ?_) (fun hb63 => ?_)
            · skip
              refine xg_iinc 76 _ dX11_look_73 rfl rfl rfl rfl (by decide) (Or.inr rfl) ?_
              refine xg_goto 43 dX11_look_76 rfl ?_
              have e9 : sLk w (sFit w (I (o + 1)) (F o 1) 1) (k + 1) = sLk w (sFit w (I (o + 1)) (F o 1) 1) k := by rw [sLk, if_neg (fun q => by rw [hl.1] at hb63; split at hb63 <;> omega)]
              exact xg_weak _ (xle_s rfl (xle_s rfl (xle_s rfl (xle_s (congrArg (fun x => some (J x)) e9.symm) (xle_s rfl (xle_s (v := J ((k + 1 : Nat) : Int)) (congrArg (fun x => some (J x)) (by omega)) (xle_n xle_0))))))) (ih (k + 1) lst (by omega) ⟨by rw [e9]; exact hl.1, hl.2⟩ (by omega))
            · skip
              refine xg_iload 68 dX11_look_66 rfl rfl ?_
              refine xg_istore 70 _ dX11_look_68 rfl rfl (by decide) (Or.inr rfl) ?_
              refine xg_iload 72 dX11_look_70 rfl rfl ?_
              refine xg_istoren 73 _ dX11_look_72 rfl rfl rfl (by decide) (Or.inr rfl) ?_
              refine xg_iinc 76 _ dX11_look_73 rfl rfl rfl rfl (by decide) (Or.inr rfl) ?_
              refine xg_goto 43 dX11_look_76 rfl ?_
              have hq9 : sLk w (sFit w (I (o + 1)) (F o 1) 1) k = -1 ∨ sPart w (sFit w (I (o + 1)) (F o 1) 1) (k : Int) (wN w) < sPart w (sFit w (I (o + 1)) (F o 1) 1) (sLk w (sFit w (I (o + 1)) (F o 1) 1) k) (wN w) := by rw [hl.1] at hb63; split at hb63 <;> omega
              exact xg_weak _ (xle_s rfl (xle_s rfl (xle_s rfl (xle_s (congrArg (fun x => some (J x)) (by rw [sLk, if_pos hq9])) (xle_s rfl (xle_s (v := J ((k + 1 : Nat) : Int)) (congrArg (fun x => some (J x)) (by omega)) (xle_n xle_0))))))) (ih (k + 1) _ (by omega) ⟨by rw [sLk, if_pos hq9, if_neg (by omega)], by omega, by omega⟩ (by omega))
      exact xg_weak _ (xle_s rfl (xle_s rfl (xle_s rfl (xle_s rfl (xle_s rfl (xle_s rfl (xle_n xle_0))))))) (loop43 100 0 13 (by omega) ⟨rfl, by omega, by omega⟩ (by omega))
    · skip
      refine xg_iconst 33 dX11_look_32 rfl ?_
      subst hX
      exact xg_ireturn dX11_look_33 rfl ⟨Nat.le_refl _, Nat.le_refl _⟩ ⟨by unfold sLook; rw [if_neg (by rw [hbc]; omega)], rfl⟩
  · exfalso; omega

