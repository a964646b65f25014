/-! more asks of the ledger -/
theorem sMstR_eq {i g f g' : Int → Int} (h1 : ∀ k : Nat, k < 60 → i (k : Int) = f (k : Int)) (h2 : ∀ k : Nat, k < 60 → f (k : Int) ≠ -1 → g (k : Int) = g' (k : Int)) : ∀ n : Nat, n ≤ 60 → sMstR i g n = pMost f g' n
  | 0, _ => rfl
  | n + 1, h => by
    rw [sMstR, pMost, sMstR_eq h1 h2 n (by omega), h1 n (by omega)]
    by_cases c : f (n : Int) = -1
    · rw [if_pos c, if_pos c]
    · rw [if_neg c, if_neg c, h2 n (by omega) c]
      split <;> omega
theorem pEn_4 {w : Int → Int} (h : wRn w) : ∀ n : Nat, (n : Int) ≤ w 0 → pEn w n 0 + pEn w n 1 + pEn w n 2 + pEn w n 3 = pSum (fun r => sEnt w (201 + 122 * r)) n
  | 0, _ => rfl
  | n + 1, hn => by
    have h1 := pEn_4 h n (by omega)
    have h2 := (h.1 n (by omega)).1
    have e : ∀ j : Int, pEn w (n + 1) j = pEn w n j + (if w (199 + 122 * (n : Int)) = j then sEnt w (201 + 122 * (n : Int)) else 0) := fun j => rfl
    rw [e, e, e, e, pSum_s, ← h1]
    rcases (show w (199 + 122 * (n : Int)) = 0 ∨ w (199 + 122 * (n : Int)) = 1 ∨ w (199 + 122 * (n : Int)) = 2 ∨ w (199 + 122 * (n : Int)) = 3 by omega) with c | c | c | c <;> rw [c] <;> simp <;> omega
theorem sAllE_eq {w : Int → Int} (h : wRn w) (hN : 0 ≤ w 0 ∧ w 0 ≤ 12) : pSum (fun l => sEntIn w (sRuns w l)) 4 = sAllE w := by
  have h1 := pEn_4 h (wN w) (by rw [wN_i hN.1]; omega)
  have h2 : sAllE w = pSum (fun r => sEnt w (201 + 122 * r)) (wN w) := by
    unfold sAllE sEntIn
    refine pSum_congr (fun j hj => ?_)
    rw [if_pos (by rw [show ((j : Int)).toNat = j by omega, Nat.testBit_two_pow_sub_one]; exact decide_eq_true hj)]
  rw [h2, ← h1]
  show ((((0 + sEntIn w (sRuns w ((0 : Nat) : Int))) + sEntIn w (sRuns w ((1 : Nat) : Int))) + sEntIn w (sRuns w ((2 : Nat) : Int))) + sEntIn w (sRuns w ((3 : Nat) : Int))) = _
  rw [sEntIn_en, sEntIn_en, sEntIn_en, sEntIn_en]
  show 0 + pEn w (wN w) 0 + pEn w (wN w) 1 + pEn w (wN w) 2 + pEn w (wN w) 3 = _
  omega
theorem zRt_p {a b : Int} (h : 0 < b) : zRt a b = 100 * a / b := by unfold zRt; rw [if_neg (by omega), Int.mul_comm]
theorem sOver_t {w : Int → Int} (h : 0 ≤ w 9) : zRt (w 8) (w 9) = sOver w true := by
  unfold zRt sOver
  by_cases c : w 9 = 0
  · rw [if_pos (by omega), if_pos (by simpa using c)]
  · rw [if_neg (by omega), if_neg (by simpa using c), Int.mul_comm]; simp
theorem sOver_f {w : Int → Int} : zRt (sEnt w 19 + sAllE w) (sFndN w) = sOver w false := by
  have h := sFndN_bd w
  unfold zRt sOver
  by_cases c : sFndN w = 0
  · rw [if_pos (by omega), if_pos (by simpa using c)]
  · rw [if_neg (by omega), if_neg (by simpa using c), Int.mul_comm]; simp
theorem dX11_run_0 : decode cX11_run 0 = .ok (.aload_n 0, 1) := by decide +kernel
theorem dX11_run_1 : decode cX11_run 1 = .ok (.getfield 23, 3) := by decide +kernel
theorem dX11_run_4 : decode cX11_run 4 = .ok (.iload_n 1, 1) := by decide +kernel
theorem dX11_run_5 : decode cX11_run 5 = .ok (.invokevirtual 121, 3) := by decide +kernel
theorem dX11_run_8 : decode cX11_run 8 = .ok (.ifCond .ne 11, 3) := by decide +kernel
theorem dX11_run_11 : decode cX11_run 11 = .ok (.new 125, 3) := by decide +kernel
theorem dX11_run_14 : decode cX11_run 14 = .ok (.dup, 1) := by decide +kernel
theorem dX11_run_15 : decode cX11_run 15 = .ok (.invokespecial 127, 3) := by decide +kernel
theorem dX11_run_18 : decode cX11_run 18 = .ok (.athrow, 1) := by decide +kernel
theorem dX11_run_19 : decode cX11_run 19 = .ok (.aload_n 0, 1) := by decide +kernel
theorem dX11_run_20 : decode cX11_run 20 = .ok (.getfield 23, 3) := by decide +kernel
theorem dX11_run_23 : decode cX11_run 23 = .ok (.getfield 128, 3) := by decide +kernel
theorem dX11_run_26 : decode cX11_run 26 = .ok (.iload_n 1, 1) := by decide +kernel
theorem dX11_run_27 : decode cX11_run 27 = .ok (.aaload, 1) := by decide +kernel
theorem dX11_run_28 : decode cX11_run 28 = .ok (.astore_n 3, 1) := by decide +kernel
theorem dX11_run_29 : decode cX11_run 29 = .ok (.iload_n 2, 1) := by decide +kernel
theorem dX11_run_30 : decode cX11_run 30 = .ok (.tableswitch 77 0 4 #[34, 39, 44, 49, 62], 34) := by decide +kernel
theorem dX11_run_64 : decode cX11_run 64 = .ok (.aload_n 3, 1) := by decide +kernel
theorem dX11_run_65 : decode cX11_run 65 = .ok (.getfield 132, 3) := by decide +kernel
theorem dX11_run_68 : decode cX11_run 68 = .ok (.ireturn, 1) := by decide +kernel
theorem dX11_run_69 : decode cX11_run 69 = .ok (.aload_n 3, 1) := by decide +kernel
theorem dX11_run_70 : decode cX11_run 70 = .ok (.getfield 137, 3) := by decide +kernel
theorem dX11_run_73 : decode cX11_run 73 = .ok (.ireturn, 1) := by decide +kernel
theorem dX11_run_74 : decode cX11_run 74 = .ok (.aload_n 3, 1) := by decide +kernel
theorem dX11_run_75 : decode cX11_run 75 = .ok (.invokevirtual 140, 3) := by decide +kernel
theorem dX11_run_78 : decode cX11_run 78 = .ok (.ireturn, 1) := by decide +kernel
theorem dX11_run_79 : decode cX11_run 79 = .ok (.aload_n 3, 1) := by decide +kernel
theorem dX11_run_80 : decode cX11_run 80 = .ok (.getfield 144, 3) := by decide +kernel
theorem dX11_run_83 : decode cX11_run 83 = .ok (.ifCond .eq 7, 3) := by decide +kernel
theorem dX11_run_86 : decode cX11_run 86 = .ok (.iconst 1, 1) := by decide +kernel
theorem dX11_run_87 : decode cX11_run 87 = .ok (.goto 4, 3) := by decide +kernel
theorem dX11_run_90 : decode cX11_run 90 = .ok (.iconst 0, 1) := by decide +kernel
theorem dX11_run_91 : decode cX11_run 91 = .ok (.ireturn, 1) := by decide +kernel
theorem dX11_run_92 : decode cX11_run 92 = .ok (.aload_n 3, 1) := by decide +kernel
theorem dX11_run_93 : decode cX11_run 93 = .ok (.getfield 137, 3) := by decide +kernel
theorem dX11_run_96 : decode cX11_run 96 = .ok (.aload_n 0, 1) := by decide +kernel
theorem dX11_run_97 : decode cX11_run 97 = .ok (.getfield 23, 3) := by decide +kernel
theorem dX11_run_100 : decode cX11_run 100 = .ok (.invokevirtual 148, 3) := by decide +kernel
theorem dX11_run_103 : decode cX11_run 103 = .ok (.invokestatic 151, 3) := by decide +kernel
theorem dX11_run_106 : decode cX11_run 106 = .ok (.ireturn, 1) := by decide +kernel
theorem dX11_run_107 : decode cX11_run 107 = .ok (.new 155, 3) := by decide +kernel
theorem dX11_run_110 : decode cX11_run 110 = .ok (.dup, 1) := by decide +kernel
theorem dX11_run_111 : decode cX11_run 111 = .ok (.invokespecial 157, 3) := by decide +kernel
theorem dX11_run_114 : decode cX11_run 114 = .ok (.athrow, 1) := by decide +kernel
set_option maxHeartbeats 4000000 in
set_option maxRecDepth 100000 in
theorem ct_X11_run {E : xE} {z : Nat} {T : Nat → Nat × Int} {F : Nat → Nat → Int} {I : Nat → Int → Int} {P : Nat → Nat → Option Nat} {Y : Nat → Int → Option Nat} {o a : Nat} {w : Int → Int} (h1 : (T o).1 = 12) (h3 : P o 3 = some a) (hS : SR T F I P Y a w) (hr9 : wRn w) {r : Nat} (hr : (r : Int) < w 0) {x : Int} (hx : 0 ≤ x ∧ x ≤ 4) (hA : 0 < sAllE w) : Ct E 1 mX11_run 0 0 [.ref o, J (r : Int), J x] (z, T, F, I, P, Y) (xd (some (J (sRunA w r x))) (z, T, F, I, P, Y)) := by
  have hO := hS.1.1
  have o0 := hO.2.1
  obtain ⟨hGd, hLw, ⟨π, ⟨hSt, hPm⟩, ⟨hSc, hTl, hJb⟩, hRun, hTab, hOut, hJo⟩, hLv, hLf⟩ := id hS
  obtain ⟨⟨st9, s0, s01, s02⟩, hRows, ⟨s4, s44⟩, ⟨s5, l9, ⟨l0, l1, l2, l3⟩, ⟨l01, l02⟩, ⟨l11, l12⟩, ⟨l21, l22⟩, l31, l32⟩, ⟨s6, s50⟩, ⟨s7, hJou⟩, -⟩ := id hSt
  have p5 : ∀ j : Nat, j < 14 → π j < 14 := hPm.2.2.2.1
  have hw0 : F a 1 = w 0 := hSc.1
  have hb : wRow T P (a + 2 + 3 * π r) := hRows _ (p5 r (by omega))
  have hR := hRun r hr
  have hLvl := (hr9.1 r hr).1
  have hI01 := (hr9.1 r hr).2.1
  have hEb := sEnt_bd w (201 + 122 * (r : Int))
  have hE2 : F (a + 2 + 3 * π r) 2 = sEnt w (201 + 122 * (r : Int)) := hR.2.2.1
  have hF3 := hR.1
  have hF4 := hR.2.1
  have hAb := sAllE_bd (w := w) o0.2
  refine Ct.of [some (.ref o), some (J (r : Int)), some (J x), none] kt_X11_run rfl (Nat.le_of_ble_eq_true rfl) rfl (fun d hd => ?_)
  generalize hX : xN E _ _ _ = X
  refine xg_aloadn 1 dX11_run_0 rfl rfl rfl ?_
  refine xg_getP 4 kf_RX11_23 dX11_run_1 rfl h1 h3 ?_
  refine xg_iloadn 5 dX11_run_4 rfl rfl rfl ?_
  refine xg_callV 8 8 [_] _ kv_X8_hasRun ⟨_, _, rfl⟩ kl_RX11_121 dX11_run_5 rfl st9 (by omega) rfl rfl (Nat.le_of_ble_eq_true rfl) (by omega) ⟨Nat.le_refl _, Nat.le_refl _⟩ (ct_X8_hasRun st9 (by omega) (by omega)) rfl ?_
  rw [hw0]
  refine xg_dne 19 11 dX11_run_8 rfl rfl (fun hb8 => ?_) (fun hb8 => ?_)
  · skip
    refine xg_aloadn 20 dX11_run_19 rfl rfl rfl ?_
    refine xg_getP 23 kf_RX11_23 dX11_run_20 rfl h1 h3 ?_
    refine xg_getP 26 kf_RX11_128 dX11_run_23 rfl st9 s0 ?_
    refine xg_iloadn 27 dX11_run_26 rfl rfl rfl ?_
    refine xg_rald 28 dX11_run_27 rfl s01 (by rw [s02]; omega) (hPm.1 r (by omega)) ?_
    refine xg_astoren 29 _ dX11_run_28 rfl rfl rfl (by decide) (Or.inr rfl) ?_
    refine xg_iloadn 30 dX11_run_29 rfl rfl rfl ?_
    rcases (show x = 0 ∨ x = 1 ∨ x = 2 ∨ x = 3 ∨ x = 4 ∨ (x < 0 ∨ 4 < x) by omega) with ht | ht | ht | ht | ht | ht
    · refine xg_tin (o := 34) 64 dX11_run_30 (by omega) ⟨by omega, by omega⟩ (by rw [show (x - 0).toNat = 0 by omega]; rfl) rfl ?_
      refine xg_aloadn 65 dX11_run_64 rfl rfl rfl ?_
      refine xg_getI 68 kf_RX11_132 dX11_run_65 rfl hb.1 ?_
      subst hX
      refine xg_ireturn dX11_run_68 rfl ⟨Nat.le_refl _, Nat.le_refl _⟩ ?_
      subst ht
      exact ⟨by rw [hF3]; unfold sRunA; rw [if_pos rfl], rfl⟩
    · refine xg_tin (o := 39) 69 dX11_run_30 (by omega) ⟨by omega, by omega⟩ (by rw [show (x - 0).toNat = 1 by omega]; rfl) rfl ?_
      refine xg_aloadn 70 dX11_run_69 rfl rfl rfl ?_
      refine xg_getI 73 kf_RX11_137 dX11_run_70 rfl hb.1 ?_
      subst hX
      refine xg_ireturn dX11_run_73 rfl ⟨Nat.le_refl _, Nat.le_refl _⟩ ?_
      subst ht
      exact ⟨by rw [hE2]; unfold sRunA; rw [if_neg (by decide), if_pos rfl], rfl⟩
    · refine xg_tin (o := 44) 74 dX11_run_30 (by omega) ⟨by omega, by omega⟩ (by rw [show (x - 0).toNat = 2 by omega]; rfl) rfl ?_
      refine xg_aloadn 75 dX11_run_74 rfl rfl rfl ?_
      refine xg_callV 78 6 [] _ kv_X6_mostRewritten ⟨_, _, rfl⟩ kl_RX11_140 dX11_run_75 rfl hb.1 (by omega) rfl rfl (Nat.le_of_ble_eq_true rfl) (by omega) ⟨Nat.le_refl _, Nat.le_refl _⟩ (ct_X6_mostRewritten2 hb (fun j j0 j1 => by rw [(hR.2.2.2 j j0 j1).1]; exact hO.2.2.2.2.2.2.2.2.2.2.2.2.2.2 _ (by omega) (by omega)) (fun j j0 j1 hj => by rw [(hR.2.2.2 j j0 j1).1] at hj; rw [(hR.2.2.2 j j0 j1).2 hj]; exact hO.2.2.2.2.2.2.2.2.2.2.2.2.2.2 _ (by omega) (by omega))) rfl ?_
      subst hX
      refine xg_ireturn dX11_run_78 rfl ⟨Nat.le_refl _, Nat.le_refl _⟩ ?_
      subst ht
      exact ⟨by rw [sMstR_eq (f := fun k => w (201 + 122 * (r : Int) + k)) (g' := fun k => w (261 + 122 * (r : Int) + k)) (fun k hk => (hR.2.2.2 k (by omega) (by omega)).1) (fun k hk hf => (hR.2.2.2 k (by omega) (by omega)).2 hf) 60 (by omega)]; unfold sRunA; rw [if_neg (by decide), if_neg (by decide), if_pos rfl]; rfl, rfl⟩
    · refine xg_tin (o := 49) 79 dX11_run_30 (by omega) ⟨by omega, by omega⟩ (by rw [show (x - 0).toNat = 3 by omega]; rfl) rfl ?_
      refine xg_aloadn 80 dX11_run_79 rfl rfl rfl ?_
      refine xg_getI 83 kf_RX11_144 dX11_run_80 rfl hb.1 ?_
      rw [hF4]
      refine xg_ifeq 90 86 dX11_run_83 rfl rfl (by omega) (fun hb83 => ?_) (fun hb83 => ?_)
      · skip
        refine xg_iconst 91 dX11_run_90 rfl ?_
        subst hX
        refine xg_ireturn dX11_run_91 rfl ⟨Nat.le_refl _, Nat.le_refl _⟩ ?_
        subst ht
        exact ⟨by unfold sRunA; rw [if_neg (by decide), if_neg (by decide), if_neg (by decide), if_pos rfl]; exact congrArg (fun v => some (J v)) (bI_f (by omega)).symm, rfl⟩
      · skip
        refine xg_iconst 87 dX11_run_86 rfl ?_
        refine xg_goto 91 dX11_run_87 rfl ?_
        subst hX
        refine xg_ireturn dX11_run_91 rfl ⟨Nat.le_refl _, Nat.le_refl _⟩ ?_
        subst ht
        exact ⟨by unfold sRunA; rw [if_neg (by decide), if_neg (by decide), if_neg (by decide), if_pos rfl]; exact congrArg (fun v => some (J v)) (bI_t (by omega)).symm, rfl⟩
    · refine xg_tin (o := 62) 92 dX11_run_30 (by omega) ⟨by omega, by omega⟩ (by rw [show (x - 0).toNat = 4 by omega]; rfl) rfl ?_
      refine xg_aloadn 93 dX11_run_92 rfl rfl rfl ?_
      refine xg_getI 96 kf_RX11_137 dX11_run_93 rfl hb.1 ?_
      refine xg_aloadn 97 dX11_run_96 rfl rfl rfl ?_
      refine xg_getP 100 kf_RX11_23 dX11_run_97 rfl h1 h3 ?_
      refine xg_callV 103 8 [] _ kv_X8_entriesOfRuns ⟨_, _, rfl⟩ kl_RX11_148 dX11_run_100 rfl st9 (by omega) rfl rfl (Nat.le_of_ble_eq_true rfl) (by omega) ⟨Nat.le_refl _, Nat.le_refl _⟩ (ct_X8_entriesOfRuns hS) rfl ?_
      rw [sAllE_eq hr9 o0, hE2]
      refine xg_callS 106 [_, _] _ ks_X11_ratio kl_RX11_151 dX11_run_103 rfl rfl rfl (Nat.le_of_ble_eq_true rfl) (by omega) ⟨Nat.le_refl _, Nat.le_refl _⟩ (ct_X11_ratio (by omega) (by omega)) rfl ?_
      subst hX
      refine xg_ireturn dX11_run_106 rfl ⟨Nat.le_refl _, Nat.le_refl _⟩ ?_
      subst ht
      exact ⟨by rw [zRt_p hA]; unfold sRunA; rw [if_neg (by decide), if_neg (by decide), if_neg (by decide), if_neg (by decide)], rfl⟩
    · refine xg_tout 107 dX11_run_30 (by omega) ht rfl ?_
      exfalso; omega
  · exfalso; omega

theorem dX11_level_0 : decode cX11_level 0 = .ok (.iload_n 1, 1) := by decide +kernel
theorem dX11_level_1 : decode cX11_level 1 = .ok (.ifCond .lt 8, 3) := by decide +kernel
theorem dX11_level_4 : decode cX11_level 4 = .ok (.iload_n 1, 1) := by decide +kernel
theorem dX11_level_5 : decode cX11_level 5 = .ok (.iconst 4, 1) := by decide +kernel
theorem dX11_level_6 : decode cX11_level 6 = .ok (.if_icmp .lt 11, 3) := by decide +kernel
theorem dX11_level_9 : decode cX11_level 9 = .ok (.new 125, 3) := by decide +kernel
theorem dX11_level_12 : decode cX11_level 12 = .ok (.dup, 1) := by decide +kernel
theorem dX11_level_13 : decode cX11_level 13 = .ok (.invokespecial 127, 3) := by decide +kernel
theorem dX11_level_16 : decode cX11_level 16 = .ok (.athrow, 1) := by decide +kernel
theorem dX11_level_17 : decode cX11_level 17 = .ok (.iload_n 2, 1) := by decide +kernel
theorem dX11_level_18 : decode cX11_level 18 = .ok (.tableswitch 80 0 3 #[30, 43, 56, 71], 30) := by decide +kernel
theorem dX11_level_48 : decode cX11_level 48 = .ok (.aload_n 0, 1) := by decide +kernel
theorem dX11_level_49 : decode cX11_level 49 = .ok (.getfield 23, 3) := by decide +kernel
theorem dX11_level_52 : decode cX11_level 52 = .ok (.getfield 172, 3) := by decide +kernel
theorem dX11_level_55 : decode cX11_level 55 = .ok (.getfield 176, 3) := by decide +kernel
theorem dX11_level_58 : decode cX11_level 58 = .ok (.iload_n 1, 1) := by decide +kernel
theorem dX11_level_59 : decode cX11_level 59 = .ok (.iaload, 1) := by decide +kernel
theorem dX11_level_60 : decode cX11_level 60 = .ok (.ireturn, 1) := by decide +kernel
theorem dX11_level_61 : decode cX11_level 61 = .ok (.aload_n 0, 1) := by decide +kernel
theorem dX11_level_62 : decode cX11_level 62 = .ok (.getfield 23, 3) := by decide +kernel
theorem dX11_level_65 : decode cX11_level 65 = .ok (.getfield 172, 3) := by decide +kernel
theorem dX11_level_68 : decode cX11_level 68 = .ok (.getfield 181, 3) := by decide +kernel
theorem dX11_level_71 : decode cX11_level 71 = .ok (.iload_n 1, 1) := by decide +kernel
theorem dX11_level_72 : decode cX11_level 72 = .ok (.iaload, 1) := by decide +kernel
theorem dX11_level_73 : decode cX11_level 73 = .ok (.ireturn, 1) := by decide +kernel
theorem dX11_level_74 : decode cX11_level 74 = .ok (.aload_n 0, 1) := by decide +kernel
theorem dX11_level_75 : decode cX11_level 75 = .ok (.getfield 23, 3) := by decide +kernel
theorem dX11_level_78 : decode cX11_level 78 = .ok (.getfield 172, 3) := by decide +kernel
theorem dX11_level_81 : decode cX11_level 81 = .ok (.getfield 184, 3) := by decide +kernel
theorem dX11_level_84 : decode cX11_level 84 = .ok (.iload_n 1, 1) := by decide +kernel
theorem dX11_level_85 : decode cX11_level 85 = .ok (.ishr, 1) := by decide +kernel
theorem dX11_level_86 : decode cX11_level 86 = .ok (.iconst 1, 1) := by decide +kernel
theorem dX11_level_87 : decode cX11_level 87 = .ok (.iand, 1) := by decide +kernel
theorem dX11_level_88 : decode cX11_level 88 = .ok (.ireturn, 1) := by decide +kernel
theorem dX11_level_89 : decode cX11_level 89 = .ok (.aload_n 0, 1) := by decide +kernel
theorem dX11_level_90 : decode cX11_level 90 = .ok (.getfield 23, 3) := by decide +kernel
theorem dX11_level_93 : decode cX11_level 93 = .ok (.iload_n 1, 1) := by decide +kernel
theorem dX11_level_94 : decode cX11_level 94 = .ok (.invokevirtual 187, 3) := by decide +kernel
theorem dX11_level_97 : decode cX11_level 97 = .ok (.ireturn, 1) := by decide +kernel
theorem dX11_level_98 : decode cX11_level 98 = .ok (.new 155, 3) := by decide +kernel
theorem dX11_level_101 : decode cX11_level 101 = .ok (.dup, 1) := by decide +kernel
theorem dX11_level_102 : decode cX11_level 102 = .ok (.invokespecial 157, 3) := by decide +kernel
theorem dX11_level_105 : decode cX11_level 105 = .ok (.athrow, 1) := by decide +kernel
set_option maxHeartbeats 4000000 in
set_option maxRecDepth 100000 in
theorem ct_X11_level {E : xE} {z : Nat} {T : Nat → Nat × Int} {F : Nat → Nat → Int} {I : Nat → Int → Int} {P : Nat → Nat → Option Nat} {Y : Nat → Int → Option Nat} {o a : Nat} {w : Int → Int} (h1 : (T o).1 = 12) (h3 : P o 3 = some a) (hS : SR T F I P Y a w) (hr9 : wRn w) {l : Nat} (hl : l < 4) {x : Int} (hx : 0 ≤ x ∧ x ≤ 3) : Ct E 3 mX11_level 0 0 [.ref o, J (l : Int), J x] (z, T, F, I, P, Y) (xQ a (some (J (sLevA w l x))) z T F I P Y w) := by
  have hO := hS.1.1
  have o0 := hO.2.1
  obtain ⟨hGd, hLw, ⟨π, ⟨hSt, hPm⟩, ⟨hSc, hTl, hJb⟩, hRun, hTab, hOut, hJo⟩, hLv, hLf⟩ := id hS
  obtain ⟨⟨st9, s0, s01, s02⟩, hRows, ⟨s4, s44⟩, ⟨s5, l9, ⟨l0, l1, l2, l3⟩, ⟨l01, l02⟩, ⟨l11, l12⟩, ⟨l21, l22⟩, l31, l32⟩, ⟨s6, s50⟩, ⟨s7, hJou⟩, -⟩ := id hSt
  have p5 : ∀ j : Nat, j < 14 → π j < 14 := hPm.2.2.2.1
  have hw0 : F a 1 = w 0 := hSc.1
  have hdl := sDueN_lt w
  have hlv := hLv.1 l hl
  refine Ct.of [some (.ref o), some (J (l : Int)), some (J x)] kt_X11_level rfl (Nat.le_of_ble_eq_true rfl) rfl (fun d hd => ?_)
  generalize hX : xN E _ _ _ = X
  refine xg_iloadn 1 dX11_level_0 rfl rfl rfl ?_
  refine xg_iflt 9 4 dX11_level_1 rfl rfl (by omega) (fun hb1 => ?_) (fun hb1 => ?_)
  · exfalso; omega
  · skip
    refine xg_iloadn 5 dX11_level_4 rfl rfl rfl ?_
    refine xg_iconst 6 dX11_level_5 rfl ?_
    refine xg_iclt 17 9 dX11_level_6 rfl rfl (by omega) (fun hb6 => ?_) (fun hb6 => ?_)
    · skip
      refine xg_iloadn 18 dX11_level_17 rfl rfl rfl ?_
      rcases (show x = 0 ∨ x = 1 ∨ x = 2 ∨ x = 3 ∨ (x < 0 ∨ 3 < x) by omega) with ht | ht | ht | ht | ht
      · refine xg_tin (o := 30) 48 dX11_level_18 (by omega) ⟨by omega, by omega⟩ (by rw [show (x - 0).toNat = 0 by omega]; rfl) rfl ?_
        refine xg_aloadn 49 dX11_level_48 rfl rfl rfl ?_
        refine xg_getP 52 kf_RX11_23 dX11_level_49 rfl h1 h3 ?_
        refine xg_getP 55 kf_RX11_172 dX11_level_52 rfl st9 s5 ?_
        refine xg_getP 58 kf_RX11_176 dX11_level_55 rfl l9 l0 ?_
        refine xg_iloadn 59 dX11_level_58 rfl rfl rfl ?_
        refine xg_iald 60 dX11_level_59 rfl l01 (by rw [l02]; omega) ?_
        subst hX
        refine xg_ireturn dX11_level_60 rfl ⟨Nat.le_refl _, Nat.le_refl _⟩ ?_
        subst ht
        exact ⟨by rw [hlv.1]; unfold sLevA; rw [if_pos rfl], _, _, _, _, rfl, hS, SF.rf⟩
      · refine xg_tin (o := 43) 61 dX11_level_18 (by omega) ⟨by omega, by omega⟩ (by rw [show (x - 0).toNat = 1 by omega]; rfl) rfl ?_
        refine xg_aloadn 62 dX11_level_61 rfl rfl rfl ?_
        refine xg_getP 65 kf_RX11_23 dX11_level_62 rfl h1 h3 ?_
        refine xg_getP 68 kf_RX11_172 dX11_level_65 rfl st9 s5 ?_
        refine xg_getP 71 kf_RX11_181 dX11_level_68 rfl l9 l2 ?_
        refine xg_iloadn 72 dX11_level_71 rfl rfl rfl ?_
        refine xg_iald 73 dX11_level_72 rfl l21 (by rw [l22]; omega) ?_
        subst hX
        refine xg_ireturn dX11_level_73 rfl ⟨Nat.le_refl _, Nat.le_refl _⟩ ?_
        subst ht
        exact ⟨by rw [hlv.2.2.1]; unfold sLevA; rw [if_neg (by decide), if_pos rfl], _, _, _, _, rfl, hS, SF.rf⟩
      · refine xg_tin (o := 56) 74 dX11_level_18 (by omega) ⟨by omega, by omega⟩ (by rw [show (x - 0).toNat = 2 by omega]; rfl) rfl ?_
        refine xg_aloadn 75 dX11_level_74 rfl rfl rfl ?_
        refine xg_getP 78 kf_RX11_23 dX11_level_75 rfl h1 h3 ?_
        refine xg_getP 81 kf_RX11_172 dX11_level_78 rfl st9 s5 ?_
        refine xg_getI 84 kf_RX11_184 dX11_level_81 rfl l9 ?_
        refine xg_iloadn 85 dX11_level_84 rfl rfl rfl ?_
        refine xg_ishr 86 dX11_level_85 rfl ?_
        refine xg_iconst 87 dX11_level_86 rfl ?_
        refine xg_iand 88 dX11_level_87 rfl ?_
        subst hX
        refine xg_ireturn dX11_level_88 rfl ⟨Nat.le_refl _, Nat.le_refl _⟩ ?_
        subst ht
        exact ⟨by rw [hLv.2.1, xbit (by omega) (by omega), sDueN_bit w hl]; unfold sLevA; rw [if_neg (by decide), if_neg (by decide), if_pos rfl], _, _, _, _, rfl, hS, SF.rf⟩
      · refine xg_tin (o := 71) 89 dX11_level_18 (by omega) ⟨by omega, by omega⟩ (by rw [show (x - 0).toNat = 3 by omega]; rfl) rfl ?_
        refine xg_aloadn 90 dX11_level_89 rfl rfl rfl ?_
        refine xg_getP 93 kf_RX11_23 dX11_level_90 rfl h1 h3 ?_
        refine xg_iloadn 94 dX11_level_93 rfl rfl rfl ?_
        refine xg_callVq 97 8 [_] _ kv_X8_worthOf ⟨_, _, rfl⟩ kl_RX11_187 dX11_level_94 rfl st9 (by omega) rfl rfl (Nat.le_of_ble_eq_true rfl) (by omega) ⟨Nat.le_refl _, Nat.le_refl _⟩ (ct_X8_worthOf hS hr9 hl) rfl (fun Fk1 Ik1 Pk1 Yk1 hSk1 hFk1 => ?_)
        subst hX
        refine xg_ireturn dX11_level_97 rfl ⟨Nat.le_refl _, Nat.le_refl _⟩ ?_
        subst ht
        exact ⟨by unfold sLevA; rw [if_neg (by decide), if_neg (by decide), if_neg (by decide)], _, _, _, _, rfl, hSk1, hFk1⟩
      · refine xg_tout 98 dX11_level_18 (by omega) ht rfl ?_
        exfalso; omega
    · exfalso; omega

theorem dX11_job_0 : decode cX11_job 0 = .ok (.iload_n 1, 1) := by decide +kernel
theorem dX11_job_1 : decode cX11_job 1 = .ok (.ifCond .lt 8, 3) := by decide +kernel
theorem dX11_job_4 : decode cX11_job 4 = .ok (.iload_n 1, 1) := by decide +kernel
theorem dX11_job_5 : decode cX11_job 5 = .ok (.iconst 4, 1) := by decide +kernel
theorem dX11_job_6 : decode cX11_job 6 = .ok (.if_icmp .le 11, 3) := by decide +kernel
theorem dX11_job_9 : decode cX11_job 9 = .ok (.new 155, 3) := by decide +kernel
theorem dX11_job_12 : decode cX11_job 12 = .ok (.dup, 1) := by decide +kernel
theorem dX11_job_13 : decode cX11_job 13 = .ok (.invokespecial 157, 3) := by decide +kernel
theorem dX11_job_16 : decode cX11_job 16 = .ok (.athrow, 1) := by decide +kernel
theorem dX11_job_17 : decode cX11_job 17 = .ok (.aload_n 0, 1) := by decide +kernel
theorem dX11_job_18 : decode cX11_job 18 = .ok (.getfield 23, 3) := by decide +kernel
theorem dX11_job_21 : decode cX11_job 21 = .ok (.getfield 190, 3) := by decide +kernel
theorem dX11_job_24 : decode cX11_job 24 = .ok (.getfield 194, 3) := by decide +kernel
theorem dX11_job_27 : decode cX11_job 27 = .ok (.ifCond .ne 5, 3) := by decide +kernel
theorem dX11_job_30 : decode cX11_job 30 = .ok (.iconst (-1), 1) := by decide +kernel
theorem dX11_job_31 : decode cX11_job 31 = .ok (.ireturn, 1) := by decide +kernel
theorem dX11_job_32 : decode cX11_job 32 = .ok (.iload_n 1, 1) := by decide +kernel
theorem dX11_job_33 : decode cX11_job 33 = .ok (.tableswitch 72 0 3 #[31, 42, 50, 61], 31) := by decide +kernel
theorem dX11_job_64 : decode cX11_job 64 = .ok (.aload_n 0, 1) := by decide +kernel
theorem dX11_job_65 : decode cX11_job 65 = .ok (.getfield 23, 3) := by decide +kernel
theorem dX11_job_68 : decode cX11_job 68 = .ok (.getfield 190, 3) := by decide +kernel
theorem dX11_job_71 : decode cX11_job 71 = .ok (.getfield 199, 3) := by decide +kernel
theorem dX11_job_74 : decode cX11_job 74 = .ok (.ireturn, 1) := by decide +kernel
theorem dX11_job_75 : decode cX11_job 75 = .ok (.aload_n 0, 1) := by decide +kernel
theorem dX11_job_76 : decode cX11_job 76 = .ok (.getfield 23, 3) := by decide +kernel
theorem dX11_job_79 : decode cX11_job 79 = .ok (.invokevirtual 200, 3) := by decide +kernel
theorem dX11_job_82 : decode cX11_job 82 = .ok (.ireturn, 1) := by decide +kernel
theorem dX11_job_83 : decode cX11_job 83 = .ok (.aload_n 0, 1) := by decide +kernel
theorem dX11_job_84 : decode cX11_job 84 = .ok (.getfield 23, 3) := by decide +kernel
theorem dX11_job_87 : decode cX11_job 87 = .ok (.getfield 203, 3) := by decide +kernel
theorem dX11_job_90 : decode cX11_job 90 = .ok (.getfield 137, 3) := by decide +kernel
theorem dX11_job_93 : decode cX11_job 93 = .ok (.ireturn, 1) := by decide +kernel
theorem dX11_job_94 : decode cX11_job 94 = .ok (.aload_n 0, 1) := by decide +kernel
theorem dX11_job_95 : decode cX11_job 95 = .ok (.getfield 23, 3) := by decide +kernel
theorem dX11_job_98 : decode cX11_job 98 = .ok (.getfield 190, 3) := by decide +kernel
theorem dX11_job_101 : decode cX11_job 101 = .ok (.getfield 207, 3) := by decide +kernel
theorem dX11_job_104 : decode cX11_job 104 = .ok (.ireturn, 1) := by decide +kernel
theorem dX11_job_105 : decode cX11_job 105 = .ok (.aload_n 0, 1) := by decide +kernel
theorem dX11_job_106 : decode cX11_job 106 = .ok (.getfield 23, 3) := by decide +kernel
theorem dX11_job_109 : decode cX11_job 109 = .ok (.getfield 190, 3) := by decide +kernel
theorem dX11_job_112 : decode cX11_job 112 = .ok (.getfield 210, 3) := by decide +kernel
theorem dX11_job_115 : decode cX11_job 115 = .ok (.ireturn, 1) := by decide +kernel
set_option maxHeartbeats 4000000 in
set_option maxRecDepth 100000 in
theorem ct_X11_job {E : xE} {z : Nat} {T : Nat → Nat × Int} {F : Nat → Nat → Int} {I : Nat → Int → Int} {P : Nat → Nat → Option Nat} {Y : Nat → Int → Option Nat} {o a : Nat} {w : Int → Int} (h1 : (T o).1 = 12) (h3 : P o 3 = some a) (hS : SR T F I P Y a w) (hr9 : wRn w) {x : Int} (hx : 0 ≤ x ∧ x ≤ 4) : Ct E 1 mX11_job 0 0 [.ref o, J x] (z, T, F, I, P, Y) (xd (some (J (sJobA w x))) (z, T, F, I, P, Y)) := by
  have hO := hS.1.1
  have o0 := hO.2.1
  obtain ⟨hGd, hLw, ⟨π, ⟨hSt, hPm⟩, ⟨hSc, hTl, hJb⟩, hRun, hTab, hOut, hJo⟩, hLv, hLf⟩ := id hS
  obtain ⟨⟨st9, s0, s01, s02⟩, hRows, ⟨s4, s44⟩, ⟨s5, l9, ⟨l0, l1, l2, l3⟩, ⟨l01, l02⟩, ⟨l11, l12⟩, ⟨l21, l22⟩, l31, l32⟩, ⟨s6, s50⟩, ⟨s7, hJou⟩, -⟩ := id hSt
  have p5 : ∀ j : Nat, j < 14 → π j < 14 := hPm.2.2.2.1
  have hw0 : F a 1 = w 0 := hSc.1
  have hby : F (a + 44) 0 = w 16 := hJb.1
  have h16 := hO.2.2.2.2.2.2.2.2.2.2.2.1
  refine Ct.of [some (.ref o), some (J x)] kt_X11_job rfl (Nat.le_of_ble_eq_true rfl) rfl (fun d hd => ?_)
  generalize hX : xN E _ _ _ = X
  refine xg_iloadn 1 dX11_job_0 rfl rfl rfl ?_
  refine xg_iflt 9 4 dX11_job_1 rfl rfl (by omega) (fun hb1 => ?_) (fun hb1 => ?_)
  · exfalso; omega
  · skip
    refine xg_iloadn 5 dX11_job_4 rfl rfl rfl ?_
    refine xg_iconst 6 dX11_job_5 rfl ?_
    refine xg_icle 17 9 dX11_job_6 rfl rfl (by omega) (fun hb6 => ?_) (fun hb6 => ?_)
    · skip
      refine xg_aloadn 18 dX11_job_17 rfl rfl rfl ?_
      refine xg_getP 21 kf_RX11_23 dX11_job_18 rfl h1 h3 ?_
      refine xg_getP 24 kf_RX11_190 dX11_job_21 rfl st9 s4 ?_
      refine xg_getI 27 kf_RX11_194 dX11_job_24 rfl s44 ?_
      rw [hby]
      refine xg_ifne 32 30 dX11_job_27 rfl rfl (by omega) (fun hb27 => ?_) (fun hb27 => ?_)
      · skip
        refine xg_iloadn 33 dX11_job_32 rfl rfl rfl ?_
        rcases (show x = 0 ∨ x = 1 ∨ x = 2 ∨ x = 3 ∨ (x < 0 ∨ 3 < x) by omega) with ht | ht | ht | ht | ht
        · refine xg_tin (o := 31) 64 dX11_job_33 (by omega) ⟨by omega, by omega⟩ (by rw [show (x - 0).toNat = 0 by omega]; rfl) rfl ?_
          refine xg_aloadn 65 dX11_job_64 rfl rfl rfl ?_
          refine xg_getP 68 kf_RX11_23 dX11_job_65 rfl h1 h3 ?_
          refine xg_getP 71 kf_RX11_190 dX11_job_68 rfl st9 s4 ?_
          refine xg_getI 74 kf_RX11_199 dX11_job_71 rfl s44 ?_
          subst hX
          refine xg_ireturn dX11_job_74 rfl ⟨Nat.le_refl _, Nat.le_refl _⟩ ?_
          subst ht
          exact ⟨by rw [hJb.2.1]; unfold sJobA; rw [if_pos (by omega), if_pos rfl]; unfold sGoal; rw [if_pos (by omega)], rfl⟩
        · refine xg_tin (o := 42) 75 dX11_job_33 (by omega) ⟨by omega, by omega⟩ (by rw [show (x - 0).toNat = 1 by omega]; rfl) rfl ?_
          refine xg_aloadn 76 dX11_job_75 rfl rfl rfl ?_
          refine xg_getP 79 kf_RX11_23 dX11_job_76 rfl h1 h3 ?_
          refine xg_callV 82 8 [] _ kv_X8_inputBits ⟨_, _, rfl⟩ kl_RX11_200 dX11_job_79 rfl st9 (by omega) rfl rfl (Nat.le_of_ble_eq_true rfl) (by omega) ⟨Nat.le_refl _, Nat.le_refl _⟩ (ct_X8_inputBits hr9.i01 hS) rfl ?_
          subst hX
          refine xg_ireturn dX11_job_82 rfl ⟨Nat.le_refl _, Nat.le_refl _⟩ ?_
          subst ht
          exact ⟨by unfold sJobA; rw [if_pos (by omega), if_neg (by decide), if_pos rfl], rfl⟩
        · refine xg_tin (o := 50) 83 dX11_job_33 (by omega) ⟨by omega, by omega⟩ (by rw [show (x - 0).toNat = 2 by omega]; rfl) rfl ?_
          refine xg_aloadn 84 dX11_job_83 rfl rfl rfl ?_
          refine xg_getP 87 kf_RX11_23 dX11_job_84 rfl h1 h3 ?_
          refine xg_getP 90 kf_RX11_203 dX11_job_87 rfl st9 hPm.2.2.1 ?_
          refine xg_getI 93 kf_RX11_137 dX11_job_90 rfl (hRows _ (p5 13 (by omega))).1 ?_
          subst hX
          refine xg_ireturn dX11_job_93 rfl ⟨Nat.le_refl _, Nat.le_refl _⟩ ?_
          subst ht
          exact ⟨by rw [show F (a + 2 + 3 * π 13) 2 = sEnt w 79 from hOut.2.1]; unfold sJobA; rw [if_pos (by omega), if_neg (by decide), if_neg (by decide), if_pos rfl], rfl⟩
        · refine xg_tin (o := 61) 94 dX11_job_33 (by omega) ⟨by omega, by omega⟩ (by rw [show (x - 0).toNat = 3 by omega]; rfl) rfl ?_
          refine xg_aloadn 95 dX11_job_94 rfl rfl rfl ?_
          refine xg_getP 98 kf_RX11_23 dX11_job_95 rfl h1 h3 ?_
          refine xg_getP 101 kf_RX11_190 dX11_job_98 rfl st9 s4 ?_
          refine xg_getI 104 kf_RX11_207 dX11_job_101 rfl s44 ?_
          subst hX
          refine xg_ireturn dX11_job_104 rfl ⟨Nat.le_refl _, Nat.le_refl _⟩ ?_
          subst ht
          exact ⟨by rw [hJb.2.2, if_pos (by omega)]; unfold sJobA; rw [if_pos (by omega), if_neg (by decide), if_neg (by decide), if_neg (by decide), if_pos rfl], rfl⟩
        · refine xg_tout 105 dX11_job_33 (by omega) ht rfl ?_
          refine xg_aloadn 106 dX11_job_105 rfl rfl rfl ?_
          refine xg_getP 109 kf_RX11_23 dX11_job_106 rfl h1 h3 ?_
          refine xg_getP 112 kf_RX11_190 dX11_job_109 rfl st9 s4 ?_
          refine xg_getI 115 kf_RX11_210 dX11_job_112 rfl s44 ?_
          subst hX
          refine xg_ireturn dX11_job_115 rfl ⟨Nat.le_refl _, Nat.le_refl _⟩ ?_
          have hx4 : x = 4 := by omega
          subst hx4
          exact ⟨by rw [hLf]; unfold sJobA; rw [if_pos (by omega), if_neg (by decide), if_neg (by decide), if_neg (by decide), if_neg (by decide)], rfl⟩
      · skip
        refine xg_iconst 31 dX11_job_30 rfl ?_
        subst hX
        exact xg_ireturn dX11_job_31 rfl ⟨Nat.le_refl _, Nat.le_refl _⟩ ⟨by unfold sJobA; rw [if_neg (by omega)], rfl⟩
    · exfalso; omega

