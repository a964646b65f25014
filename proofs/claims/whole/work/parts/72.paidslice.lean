theorem dX8_paidSlice_0 : decode cX8_paidSlice 0 = .ok (.aload_n 0, 1) := by decide +kernel
theorem dX8_paidSlice_1 : decode cX8_paidSlice 1 = .ok (.getfield 28, 3) := by decide +kernel
theorem dX8_paidSlice_4 : decode cX8_paidSlice 4 = .ok (.getfield 143, 3) := by decide +kernel
theorem dX8_paidSlice_7 : decode cX8_paidSlice 7 = .ok (.ifCond .ne 5, 3) := by decide +kernel
theorem dX8_paidSlice_10 : decode cX8_paidSlice 10 = .ok (.iconst 0, 1) := by decide +kernel
theorem dX8_paidSlice_11 : decode cX8_paidSlice 11 = .ok (.ireturn, 1) := by decide +kernel
theorem dX8_paidSlice_12 : decode cX8_paidSlice 12 = .ok (.aload_n 0, 1) := by decide +kernel
theorem dX8_paidSlice_13 : decode cX8_paidSlice 13 = .ok (.getfield 42, 3) := by decide +kernel
theorem dX8_paidSlice_16 : decode cX8_paidSlice 16 = .ok (.iconst 1, 1) := by decide +kernel
theorem dX8_paidSlice_17 : decode cX8_paidSlice 17 = .ok (.aload_n 0, 1) := by decide +kernel
theorem dX8_paidSlice_18 : decode cX8_paidSlice 18 = .ok (.bipush 11, 2) := by decide +kernel
theorem dX8_paidSlice_20 : decode cX8_paidSlice 20 = .ok (.aload_n 0, 1) := by decide +kernel
theorem dX8_paidSlice_21 : decode cX8_paidSlice 21 = .ok (.getfield 28, 3) := by decide +kernel
theorem dX8_paidSlice_24 : decode cX8_paidSlice 24 = .ok (.getfield 133, 3) := by decide +kernel
theorem dX8_paidSlice_27 : decode cX8_paidSlice 27 = .ok (.invokevirtual 136, 3) := by decide +kernel
theorem dX8_paidSlice_30 : decode cX8_paidSlice 30 = .ok (.iadd, 1) := by decide +kernel
theorem dX8_paidSlice_31 : decode cX8_paidSlice 31 = .ok (.invokevirtual 184, 3) := by decide +kernel
theorem dX8_paidSlice_34 : decode cX8_paidSlice 34 = .ok (.iload_n 1, 1) := by decide +kernel
theorem dX8_paidSlice_35 : decode cX8_paidSlice 35 = .ok (.aload_n 0, 1) := by decide +kernel
theorem dX8_paidSlice_36 : decode cX8_paidSlice 36 = .ok (.invokevirtual 188, 3) := by decide +kernel
theorem dX8_paidSlice_39 : decode cX8_paidSlice 39 = .ok (.invokestatic 191, 3) := by decide +kernel
theorem dX8_paidSlice_42 : decode cX8_paidSlice 42 = .ok (.istore_n 2, 1) := by decide +kernel
theorem dX8_paidSlice_43 : decode cX8_paidSlice 43 = .ok (.iconst 0, 1) := by decide +kernel
theorem dX8_paidSlice_44 : decode cX8_paidSlice 44 = .ok (.istore_n 3, 1) := by decide +kernel
theorem dX8_paidSlice_45 : decode cX8_paidSlice 45 = .ok (.iconst 0, 1) := by decide +kernel
theorem dX8_paidSlice_46 : decode cX8_paidSlice 46 = .ok (.istore 4, 2) := by decide +kernel
theorem dX8_paidSlice_48 : decode cX8_paidSlice 48 = .ok (.iload 4, 2) := by decide +kernel
theorem dX8_paidSlice_50 : decode cX8_paidSlice 50 = .ok (.iload_n 2, 1) := by decide +kernel
theorem dX8_paidSlice_51 : decode cX8_paidSlice 51 = .ok (.if_icmp .ge 26, 3) := by decide +kernel
theorem dX8_paidSlice_54 : decode cX8_paidSlice 54 = .ok (.aload_n 0, 1) := by decide +kernel
theorem dX8_paidSlice_55 : decode cX8_paidSlice 55 = .ok (.getfield 28, 3) := by decide +kernel
theorem dX8_paidSlice_58 : decode cX8_paidSlice 58 = .ok (.getfield 143, 3) := by decide +kernel
theorem dX8_paidSlice_61 : decode cX8_paidSlice 61 = .ok (.ifCond .eq 16, 3) := by decide +kernel
theorem dX8_paidSlice_64 : decode cX8_paidSlice 64 = .ok (.aload_n 0, 1) := by decide +kernel
theorem dX8_paidSlice_65 : decode cX8_paidSlice 65 = .ok (.invokevirtual 194, 3) := by decide +kernel
theorem dX8_paidSlice_68 : decode cX8_paidSlice 68 = .ok (.iinc 3 1, 3) := by decide +kernel
theorem dX8_paidSlice_71 : decode cX8_paidSlice 71 = .ok (.iinc 4 1, 3) := by decide +kernel
theorem dX8_paidSlice_74 : decode cX8_paidSlice 74 = .ok (.goto (-26), 3) := by decide +kernel
theorem dX8_paidSlice_77 : decode cX8_paidSlice 77 = .ok (.iload_n 3, 1) := by decide +kernel
theorem dX8_paidSlice_78 : decode cX8_paidSlice 78 = .ok (.ireturn, 1) := by decide +kernel
set_option maxHeartbeats 4000000 in
set_option maxRecDepth 100000 in
theorem ct_X8_paidSlice_0 {E : xE} {z : Nat} {T : Nat → Nat × Int} {F : Nat → Nat → Int} {I : Nat → Int → Int} {P : Nat → Nat → Option Nat} {Y : Nat → Int → Option Nat} {a : Nat} {w : Int → Int} (hS : SR T F I P Y a w) {l : Int} (hby : w 16 = 0) : Ct E 0 mX8_paidSlice 0 0 [.ref a, J l] (z, T, F, I, P, Y) (xQ a (some (J 0)) z T F I P Y w) := by
  obtain ⟨⟨hO, hL, hTy⟩, hLw, ⟨π, hB⟩, hV, hLf⟩ := id hS
  obtain ⟨⟨⟨⟨s0, s1, s2, s3⟩, sR, ⟨s4, s5⟩, ⟨s6, sLv⟩, ⟨s7, s8⟩, ⟨s9, sJo⟩, s10, s11, s12⟩, p1, p2, p3, p4, p5⟩, ⟨⟨c1, c9, c10, c11, c12, c13, c14, c15⟩, hTl, j0, j1, j2⟩, hRn, hTb, hOt, hJo⟩ := id hB
  obtain ⟨hR, o0, o1, o2, o3, o4, o5, o6, oc, o13, o14, o16, o17, o18, ov⟩ := id hO
  have hN := wN_i o0.1
  refine Ct.of [some (.ref a), some (J l), none, none, none] kt_X8_paidSlice rfl (Nat.le_of_ble_eq_true rfl) rfl (fun d hd => ?_)
  generalize hX : xN E _ _ _ = X
  refine xg_aloadn 1 dX8_paidSlice_0 rfl rfl rfl ?_
  refine xg_getP 4 kf_RX8_28 dX8_paidSlice_1 rfl (by assumption) (by assumption) ?_
  refine xg_getI 7 kf_RX8_143 dX8_paidSlice_4 rfl (by assumption) ?_
  refine xg_ifne 12 10 dX8_paidSlice_7 rfl rfl (by omega) (fun hb7 => ?_) (fun hb7 => ?_)
  · exfalso; omega
  · skip
    refine xg_iconst 11 dX8_paidSlice_10 rfl ?_
    subst hX
    exact xg_ireturn dX8_paidSlice_11 rfl ⟨Nat.le_refl _, Nat.le_refl _⟩ ⟨rfl, F, I, P, Y, rfl, hS, SF.rf⟩

set_option maxHeartbeats 4000000 in
set_option maxRecDepth 100000 in
theorem ct_X8_paidSlice {E : xE} {z : Nat} {T : Nat → Nat × Int} {F : Nat → Nat → Int} {I : Nat → Int → Int} {P : Nat → Nat → Option Nat} {Y : Nat → Int → Option Nat} {a : Nat} {w : Int → Int} (hS : SR T F I P Y a w) (hr : wRn w) (hz : wBz w) {l : Int} (hby : w 16 = 1) (hl : 0 ≤ l ∧ l ≤ 1) : Ct E 3 mX8_paidSlice 0 0 [.ref a, J l] (z, T, F, I, P, Y) (xQ a (some (J (sPaidD w l))) z T F I P Y (sPaid w l)) := by
  obtain ⟨⟨hO, hL, hTy⟩, hLw, ⟨π, hB⟩, hV, hLf⟩ := id hS
  obtain ⟨⟨⟨⟨s0, s1, s2, s3⟩, sR, ⟨s4, s5⟩, ⟨s6, sLv⟩, ⟨s7, s8⟩, ⟨s9, sJo⟩, s10, s11, s12⟩, p1, p2, p3, p4, p5⟩, ⟨⟨c1, c9, c10, c11, c12, c13, c14, c15⟩, hTl, j0, j1, j2⟩, hRn, hTb, hOt, hJo⟩ := id hB
  obtain ⟨hR, o0, o1, o2, o3, o4, o5, o6, oc, o13, o14, o16, o17, o18, ov⟩ := id hO
  have hN := wN_i o0.1
  obtain ⟨g, hg⟩ : ∃ g : Nat, (g : Int) = sGoal w := ⟨(sGoal w).toNat, by unfold sGoal; split <;> omega⟩
  have hg4 : g < 4 := by unfold sGoal at hg; split at hg <;> omega
  have hOw := wOk_paidW hO hL
  have hsb := sSumOf_bd hL 1 (g : Int)
  have hsb0 := sSumOf_bd hL 0 (sGoal w)
  have hrW : wRn (sPaidW w) := hr.S o0 (by omega)
  have hsl : sSlice (sPaidW w) = sSlice w := (eqW_S (by omega)).slice o0 hL
  have hdb := sDebt_bd (w := w) o0.2
  have hslb : sSlice w = w 6 + sDebt w / 8 + sSumOf w 0 (sGoal w) := rfl
  have h12 := oc 12 (by omega) (by omega)
  have hc12 : sCost w = 1 + sSumOf w 1 (g : Int) := by unfold sCost; rw [hg]
  refine Ct.of [some (.ref a), some (J l), none, none, none] kt_X8_paidSlice rfl (Nat.le_of_ble_eq_true rfl) rfl (fun d hd => ?_)
  generalize hX : xN E _ _ _ = X
  refine xg_aloadn 1 dX8_paidSlice_0 rfl rfl rfl ?_
  refine xg_getP 4 kf_RX8_28 dX8_paidSlice_1 rfl (by assumption) (by assumption) ?_
  refine xg_getI 7 kf_RX8_143 dX8_paidSlice_4 rfl (by assumption) ?_
  refine xg_ifne 12 10 dX8_paidSlice_7 rfl rfl (by omega) (fun hb7 => ?_) (fun hb7 => ?_)
  · skip
    refine xg_aloadn 13 dX8_paidSlice_12 rfl rfl rfl ?_
    refine xg_getP 16 kf_RX8_42 dX8_paidSlice_13 rfl (by assumption) (by assumption) ?_
    refine xg_iconst 17 dX8_paidSlice_16 rfl ?_
    refine xg_aloadn 18 dX8_paidSlice_17 rfl rfl rfl ?_
    refine xg_bipush 20 dX8_paidSlice_18 rfl (by decide) ?_
    refine xg_aloadn 21 dX8_paidSlice_20 rfl rfl rfl ?_
    refine xg_getP 24 kf_RX8_28 dX8_paidSlice_21 rfl (by assumption) (by assumption) ?_
    refine xg_getI 27 kf_RX8_133 dX8_paidSlice_24 rfl (by assumption) ?_
    rw [j1, ← hg]
    refine xg_callVq 30 8 [J 11, J (g : Int)] _ kv_X8_lawSum ⟨_, _, rfl⟩ kl_RX8_136 dX8_paidSlice_27 rfl (by assumption) (by omega) rfl rfl (Nat.le_of_ble_eq_true rfl) (by omega) ⟨Nat.le_refl _, Nat.le_refl _⟩ (ct_X8_lawSum (wh := 1) hS hr (by omega) hg4) rfl (fun F1 I1 P1 Y1 hS1 hF1 => ?_)
    obtain ⟨_, hx1⟩ := hS1.2.2.1
    have ht5 := hx1.2.1.2.1.2.2.2.2.2
    refine xg_iadd 31 dX8_paidSlice_30 rfl ?_
    refine xg_callV 34 10 [_] _ kv_X10_addBill ⟨_, _, rfl⟩ kl_RX8_184 dX8_paidSlice_31 rfl (by assumption) (by omega) rfl rfl (Nat.le_of_ble_eq_true rfl) (by omega) ⟨Nat.le_refl _, Nat.le_refl _⟩ (ct_X10_addBill (by have hsb9 := sSumOf_bd hL ((1 : Nat) : Int) (g : Int); omega) s8 (by rw [ht5]; exact h12)) rfl ?_
    have hS2 := hS1.tal (k := 5) (v := min 99999 (w 12 + sCost w)) (by omega) (by omega)
    rw [show wS w (7 + ((5 : Nat) : Int)) (min 99999 (w 12 + sCost w)) = sPaidW w from rfl] at hS2
    rw [ht5, show w 12 + (1 + sSumOf w ((1 : Nat) : Int) (g : Int)) = w 12 + sCost w by rw [hc12]; rfl]
    have hF2 : SF a F I P Y (upF F1 (a + 50) 5 (min 99999 (w 12 + sCost w))) I1 P1 Y1 := hF1.tr (SF.uF (by omega))
    have hz0 : pAl (sPaidW w) (sPaidN w l) 0 (sPaidW w) := by
      refine ⟨rfl, ?_, (wS_ne _ _ _ (by omega)).trans hby, hz.S o0 (by omega) ((wS_ne _ _ _ (by omega)).trans hby), hrW⟩
      rw [show sPaidW w 18 = w 18 from wS_ne _ _ _ (by omega)]; omega
    refine xg_iloadn 35 dX8_paidSlice_34 rfl rfl rfl ?_
    refine xg_aloadn 36 dX8_paidSlice_35 rfl rfl rfl ?_
    refine xg_callVq 39 8 [] _ kv_X8_sliceSize ⟨_, _, rfl⟩ kl_RX8_188 dX8_paidSlice_36 rfl (by assumption) (by omega) rfl rfl (Nat.le_of_ble_eq_true rfl) (by omega) ⟨Nat.le_refl _, Nat.le_refl _⟩ (ct_X8_sliceSize hS2 hrW) rfl (fun F3 I3 P3 Y3 hS3 hF3 => ?_)
    rw [hsl]
    refine xg_mmax 42 kl_RX8_191 dX8_paidSlice_39 rfl (by omega) (Nat.le_of_ble_eq_true rfl) (by omega) ⟨Nat.le_refl _, Nat.le_refl _⟩ ?_
    rw [show max l (sSlice w) = sPaidN w l from rfl]
    have hpn : 0 ≤ sPaidN w l ∧ sPaidN w l ≤ 1000 := by unfold sPaidN; omega
    refine xg_istoren 43 _ dX8_paidSlice_42 rfl rfl rfl (by decide) (Or.inr rfl) ?_
    refine xg_iconst 44 dX8_paidSlice_43 rfl ?_
    refine xg_istoren 45 _ dX8_paidSlice_44 rfl rfl rfl (by decide) (Or.inr rfl) ?_
    refine xg_iconst 46 dX8_paidSlice_45 rfl ?_
    refine xg_istore 48 _ dX8_paidSlice_46 rfl rfl (by decide) (Or.inr rfl) ?_
    have loop48 : ∀ (mm : Nat) (i : Nat) (W : Int → Int) (F5 : Nat → Nat → Int) (I5 : Nat → Int → Int) (P5 : Nat → Nat → Option Nat) (Y5 : Nat → Int → Option Nat), ((i : Int) ≤ sPaidN w l) → (pAl (sPaidW w) (sPaidN w l) i W ∨ pEd (sPaidW w) (sPaidN w l) i W) → SR T F5 I5 P5 Y5 a W → SF a F I P Y F5 I5 P5 Y5 → sPaidN w l - (i : Int) < (mm : Int) → xG E mX8_paidSlice (xR d 0 0) X 48 [some (.ref a), some (J l), some (J (sPaidN w l)), some (J (i : Int)), some (J (i : Int))] [] (z, T, F5, I5, P5, Y5) 0 0 := by
      intro mm
      induction mm with
      | zero => intro i W F5 I5 P5 Y5 hi hst hSW hFW hm; exfalso; omega
      | succ mm ih =>
        intro i W F5 I5 P5 Y5 hi hst hSW hFW hm
        have e4 : P5 a 4 = some (a + 44) := (hFW.2 4 (by omega) (by omega)).trans s4
        obtain ⟨_, hx5⟩ := hSW.2.2.1
        have hj0 := hx5.2.1.2.2.1
        have hW16 := hSW.1.1.2.2.2.2.2.2.2.2.2.2.2.1
        refine xg_iload 50 dX8_paidSlice_48 rfl rfl ?_
        refine xg_iloadn 51 dX8_paidSlice_50 rfl rfl rfl ?_
        refine xg_icge 77 54 dX8_paidSlice_51 rfl rfl (by omega) (fun hb51 => ?_) (fun hb51 => ?_)
        · skip
          refine xg_iloadn 78 dX8_paidSlice_77 rfl rfl rfl ?_
          subst hX
          refine xg_ireturn dX8_paidSlice_78 rfl ⟨Nat.le_refl _, Nat.le_refl _⟩ ?_
          rcases hst with hal | hed
          · obtain ⟨e1, e2⟩ := hal.exit hSW.1.1 (by omega)
            exact ⟨by rw [e2]; rfl, F5, I5, P5, Y5, rfl, by rw [e1] at hSW; exact hSW, hFW⟩
          · exact ⟨by rw [hed.2.1]; rfl, F5, I5, P5, Y5, rfl, by rw [hed.1] at hSW; exact hSW, hFW⟩
        · skip
          refine xg_aloadn 55 dX8_paidSlice_54 rfl rfl rfl ?_
          refine xg_getP 58 kf_RX8_28 dX8_paidSlice_55 rfl (by assumption) (by assumption) ?_
          refine xg_getI 61 kf_RX8_143 dX8_paidSlice_58 rfl (by assumption) ?_
          skip
          refine xg_ifeq 77 64 dX8_paidSlice_61 rfl rfl (by omega) (fun hb61 => ?_) (fun hb61 => ?_)
          · skip
            refine xg_iloadn 78 dX8_paidSlice_77 rfl rfl rfl ?_
            subst hX
            refine xg_ireturn dX8_paidSlice_78 rfl ⟨Nat.le_refl _, Nat.le_refl _⟩ ?_
            rcases hst with hal | hed
            · exfalso; have := hal.2.2.1; omega
            · exact ⟨by rw [hed.2.1]; rfl, F5, I5, P5, Y5, rfl, by rw [hed.1] at hSW; exact hSW, hFW⟩
          · skip
            refine xg_aloadn 65 dX8_paidSlice_64 rfl rfl rfl ?_
            have hal := hst.resolve_right (fun q => by have := q.2.2; omega)
            refine xg_callVq 68 8 [] _ kv_X8_mergeKey ⟨_, _, rfl⟩ kl_RX8_194 dX8_paidSlice_65 rfl (by assumption) (by omega) rfl rfl (Nat.le_of_ble_eq_true rfl) (by omega) ⟨Nat.le_refl _, Nat.le_refl _⟩ (ct_X8_mergeKey hSW hal.2.2.2.2 hal.2.2.1 (hal.next hSW.1.1)) rfl (fun F4 I4 P4 Y4 hS4 hF4 => ?_)
            refine xg_iinc 71 _ dX8_paidSlice_68 rfl rfl rfl rfl (by decide) (Or.inr rfl) ?_
            refine xg_iinc 74 _ dX8_paidSlice_71 rfl rfl rfl rfl (by decide) (Or.inr rfl) ?_
            refine xg_goto 48 dX8_paidSlice_74 rfl ?_
            exact xg_weak _ (xle_s rfl (xle_s rfl (xle_s rfl (xle_s rfl (xle_s rfl xle_0))))) (ih (i + 1) _ _ _ _ _ (by omega) (hal.step hSW.1.1 (by omega)) hS4 (hFW.tr hF4) (by omega))
    exact xg_weak _ (xle_s rfl (xle_s rfl (xle_s rfl (xle_s rfl (xle_s rfl xle_0))))) (loop48 1001 0 _ _ _ _ _ (by omega) (Or.inl hz0) hS3 (hF2.tr hF3) (by omega))
  · exfalso; omega

