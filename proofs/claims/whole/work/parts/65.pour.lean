theorem dX8_pourTable_0 : decode cX8_pourTable 0 = .ok (.aload_n 0, 1) := by decide +kernel
theorem dX8_pourTable_1 : decode cX8_pourTable 1 = .ok (.getfield 70, 3) := by decide +kernel
theorem dX8_pourTable_4 : decode cX8_pourTable 4 = .ok (.ifCond .lt 12, 3) := by decide +kernel
theorem dX8_pourTable_7 : decode cX8_pourTable 7 = .ok (.aload_n 0, 1) := by decide +kernel
theorem dX8_pourTable_8 : decode cX8_pourTable 8 = .ok (.getfield 70, 3) := by decide +kernel
theorem dX8_pourTable_11 : decode cX8_pourTable 11 = .ok (.bipush 12, 2) := by decide +kernel
theorem dX8_pourTable_13 : decode cX8_pourTable 13 = .ok (.if_icmp .lt 4, 3) := by decide +kernel
theorem dX8_pourTable_16 : decode cX8_pourTable 16 = .ok (.return_, 1) := by decide +kernel
theorem dX8_pourTable_17 : decode cX8_pourTable 17 = .ok (.aload_n 0, 1) := by decide +kernel
theorem dX8_pourTable_18 : decode cX8_pourTable 18 = .ok (.getfield 49, 3) := by decide +kernel
theorem dX8_pourTable_21 : decode cX8_pourTable 21 = .ok (.aload_n 0, 1) := by decide +kernel
theorem dX8_pourTable_22 : decode cX8_pourTable 22 = .ok (.getfield 93, 3) := by decide +kernel
theorem dX8_pourTable_25 : decode cX8_pourTable 25 = .ok (.iconst 0, 1) := by decide +kernel
theorem dX8_pourTable_26 : decode cX8_pourTable 26 = .ok (.iconst 0, 1) := by decide +kernel
theorem dX8_pourTable_27 : decode cX8_pourTable 27 = .ok (.aload_n 0, 1) := by decide +kernel
theorem dX8_pourTable_28 : decode cX8_pourTable 28 = .ok (.getfield 18, 3) := by decide +kernel
theorem dX8_pourTable_31 : decode cX8_pourTable 31 = .ok (.getfield 117, 3) := by decide +kernel
theorem dX8_pourTable_34 : decode cX8_pourTable 34 = .ok (.invokevirtual 176, 3) := by decide +kernel
theorem dX8_pourTable_37 : decode cX8_pourTable 37 = .ok (.aload_n 0, 1) := by decide +kernel
theorem dX8_pourTable_38 : decode cX8_pourTable 38 = .ok (.getfield 11, 3) := by decide +kernel
theorem dX8_pourTable_41 : decode cX8_pourTable 41 = .ok (.aload_n 0, 1) := by decide +kernel
theorem dX8_pourTable_42 : decode cX8_pourTable 42 = .ok (.getfield 70, 3) := by decide +kernel
theorem dX8_pourTable_45 : decode cX8_pourTable 45 = .ok (.aaload, 1) := by decide +kernel
theorem dX8_pourTable_46 : decode cX8_pourTable 46 = .ok (.astore_n 1, 1) := by decide +kernel
theorem dX8_pourTable_47 : decode cX8_pourTable 47 = .ok (.aload_n 0, 1) := by decide +kernel
theorem dX8_pourTable_48 : decode cX8_pourTable 48 = .ok (.getfield 70, 3) := by decide +kernel
theorem dX8_pourTable_51 : decode cX8_pourTable 51 = .ok (.istore_n 2, 1) := by decide +kernel
theorem dX8_pourTable_52 : decode cX8_pourTable 52 = .ok (.iload_n 2, 1) := by decide +kernel
theorem dX8_pourTable_53 : decode cX8_pourTable 53 = .ok (.ifCond .le 23, 3) := by decide +kernel
theorem dX8_pourTable_56 : decode cX8_pourTable 56 = .ok (.aload_n 0, 1) := by decide +kernel
theorem dX8_pourTable_57 : decode cX8_pourTable 57 = .ok (.getfield 11, 3) := by decide +kernel
theorem dX8_pourTable_60 : decode cX8_pourTable 60 = .ok (.iload_n 2, 1) := by decide +kernel
theorem dX8_pourTable_61 : decode cX8_pourTable 61 = .ok (.aload_n 0, 1) := by decide +kernel
theorem dX8_pourTable_62 : decode cX8_pourTable 62 = .ok (.getfield 11, 3) := by decide +kernel
theorem dX8_pourTable_65 : decode cX8_pourTable 65 = .ok (.iload_n 2, 1) := by decide +kernel
theorem dX8_pourTable_66 : decode cX8_pourTable 66 = .ok (.iconst 1, 1) := by decide +kernel
theorem dX8_pourTable_67 : decode cX8_pourTable 67 = .ok (.isub, 1) := by decide +kernel
theorem dX8_pourTable_68 : decode cX8_pourTable 68 = .ok (.aaload, 1) := by decide +kernel
theorem dX8_pourTable_69 : decode cX8_pourTable 69 = .ok (.aastore, 1) := by decide +kernel
theorem dX8_pourTable_70 : decode cX8_pourTable 70 = .ok (.iinc 2 (-1), 3) := by decide +kernel
theorem dX8_pourTable_73 : decode cX8_pourTable 73 = .ok (.goto (-21), 3) := by decide +kernel
theorem dX8_pourTable_76 : decode cX8_pourTable 76 = .ok (.aload_n 0, 1) := by decide +kernel
theorem dX8_pourTable_77 : decode cX8_pourTable 77 = .ok (.getfield 11, 3) := by decide +kernel
theorem dX8_pourTable_80 : decode cX8_pourTable 80 = .ok (.iconst 0, 1) := by decide +kernel
theorem dX8_pourTable_81 : decode cX8_pourTable 81 = .ok (.aload_n 0, 1) := by decide +kernel
theorem dX8_pourTable_82 : decode cX8_pourTable 82 = .ok (.getfield 18, 3) := by decide +kernel
theorem dX8_pourTable_85 : decode cX8_pourTable 85 = .ok (.aastore, 1) := by decide +kernel
theorem dX8_pourTable_86 : decode cX8_pourTable 86 = .ok (.aload_n 0, 1) := by decide +kernel
theorem dX8_pourTable_87 : decode cX8_pourTable 87 = .ok (.aload_n 1, 1) := by decide +kernel
theorem dX8_pourTable_88 : decode cX8_pourTable 88 = .ok (.putfield 18, 3) := by decide +kernel
theorem dX8_pourTable_91 : decode cX8_pourTable 91 = .ok (.aload_n 0, 1) := by decide +kernel
theorem dX8_pourTable_92 : decode cX8_pourTable 92 = .ok (.getfield 18, 3) := by decide +kernel
theorem dX8_pourTable_95 : decode cX8_pourTable 95 = .ok (.invokevirtual 220, 3) := by decide +kernel
theorem dX8_pourTable_98 : decode cX8_pourTable 98 = .ok (.aload_n 0, 1) := by decide +kernel
theorem dX8_pourTable_99 : decode cX8_pourTable 99 = .ok (.dup, 1) := by decide +kernel
theorem dX8_pourTable_100 : decode cX8_pourTable 100 = .ok (.getfield 70, 3) := by decide +kernel
theorem dX8_pourTable_103 : decode cX8_pourTable 103 = .ok (.iconst 1, 1) := by decide +kernel
theorem dX8_pourTable_104 : decode cX8_pourTable 104 = .ok (.iadd, 1) := by decide +kernel
theorem dX8_pourTable_105 : decode cX8_pourTable 105 = .ok (.putfield 70, 3) := by decide +kernel
theorem dX8_pourTable_108 : decode cX8_pourTable 108 = .ok (.aload_n 0, 1) := by decide +kernel
theorem dX8_pourTable_109 : decode cX8_pourTable 109 = .ok (.getfield 35, 3) := by decide +kernel
theorem dX8_pourTable_112 : decode cX8_pourTable 112 = .ok (.aload_n 0, 1) := by decide +kernel
theorem dX8_pourTable_113 : decode cX8_pourTable 113 = .ok (.invokevirtual 180, 3) := by decide +kernel
theorem dX8_pourTable_116 : decode cX8_pourTable 116 = .ok (.return_, 1) := by decide +kernel
def yFl (Y : Nat → Int → Option Nat) (a : Nat) (π : Nat → Nat) (n s : Nat) : Nat → Int → Option Nat := fun b j => if b = a + 1 ∧ (s : Int) < j ∧ j ≤ (n : Int) then some (a + 2 + 3 * π (j.toNat - 1)) else Y b j
theorem yFl_lo {Y : Nat → Int → Option Nat} {a : Nat} {π : Nat → Nat} {n s : Nat} {j : Int} (h : j ≤ (s : Int)) : yFl Y a π n s (a + 1) j = Y (a + 1) j := if_neg (by omega)
theorem yFl_0 {Y : Nat → Int → Option Nat} {a : Nat} {π : Nat → Nat} {n : Nat} : yFl Y a π n n = Y := by funext b j; exact if_neg (by omega)
theorem yFl_s {Y : Nat → Int → Option Nat} {a : Nat} {π : Nat → Nat} {n s : Nat} (h : s < n) : upY (yFl Y a π n (s + 1)) (a + 1) ((s + 1 : Nat) : Int) (some (a + 2 + 3 * π s)) = yFl Y a π n s := by
  funext b j
  unfold upY yFl
  by_cases hb : b = a + 1
  · by_cases hj : j = ((s + 1 : Nat) : Int)
    · rw [if_pos ⟨hb, hj⟩, if_pos (by omega), show j.toNat - 1 = s by omega]
    · rw [if_neg (fun q => hj q.2)]
      by_cases h1 : ((s + 1 : Nat) : Int) < j ∧ j ≤ (n : Int)
      · rw [if_pos ⟨hb, h1⟩, if_pos (by omega)]
      · rw [if_neg (fun q => h1 q.2), if_neg (by omega)]
  · rw [if_neg (fun q => hb q.1), if_neg (fun q => hb q.1), if_neg (fun q => hb q.1)]
set_option maxHeartbeats 4000000 in
set_option maxRecDepth 100000 in
theorem ct_X8_pourTable {E : xE} {z : Nat} {T : Nat → Nat × Int} {F : Nat → Nat → Int} {I : Nat → Int → Int} {P : Nat → Nat → Option Nat} {Y : Nat → Int → Option Nat} {a : Nat} {w : Int → Int} (hS : SR T F I P Y a w) (hr : wRn w) (hN12 : w 0 < 12) (ht : 0 < sEnt w 19) : Ct E 1 mX8_pourTable 0 0 [.ref a] (z, T, F, I, P, Y) (xQ a none z T F I P Y (sFlush w)) := by
  obtain ⟨⟨hO, hL, hTy⟩, hLw, ⟨π, hB⟩, hV, hLf⟩ := id hS
  obtain ⟨⟨⟨⟨s0, s1, s2, s3⟩, sR, ⟨s4, s5⟩, ⟨s6, sLv⟩, ⟨s7, s8⟩, ⟨s9, sJo⟩, s10, s11, s12⟩, p1, p2, p3, p4, p5⟩, ⟨⟨c1, c9, c10, c11, c12, c13, c14, c15⟩, hTl, j0, j1, j2⟩, hRn, hTb, hOt, hJo⟩ := id hB
  obtain ⟨hR, o0, o1, o2, o3, o4, o5, o6, oc, o13, o14, o16, o17, o18, ov⟩ := id hO
  have hN := wN_i o0.1
  have hj9 := sJo.1
  have hl9 := sLv.1
  have hNn : 0 ≤ w 0 ∧ w 0 < 12 := ⟨o0.1, hN12⟩
  obtain ⟨n, hn⟩ : ∃ n : Nat, (n : Int) = w 0 := ⟨wN w, hN⟩
  have ht12 := sR (π 12) (p4 12 (by omega))
  have ht0 := ht12.1
  have htn := sR (π n) (p4 n (by omega))
  have htn0 := htn.1
  have hq12 := p4 12 (by omega)
  have hqn := p4 n (by omega)
  have hO4 := wOk_flush hO hN12
  have hh4 := wHi_flush hO hN12
  have hr4 := wRn_flush hr hNn ht
  have hte := hTb.n
  refine Ct.of [some (.ref a), none, none] kt_X8_pourTable rfl (Nat.le_of_ble_eq_true rfl) rfl (fun d hd => ?_)
  generalize hX : xN E _ _ _ = X
  refine xg_aloadn 1 dX8_pourTable_0 rfl rfl rfl ?_
  refine xg_getI 4 kf_RX8_70 dX8_pourTable_1 rfl (by assumption) ?_
  refine xg_iflt 16 7 dX8_pourTable_4 rfl rfl (by omega) (fun hb4 => ?_) (fun hb4 => ?_)
  · exfalso; omega
  · skip
    refine xg_aloadn 8 dX8_pourTable_7 rfl rfl rfl ?_
    refine xg_getI 11 kf_RX8_70 dX8_pourTable_8 rfl (by assumption) ?_
    refine xg_bipush 13 dX8_pourTable_11 rfl (by decide) ?_
    refine xg_iclt 17 16 dX8_pourTable_13 rfl rfl (by omega) (fun hb13 => ?_) (fun hb13 => ?_)
    · skip
      refine xg_aloadn 18 dX8_pourTable_17 rfl rfl rfl ?_
      refine xg_getP 21 kf_RX8_49 dX8_pourTable_18 rfl (by assumption) (by assumption) ?_
      refine xg_aloadn 22 dX8_pourTable_21 rfl rfl rfl ?_
      refine xg_getI 25 kf_RX8_93 dX8_pourTable_22 rfl (by assumption) ?_
      refine xg_iconst 26 dX8_pourTable_25 rfl ?_
      refine xg_iconst 27 dX8_pourTable_26 rfl ?_
      refine xg_aloadn 28 dX8_pourTable_27 rfl rfl rfl ?_
      refine xg_getP 31 kf_RX8_18 dX8_pourTable_28 rfl (by assumption) (by assumption) ?_
      refine xg_getI 34 kf_RX8_117 dX8_pourTable_31 rfl (by assumption) ?_
      rw [c13, hte]
      refine xg_callV 37 2 [_, _, _, _] _ kv_X2_note ⟨_, _, rfl⟩ kl_RX8_176 dX8_pourTable_34 rfl (by assumption) (by omega) rfl rfl (Nat.le_of_ble_eq_true rfl) (by omega) ⟨Nat.le_refl _, Nat.le_refl _⟩ (ct_X2_note sJo hJo.2.1 (by rw [hJo.1]; exact o14)) rfl ?_
      refine xg_aloadn 38 dX8_pourTable_37 rfl rfl rfl ?_
      refine xg_getP 41 kf_RX8_11 dX8_pourTable_38 rfl (by assumption) (by assumption) ?_
      refine xg_aloadn 42 dX8_pourTable_41 rfl rfl rfl ?_
      refine xg_getI 45 kf_RX8_70 dX8_pourTable_42 rfl (by assumption) ?_
      rw [fNote_na (by omega), c1, ← hn]
      refine xg_rald 46 dX8_pourTable_45 rfl (by assumption) (by omega) (p1 n (by omega)) ?_
      refine xg_astoren 47 _ dX8_pourTable_46 rfl rfl rfl (by decide) (Or.inr rfl) ?_
      refine xg_aloadn 48 dX8_pourTable_47 rfl rfl rfl ?_
      refine xg_getI 51 kf_RX8_70 dX8_pourTable_48 rfl (by assumption) ?_
      skip
      refine xg_istoren 52 _ dX8_pourTable_51 rfl rfl rfl (by decide) (Or.inr rfl) ?_
      have loop52 : ∀ (mm : Nat) (s : Nat), (s ≤ n) → (s : Int) < (mm : Int) → xG E mX8_pourTable (xR d 0 0) X 52 [some (.ref a), some (.ref (a + 2 + 3 * π n)), some (J (s : Int))] [] (z, T, fNote F (a + 51), iNote F I (a + 51) (w 13) 0 0 (sEnt w 19), P, yFl Y a π n s) 0 0 := by
        intro mm
        induction mm with
        | zero => intro s hs hm; exfalso; omega
        | succ mm ih =>
          intro s hs hm
          refine xg_iloadn 53 dX8_pourTable_52 rfl rfl rfl ?_
          refine xg_ifle 76 56 dX8_pourTable_53 rfl rfl (by omega) (fun hb53 => ?_) (fun hb53 => ?_)
          · skip
            rw [show s = 0 by omega]
            refine xg_aloadn 77 dX8_pourTable_76 rfl rfl rfl ?_
            refine xg_getP 80 kf_RX8_11 dX8_pourTable_77 rfl (by assumption) (by assumption) ?_
            refine xg_iconst 81 dX8_pourTable_80 rfl ?_
            refine xg_aloadn 82 dX8_pourTable_81 rfl rfl rfl ?_
            refine xg_getP 85 kf_RX8_18 dX8_pourTable_82 rfl (by assumption) (by assumption) ?_
            refine xg_rast 86 dX8_pourTable_85 rfl (by assumption) (by assumption) (by omega) ?_
            refine xg_aloadn 87 dX8_pourTable_86 rfl rfl rfl ?_
            refine xg_aloadn 88 dX8_pourTable_87 rfl rfl rfl ?_
            refine xg_putO 91 kf_RX8_18 dX8_pourTable_88 rfl (by assumption) (show _ = va_rf (some (a + 2 + 3 * π n)) from rfl) ?_
            refine xg_aloadn 92 dX8_pourTable_91 rfl rfl rfl ?_
            refine xg_getP 95 kf_RX8_18 dX8_pourTable_92 rfl (by assumption) (upP_at _ _ _ _) ?_
            refine xg_callV 98 6 [] _ kv_X6_wipe ⟨_, _, rfl⟩ kl_RX8_220 dX8_pourTable_95 rfl (by assumption) (by omega) rfl rfl (Nat.le_of_ble_eq_true rfl) (by omega) ⟨Nat.le_refl _, Nat.le_refl _⟩ (ct_X6_wipe (by unfold wRow; rw [upP_na _ _ _ _ (show a + 2 + 3 * π n ≠ a by omega)]; exact htn)) rfl ?_
            refine xg_aloadn 99 dX8_pourTable_98 rfl rfl rfl ?_
            refine xg_dup 100 dX8_pourTable_99 rfl rfl ?_
            refine xg_getI 103 kf_RX8_70 dX8_pourTable_100 rfl (by assumption) ?_
            rw [show upF (upF (upF (fNote F (a + 51)) (a + 2 + 3 * π n) 2 0) (a + 2 + 3 * π n) 3 0) (a + 2 + 3 * π n) 4 0 = fWipe (fNote F (a + 51)) (a + 2 + 3 * π n) from rfl, fWipe_na (show a ≠ a + 2 + 3 * π n by omega), fNote_na (show a ≠ a + 51 by omega), c1]
            refine xg_iconst 104 dX8_pourTable_103 rfl ?_
            refine xg_iadd 105 dX8_pourTable_104 rfl ?_
            refine xg_putI 108 kf_RX8_70 dX8_pourTable_105 rfl (by assumption) ?_
            have hB5 := hB.flush (P' := upP P a 2 (some (a + 2 + 3 * π n))) (Y' := upY (yFl Y a π n 0) (a + 1) 0 (some (a + 2 + 3 * π 12))) hn hN12 hO (fun j hj => by
              unfold upY pFl
              by_cases h0 : j = 0
              · subst h0; rw [if_pos ⟨rfl, rfl⟩, if_pos rfl]
              · rw [if_neg (by omega), if_neg h0]
                by_cases h1 : j ≤ n
                · rw [if_pos h1]; exact (if_pos (by omega)).trans (by rw [Int.toNat_natCast])
                · rw [if_neg h1, if_neg (by omega)]; exact (if_neg (by omega)).trans (p1 j hj)) (fun b hb => upP_na _ _ _ _ hb) (fun k h2 h3 => upP_nk _ _ _ _ h2) (upP_at _ _ _ _) (upP_nk _ _ _ _ (by omega)) rfl rfl
            have hF5 : SF a F I P Y (upF (fWipe (fNote F (a + 51)) (a + 2 + 3 * π n)) a 1 (w 0 + 1)) (iWipe (iNote F I (a + 51) (w 13) 0 0 (sEnt w 19)) (a + 2 + 3 * π n) 60) (upP P a 2 (some (a + 2 + 3 * π n))) (upY (yFl Y a π n 0) (a + 1) 0 (some (a + 2 + 3 * π 12))) := by
              refine ⟨fun b hb => ⟨?_, upP_na _ _ _ _ (by omega), ?_, fun _ => ?_⟩, fun k h2 h3 => upP_nk _ _ _ _ h2⟩
              · rw [upF_na _ _ _ _ (by omega), fWipe_na (by omega), fNote_na (by omega)]
              · rw [upY_na _ _ _ _ (by omega)]; funext j; exact if_neg (by omega)
              · rw [iWipe_na (by omega), iNote_na (by omega)]
            have hP5 : upP P a 2 (some (a + 2 + 3 * π n)) a 5 = some (a + 45) := by rw [upP_nk _ _ _ _ (by omega)]; exact s6
            have hLv5 : wLev T (upP P a 2 (some (a + 2 + 3 * π n))) (a + 45) := by unfold wLev; rw [upP_na _ _ _ _ (by omega)]; exact sLv
            refine xg_aloadn 109 dX8_pourTable_108 rfl rfl rfl ?_
            refine xg_getP 112 kf_RX8_35 dX8_pourTable_109 rfl (by assumption) (by assumption) ?_
            refine xg_aloadn 113 dX8_pourTable_112 rfl rfl rfl ?_
            refine xg_callV 116 5 [_] _ kv_X5_recount ⟨_, _, rfl⟩ kl_RX8_180 dX8_pourTable_113 rfl (by assumption) (by omega) rfl rfl (Nat.le_of_ble_eq_true rfl) (by omega) ⟨Nat.le_refl _, Nat.le_refl _⟩ (ct_X5_recount hB5 hO4 hr4.lv hLv5) rfl ?_
            subst hX
            exact xg_return dX8_pourTable_116 rfl ⟨Nat.le_refl _, Nat.le_refl _⟩ ⟨rfl, _, _, _, _, rfl, SR.rec (hS.1.mv hO4 hh4) (hLw.sf hF5 hh4) hB5 (by rw [upF_na _ _ _ _ (by omega), fWipe_na (by omega), fNote_na (by omega), sFl_left hNn]; exact hLf), hF5.tr SF.rec⟩
          · skip
            refine xg_aloadn 57 dX8_pourTable_56 rfl rfl rfl ?_
            refine xg_getP 60 kf_RX8_11 dX8_pourTable_57 rfl (by assumption) (by assumption) ?_
            refine xg_iloadn 61 dX8_pourTable_60 rfl rfl rfl ?_
            refine xg_aloadn 62 dX8_pourTable_61 rfl rfl rfl ?_
            refine xg_getP 65 kf_RX8_11 dX8_pourTable_62 rfl (by assumption) (by assumption) ?_
            refine xg_iloadn 66 dX8_pourTable_65 rfl rfl rfl ?_
            refine xg_iconst 67 dX8_pourTable_66 rfl ?_
            refine xg_isub 68 dX8_pourTable_67 rfl ?_
            obtain ⟨s, rfl⟩ : ∃ s9, s = s9 + 1 := ⟨s - 1, by omega⟩
            rw [show (((s + 1 : Nat) : Int) - 1) = (s : Int) by omega]
            have htS := (sR (π s) (p4 s (by omega))).1
            refine xg_rald 69 dX8_pourTable_68 rfl (by assumption) (by omega) ((yFl_lo (by omega)).trans (p1 s (by omega))) ?_
            refine xg_rast 70 dX8_pourTable_69 rfl (by assumption) (by assumption) (by omega) ?_
            refine xg_iinc 73 _ dX8_pourTable_70 rfl rfl rfl rfl (by decide) (Or.inr rfl) ?_
            refine xg_goto 52 dX8_pourTable_73 rfl ?_
            rw [yFl_s (by omega)]
            exact xg_weak _ (xle_s rfl (xle_s rfl (xle_s (by rw [show (((s + 1 : Nat) : Int) + -1) = (s : Int) by omega]) xle_0))) (ih s (by omega) (by omega))
      rw [fNote_na (show a ≠ a + 51 by omega), c1, ← hn]
      have l0 := loop52 14 n (Nat.le_refl _) (by omega)
      rw [yFl_0] at l0
      exact xg_weak _ (xle_s rfl (xle_s rfl (xle_s rfl xle_0))) l0
    · exfalso; omega

