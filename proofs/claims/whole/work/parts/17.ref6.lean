theorem wInp_S (w : Int → Int) (i v : Int) (r : Nat) (h : i < 199) : wInp (wS w i v) r = wInp w r := by unfold wInp; rw [wS_ne _ _ _ (by omega)]
theorem wHas_S (w : Int → Int) (i v key : Int) (r : Nat) (h : i < 199) (hk : 0 ≤ key) : wHas (wS w i v) key r = wHas w key r := by unfold wHas; rw [wS_ne _ _ _ (by omega)]
theorem wN_S (w : Int → Int) (i v : Int) (h : i ≠ 0) : wN (wS w i v) = wN w := by unfold wN; rw [wS_ne _ _ _ (by omega)]
theorem sLow_S (w : Int → Int) (i v key : Int) (h : i < 199) (h0 : i ≠ 0) (hk : 0 ≤ key) : ∀ r : Nat, sLow (wS w i v) key r = sLow w key r
  | 0 => rfl
  | r + 1 => by
    rw [sLow_s, sLow_s, sLow_S w i v key h h0 hk r, wInp_S w i v r h, wHas_S w i v key r h hk, wN_S w i v h0]
    congr 3
    simp only [wInp_S w i v _ h]
/-- how the reads grow, run by run from lo on -/
def sRd (w : Int → Int) (key : Int) (lo : Nat) : Nat → Int
  | 0 => w 7
  | k + 1 => if (wInp w (lo + k) && wHas w key (lo + k)) = true then min 99999 (sRd w key lo k + 1) else sRd w key lo k
theorem sRd_bd {w : Int → Int} (h : 0 ≤ w 7 ∧ w 7 ≤ 99999) (key : Int) (lo : Nat) : ∀ k : Nat, 0 ≤ sRd w key lo k ∧ sRd w key lo k ≤ 99999
  | 0 => h
  | k + 1 => by
    have := sRd_bd h key lo k
    rw [sRd]
    split <;> omega
def sTk1 (w : Int → Int) (key : Int) : Int → Int := wS w 7 (sRd w key (sNewI w key) (wN w - sNewI w key))
def sTk2 (w : Int → Int) (key : Int) : Int → Int :=
  wS (wS (wS (sTk1 w key) (79 + key) (w (201 + 122 * (sNewI w key : Int) + key))) (139 + key) (min 99 (w (261 + 122 * (sNewI w key : Int) + key) + 1))) 8 (min 99999 (w 8 + 1))
def sTakes (w : Int → Int) (key : Int) : Int → Int :=
  wS (if w (201 + 122 * (sNewI w key : Int) + key) ≠ 100 ∨ sLow w key (wN w) = true then sTk2 w key else sTk1 w key) 18 (key + 1)
theorem wOk_tk1 {w : Int → Int} (h : wOk w) (key : Int) : wOk (sTk1 w key) := by
  have h7 := h.2.2.2.2.2.2.2.2.1 7 (by omega) (by omega)
  have := sRd_bd h7 key (sNewI w key) (wN w - sNewI w key)
  exact wOk_S h 7 _ (by unfold wCell; omega)
theorem wOk_takes {w : Int → Int} (h : wOk w) {key : Int} (hk : 0 ≤ key ∧ key < 60) (hn : sNewI w key < wN w) : wOk (sTakes w key) := by
  obtain ⟨hR, o0, o1, o2, o3, o4, o5, o6, oc, o13, o14, o16, o17, o18, ov⟩ := id h
  have hN := wN_i o0.1
  have h1 := ov (201 + 122 * (sNewI w key : Int) + key) (by omega) (by omega)
  have h2 := ov (261 + 122 * (sNewI w key : Int) + key) (by omega) (by omega)
  have h8 := oc 8 (by omega) (by omega)
  unfold sTakes
  refine wOk_S ?_ 18 _ (by unfold wCell; omega)
  split
  · unfold sTk2
    refine wOk_S (wOk_S (wOk_S (wOk_tk1 h key) _ _ ?_) _ _ ?_) _ _ ?_
    all_goals unfold wCell; omega
  · exact wOk_tk1 h key
theorem dX12_takes_0 : decode cX12_takes 0 = .ok (.aload_n 0, 1) := by decide +kernel
theorem dX12_takes_1 : decode cX12_takes 1 = .ok (.iload_n 1, 1) := by decide +kernel
theorem dX12_takes_2 : decode cX12_takes 2 = .ok (.invokevirtual 321, 3) := by decide +kernel
theorem dX12_takes_5 : decode cX12_takes 5 = .ok (.istore_n 2, 1) := by decide +kernel
theorem dX12_takes_6 : decode cX12_takes 6 = .ok (.iload_n 2, 1) := by decide +kernel
theorem dX12_takes_7 : decode cX12_takes 7 = .ok (.istore_n 3, 1) := by decide +kernel
theorem dX12_takes_8 : decode cX12_takes 8 = .ok (.iload_n 3, 1) := by decide +kernel
theorem dX12_takes_9 : decode cX12_takes 9 = .ok (.aload_n 0, 1) := by decide +kernel
theorem dX12_takes_10 : decode cX12_takes 10 = .ok (.invokevirtual 66, 3) := by decide +kernel
theorem dX12_takes_13 : decode cX12_takes 13 = .ok (.if_icmp .ge 42, 3) := by decide +kernel
theorem dX12_takes_16 : decode cX12_takes 16 = .ok (.aload_n 0, 1) := by decide +kernel
theorem dX12_takes_17 : decode cX12_takes 17 = .ok (.iload_n 3, 1) := by decide +kernel
theorem dX12_takes_18 : decode cX12_takes 18 = .ok (.invokevirtual 290, 3) := by decide +kernel
theorem dX12_takes_21 : decode cX12_takes 21 = .ok (.ifCond .eq 28, 3) := by decide +kernel
theorem dX12_takes_24 : decode cX12_takes 24 = .ok (.aload_n 0, 1) := by decide +kernel
theorem dX12_takes_25 : decode cX12_takes 25 = .ok (.getfield 13, 3) := by decide +kernel
theorem dX12_takes_28 : decode cX12_takes 28 = .ok (.iload_n 3, 1) := by decide +kernel
theorem dX12_takes_29 : decode cX12_takes 29 = .ok (.invokestatic 133, 3) := by decide +kernel
theorem dX12_takes_32 : decode cX12_takes 32 = .ok (.iload_n 1, 1) := by decide +kernel
theorem dX12_takes_33 : decode cX12_takes 33 = .ok (.iadd, 1) := by decide +kernel
theorem dX12_takes_34 : decode cX12_takes 34 = .ok (.iaload, 1) := by decide +kernel
theorem dX12_takes_35 : decode cX12_takes 35 = .ok (.iconst (-1), 1) := by decide +kernel
theorem dX12_takes_36 : decode cX12_takes 36 = .ok (.if_icmp .eq 13, 3) := by decide +kernel
theorem dX12_takes_39 : decode cX12_takes 39 = .ok (.aload_n 0, 1) := by decide +kernel
theorem dX12_takes_40 : decode cX12_takes 40 = .ok (.bipush 7, 2) := by decide +kernel
theorem dX12_takes_42 : decode cX12_takes 42 = .ok (.iconst 1, 1) := by decide +kernel
theorem dX12_takes_43 : decode cX12_takes 43 = .ok (.ldc_w 327, 3) := by decide +kernel
theorem dX12_takes_46 : decode cX12_takes 46 = .ok (.invokevirtual 302, 3) := by decide +kernel
theorem dX12_takes_49 : decode cX12_takes 49 = .ok (.iinc 3 1, 3) := by decide +kernel
theorem dX12_takes_52 : decode cX12_takes 52 = .ok (.goto (-44), 3) := by decide +kernel
theorem dX12_takes_55 : decode cX12_takes 55 = .ok (.aload_n 0, 1) := by decide +kernel
theorem dX12_takes_56 : decode cX12_takes 56 = .ok (.getfield 13, 3) := by decide +kernel
theorem dX12_takes_59 : decode cX12_takes 59 = .ok (.iload_n 2, 1) := by decide +kernel
theorem dX12_takes_60 : decode cX12_takes 60 = .ok (.invokestatic 133, 3) := by decide +kernel
theorem dX12_takes_63 : decode cX12_takes 63 = .ok (.iload_n 1, 1) := by decide +kernel
theorem dX12_takes_64 : decode cX12_takes 64 = .ok (.iadd, 1) := by decide +kernel
theorem dX12_takes_65 : decode cX12_takes 65 = .ok (.iaload, 1) := by decide +kernel
theorem dX12_takes_66 : decode cX12_takes 66 = .ok (.istore_n 3, 1) := by decide +kernel
theorem dX12_takes_67 : decode cX12_takes 67 = .ok (.iload_n 3, 1) := by decide +kernel
theorem dX12_takes_68 : decode cX12_takes 68 = .ok (.bipush 100, 2) := by decide +kernel
theorem dX12_takes_70 : decode cX12_takes 70 = .ok (.if_icmp .ne 11, 3) := by decide +kernel
theorem dX12_takes_73 : decode cX12_takes 73 = .ok (.aload_n 0, 1) := by decide +kernel
theorem dX12_takes_74 : decode cX12_takes 74 = .ok (.iload_n 1, 1) := by decide +kernel
theorem dX12_takes_75 : decode cX12_takes 75 = .ok (.invokevirtual 328, 3) := by decide +kernel
theorem dX12_takes_78 : decode cX12_takes 78 = .ok (.ifCond .eq 54, 3) := by decide +kernel
theorem dX12_takes_81 : decode cX12_takes 81 = .ok (.aload_n 0, 1) := by decide +kernel
theorem dX12_takes_82 : decode cX12_takes 82 = .ok (.getfield 13, 3) := by decide +kernel
theorem dX12_takes_85 : decode cX12_takes 85 = .ok (.bipush 79, 2) := by decide +kernel
theorem dX12_takes_87 : decode cX12_takes 87 = .ok (.iload_n 1, 1) := by decide +kernel
theorem dX12_takes_88 : decode cX12_takes 88 = .ok (.iadd, 1) := by decide +kernel
theorem dX12_takes_89 : decode cX12_takes 89 = .ok (.iload_n 3, 1) := by decide +kernel
theorem dX12_takes_90 : decode cX12_takes 90 = .ok (.iastore, 1) := by decide +kernel
theorem dX12_takes_91 : decode cX12_takes 91 = .ok (.aload_n 0, 1) := by decide +kernel
theorem dX12_takes_92 : decode cX12_takes 92 = .ok (.getfield 13, 3) := by decide +kernel
theorem dX12_takes_95 : decode cX12_takes 95 = .ok (.sipush 139, 3) := by decide +kernel
theorem dX12_takes_98 : decode cX12_takes 98 = .ok (.iload_n 1, 1) := by decide +kernel
theorem dX12_takes_99 : decode cX12_takes 99 = .ok (.iadd, 1) := by decide +kernel
theorem dX12_takes_100 : decode cX12_takes 100 = .ok (.bipush 99, 2) := by decide +kernel
theorem dX12_takes_102 : decode cX12_takes 102 = .ok (.aload_n 0, 1) := by decide +kernel
theorem dX12_takes_103 : decode cX12_takes 103 = .ok (.getfield 13, 3) := by decide +kernel
theorem dX12_takes_106 : decode cX12_takes 106 = .ok (.iload_n 2, 1) := by decide +kernel
theorem dX12_takes_107 : decode cX12_takes 107 = .ok (.invokestatic 133, 3) := by decide +kernel
theorem dX12_takes_110 : decode cX12_takes 110 = .ok (.bipush 60, 2) := by decide +kernel
theorem dX12_takes_112 : decode cX12_takes 112 = .ok (.iadd, 1) := by decide +kernel
theorem dX12_takes_113 : decode cX12_takes 113 = .ok (.iload_n 1, 1) := by decide +kernel
theorem dX12_takes_114 : decode cX12_takes 114 = .ok (.iadd, 1) := by decide +kernel
theorem dX12_takes_115 : decode cX12_takes 115 = .ok (.iaload, 1) := by decide +kernel
theorem dX12_takes_116 : decode cX12_takes 116 = .ok (.iconst 1, 1) := by decide +kernel
theorem dX12_takes_117 : decode cX12_takes 117 = .ok (.iadd, 1) := by decide +kernel
theorem dX12_takes_118 : decode cX12_takes 118 = .ok (.invokestatic 74, 3) := by decide +kernel
theorem dX12_takes_121 : decode cX12_takes 121 = .ok (.iastore, 1) := by decide +kernel
theorem dX12_takes_122 : decode cX12_takes 122 = .ok (.aload_n 0, 1) := by decide +kernel
theorem dX12_takes_123 : decode cX12_takes 123 = .ok (.bipush 8, 2) := by decide +kernel
theorem dX12_takes_125 : decode cX12_takes 125 = .ok (.iconst 1, 1) := by decide +kernel
theorem dX12_takes_126 : decode cX12_takes 126 = .ok (.ldc_w 327, 3) := by decide +kernel
theorem dX12_takes_129 : decode cX12_takes 129 = .ok (.invokevirtual 302, 3) := by decide +kernel
theorem dX12_takes_132 : decode cX12_takes 132 = .ok (.aload_n 0, 1) := by decide +kernel
theorem dX12_takes_133 : decode cX12_takes 133 = .ok (.getfield 13, 3) := by decide +kernel
theorem dX12_takes_136 : decode cX12_takes 136 = .ok (.bipush 18, 2) := by decide +kernel
theorem dX12_takes_138 : decode cX12_takes 138 = .ok (.iload_n 1, 1) := by decide +kernel
theorem dX12_takes_139 : decode cX12_takes 139 = .ok (.iconst 1, 1) := by decide +kernel
theorem dX12_takes_140 : decode cX12_takes 140 = .ok (.iadd, 1) := by decide +kernel
theorem dX12_takes_141 : decode cX12_takes 141 = .ok (.iastore, 1) := by decide +kernel
theorem dX12_takes_142 : decode cX12_takes 142 = .ok (.return_, 1) := by decide +kernel
set_option maxHeartbeats 4000000 in
set_option maxRecDepth 100000 in
theorem ct_X12_takes {E : xE} {z : Nat} {T : Nat → Nat × Int} {F : Nat → Nat → Int} {I : Nat → Int → Int} {P : Nat → Nat → Option Nat} {Y : Nat → Int → Option Nat} {m : Nat} {w : Int → Int} (hw : wM T P m) (hO : wOk w){key : Int} (hk : 0 ≤ key ∧ key < 60) (hn : sNewI w key < wN w) : Ct E 4 mX12_takes 0 0 [.ref m, J key] (z, T, F, upA I (m + 1) w, P, Y) (xd none (z, T, F, upA I (m + 1) (sTakes w key), P, Y)) := by
  obtain ⟨⟨q0, q1, q2, q3⟩, -⟩ := id hw
  obtain ⟨hR, o0, o1, o2, o3, o4, o5, o6, oc, o13, o14, o16, o17, o18, ov⟩ := id hO
  have hN := wN_i o0.1
  have h7 := oc 7 (by omega) (by omega)
  have hnw : sNewW w key = (sNewI w key : Int) := by unfold sNewW; rw [if_neg (by omega)]
  refine Ct.of [some (.ref m), some (J key), none, none] kt_X12_takes rfl (Nat.le_of_ble_eq_true rfl) rfl (fun d hd => ?_)
  generalize hX : xN E _ _ _ = X
  refine xg_aloadn 1 dX12_takes_0 rfl rfl rfl ?_
  refine xg_iloadn 2 dX12_takes_1 rfl rfl rfl ?_
  refine xg_callV 5 12 [_] _ kv_X12_newestWith ⟨_, _, rfl⟩ kl_RX12_321 dX12_takes_2 rfl (by assumption) (by omega) rfl rfl (Nat.le_of_ble_eq_true rfl) (by omega) ⟨Nat.le_refl _, Nat.le_refl _⟩ (ct_X12_newestWith hw hO (by omega)) rfl ?_
  rw [hnw]
  refine xg_istoren 6 _ dX12_takes_5 rfl rfl rfl (by decide) (Or.inr rfl) ?_
  refine xg_iloadn 7 dX12_takes_6 rfl rfl rfl ?_
  refine xg_istoren 8 _ dX12_takes_7 rfl rfl rfl (by decide) (Or.inr rfl) ?_
  have loop8 : ∀ (mm : Nat) (k : Nat), (sNewI w key + k ≤ wN w) → (wN w : Int) - (sNewI w key + k : Nat) < (mm : Int) → xG E mX12_takes (xR d 0 0) X 8 [some (.ref m), some (J key), some (J (sNewI w key : Nat)), some (J ((sNewI w key + k : Nat) : Int))] [] (z, T, F, upA I (m + 1) (wS w 7 (sRd w key (sNewI w key) k)), P, Y) 0 0 := by
    intro mm
    induction mm with
    | zero => intro k hk2 hm; exfalso; omega
    | succ mm ih =>
      intro k hk2 hm
      have hrb := sRd_bd h7 key (sNewI w key) k
      have h32 : w32 (wS w 7 (sRd w key (sNewI w key) k)) := w32_S hR _ _ (by omega)
      refine xg_iloadn 9 dX12_takes_8 rfl rfl rfl ?_
      refine xg_aloadn 10 dX12_takes_9 rfl rfl rfl ?_
      refine xg_callV 13 12 [] _ kv_X12_runs ⟨_, _, rfl⟩ kl_RX12_66 dX12_takes_10 rfl (by assumption) (by omega) rfl rfl (Nat.le_of_ble_eq_true rfl) (by omega) ⟨Nat.le_refl _, Nat.le_refl _⟩ (ct_X12_runs hw) rfl ?_
      rw [wS_ne _ _ _ (by omega)]
      refine xg_icge 55 16 dX12_takes_13 rfl rfl (by first | omega | exact hR _ | exact ⟨hR _, by omega⟩ | exact ⟨by omega, hR _⟩ | exact ⟨hR _, hR _⟩) (fun hb13 => ?_) (fun hb13 => ?_)
      · skip
        rw [show k = wN w - sNewI w key by omega]
        change xG _ _ _ _ _ _ _ (z, T, F, upA I (m + 1) (sTk1 w key), P, Y) _ _
        refine xg_aloadn 56 dX12_takes_55 rfl rfl rfl ?_
        refine xg_getP 59 kf_RX12_13 dX12_takes_56 rfl (by assumption) (by assumption) ?_
        refine xg_iloadn 60 dX12_takes_59 rfl rfl rfl ?_
        refine xg_callS 63 [_] _ ks_X12_rowOf kl_RX12_133 dX12_takes_60 rfl rfl rfl (Nat.le_of_ble_eq_true rfl) (by omega) ⟨Nat.le_refl _, Nat.le_refl _⟩ (ct_X12_rowOf) rfl ?_
        refine xg_iloadn 64 dX12_takes_63 rfl rfl rfl ?_
        refine xg_iadd 65 dX12_takes_64 rfl ?_
        refine xg_ialdW 66 dX12_takes_65 rfl (by assumption) (by first | omega | exact hR _ | exact ⟨hR _, by omega⟩ | exact ⟨by omega, hR _⟩ | exact ⟨hR _, hR _⟩) ?_
        rw [show sTk1 w key (201 + 122 * (sNewI w key : Int) + key) = w (201 + 122 * (sNewI w key : Int) + key) from wS_ne _ _ _ (by omega)]
        have hv8 := hR (201 + 122 * (sNewI w key : Int) + key)
        refine xg_istoren 67 _ dX12_takes_66 rfl rfl rfl (by decide) (Or.inr rfl) ?_
        refine xg_iloadn 68 dX12_takes_67 rfl rfl rfl ?_
        refine xg_bipush 70 dX12_takes_68 rfl (by decide) ?_
        refine xg_icne 81 73 dX12_takes_70 rfl rfl (by first | omega | exact hR _ | exact ⟨hR _, by omega⟩ | exact ⟨by omega, hR _⟩ | exact ⟨hR _, hR _⟩) (fun hb70 => ?_) (fun hb70 => ?_)
        · skip
          refine xg_aloadn 82 dX12_takes_81 rfl rfl rfl ?_
          refine xg_getP 85 kf_RX12_13 dX12_takes_82 rfl (by assumption) (by assumption) ?_
          refine xg_bipush 87 dX12_takes_85 rfl (by decide) ?_
          refine xg_iloadn 88 dX12_takes_87 rfl rfl rfl ?_
          refine xg_iadd 89 dX12_takes_88 rfl ?_
          refine xg_iloadn 90 dX12_takes_89 rfl rfl rfl ?_
          refine xg_iastW 91 dX12_takes_90 rfl (by assumption) (by first | omega | exact hR _ | exact ⟨hR _, by omega⟩ | exact ⟨by omega, hR _⟩ | exact ⟨hR _, hR _⟩) ?_
          refine xg_aloadn 92 dX12_takes_91 rfl rfl rfl ?_
          refine xg_getP 95 kf_RX12_13 dX12_takes_92 rfl (by assumption) (by assumption) ?_
          refine xg_sipush 98 dX12_takes_95 rfl (by decide) ?_
          refine xg_iloadn 99 dX12_takes_98 rfl rfl rfl ?_
          refine xg_iadd 100 dX12_takes_99 rfl ?_
          refine xg_bipush 102 dX12_takes_100 rfl (by decide) ?_
          refine xg_aloadn 103 dX12_takes_102 rfl rfl rfl ?_
          refine xg_getP 106 kf_RX12_13 dX12_takes_103 rfl (by assumption) (by assumption) ?_
          refine xg_iloadn 107 dX12_takes_106 rfl rfl rfl ?_
          refine xg_callS 110 [_] _ ks_X12_rowOf kl_RX12_133 dX12_takes_107 rfl rfl rfl (Nat.le_of_ble_eq_true rfl) (by omega) ⟨Nat.le_refl _, Nat.le_refl _⟩ (ct_X12_rowOf) rfl ?_
          refine xg_bipush 112 dX12_takes_110 rfl (by decide) ?_
          refine xg_iadd 113 dX12_takes_112 rfl ?_
          refine xg_iloadn 114 dX12_takes_113 rfl rfl rfl ?_
          refine xg_iadd 115 dX12_takes_114 rfl ?_
          refine xg_ialdW 116 dX12_takes_115 rfl (by assumption) (by first | omega | exact hR _ | exact ⟨hR _, by omega⟩ | exact ⟨by omega, hR _⟩ | exact ⟨hR _, hR _⟩) ?_
          refine xg_iconst 117 dX12_takes_116 rfl ?_
          refine xg_iadd 118 dX12_takes_117 rfl ?_
          rw [wS_ne _ _ _ (show 201 + 122 * (sNewI w key : Int) + 60 + key ≠ 79 + key by omega), show sTk1 w key (201 + 122 * (sNewI w key : Int) + 60 + key) = w (261 + 122 * (sNewI w key : Int) + key) by unfold sTk1; rw [wS_ne _ _ _ (by omega)]; congr 1; omega]
          have hv7 := ov (261 + 122 * (sNewI w key : Int) + key) (by omega) (by omega)
          refine xg_mmin 121 kl_RX12_74 dX12_takes_118 rfl (by first | omega | exact hR _ | exact ⟨hR _, by omega⟩ | exact ⟨by omega, hR _⟩ | exact ⟨hR _, hR _⟩) (Nat.le_of_ble_eq_true rfl) (by omega) ⟨Nat.le_refl _, Nat.le_refl _⟩ ?_
          refine xg_iastW 122 dX12_takes_121 rfl (by assumption) (by first | omega | exact hR _ | exact ⟨hR _, by omega⟩ | exact ⟨by omega, hR _⟩ | exact ⟨hR _, hR _⟩) ?_
          refine xg_aloadn 123 dX12_takes_122 rfl rfl rfl ?_
          refine xg_bipush 125 dX12_takes_123 rfl (by decide) ?_
          refine xg_iconst 126 dX12_takes_125 rfl ?_
          refine xg_ldcw (z := 99999) 129 kk_RX12_327 dX12_takes_126 rfl rfl ?_
          refine xg_callV 132 12 [_, _, _] _ kv_X12_more ⟨_, _, rfl⟩ kl_RX12_302 dX12_takes_129 rfl (by assumption) (by omega) rfl rfl (Nat.le_of_ble_eq_true rfl) (by omega) ⟨Nat.le_refl _, Nat.le_refl _⟩ (ct_X12_more hw (by omega) (by rw [wS_ne _ _ _ (by omega), wS_ne _ _ _ (by omega), show sTk1 w key 8 = w 8 from wS_ne _ _ _ (by omega)]; have := oc 8 (by omega) (by omega); omega) (by omega)) rfl ?_
          refine xg_aloadn 133 dX12_takes_132 rfl rfl rfl ?_
          refine xg_getP 136 kf_RX12_13 dX12_takes_133 rfl (by assumption) (by assumption) ?_
          refine xg_bipush 138 dX12_takes_136 rfl (by decide) ?_
          refine xg_iloadn 139 dX12_takes_138 rfl rfl rfl ?_
          refine xg_iconst 140 dX12_takes_139 rfl ?_
          refine xg_iadd 141 dX12_takes_140 rfl ?_
          refine xg_iastW 142 dX12_takes_141 rfl (by assumption) (by first | omega | exact hR _ | exact ⟨hR _, by omega⟩ | exact ⟨by omega, hR _⟩ | exact ⟨hR _, hR _⟩) ?_
          subst hX
          exact xg_return dX12_takes_142 rfl ⟨Nat.le_refl _, Nat.le_refl _⟩ ⟨rfl, by unfold sTakes; rw [if_pos (Or.inl hb70)]; unfold sTk2; rw [wS_ne _ _ _ (show (8 : Int) ≠ 139 + key by omega), wS_ne _ _ _ (show (8 : Int) ≠ 79 + key by omega), show sTk1 w key 8 = w 8 from wS_ne _ _ _ (by omega)]⟩
        · skip
          refine xg_aloadn 74 dX12_takes_73 rfl rfl rfl ?_
          refine xg_iloadn 75 dX12_takes_74 rfl rfl rfl ?_
          refine xg_callV 78 12 [_] _ kv_X12_lowerHas ⟨_, _, rfl⟩ kl_RX12_328 dX12_takes_75 rfl (by assumption) (by omega) rfl rfl (Nat.le_of_ble_eq_true rfl) (by omega) ⟨Nat.le_refl _, Nat.le_refl _⟩ (ct_X12_lowerHas hw (wOk_tk1 hO key) hk) rfl ?_
          rw [show sLow (sTk1 w key) key (wN (sTk1 w key)) = sLow w key (wN w) by unfold sTk1; rw [wN_S _ _ _ (by omega), sLow_S _ _ _ _ (by omega) (by omega) (by omega)]]
          refine xg_beq 132 81 dX12_takes_78 rfl rfl (fun hb78 => ?_) (fun hb78 => ?_)
          · skip
            refine xg_aloadn 133 dX12_takes_132 rfl rfl rfl ?_
            refine xg_getP 136 kf_RX12_13 dX12_takes_133 rfl (by assumption) (by assumption) ?_
            refine xg_bipush 138 dX12_takes_136 rfl (by decide) ?_
            refine xg_iloadn 139 dX12_takes_138 rfl rfl rfl ?_
            refine xg_iconst 140 dX12_takes_139 rfl ?_
            refine xg_iadd 141 dX12_takes_140 rfl ?_
            refine xg_iastW 142 dX12_takes_141 rfl (by assumption) (by first | omega | exact hR _ | exact ⟨hR _, by omega⟩ | exact ⟨by omega, hR _⟩ | exact ⟨hR _, hR _⟩) ?_
            subst hX
            exact xg_return dX12_takes_142 rfl ⟨Nat.le_refl _, Nat.le_refl _⟩ ⟨rfl, by unfold sTakes; rw [if_neg (by rintro (q | q); exact q hb70; rw [hb78] at q; cases q)]⟩
          · skip
            refine xg_aloadn 82 dX12_takes_81 rfl rfl rfl ?_
            refine xg_getP 85 kf_RX12_13 dX12_takes_82 rfl (by assumption) (by assumption) ?_
            refine xg_bipush 87 dX12_takes_85 rfl (by decide) ?_
            refine xg_iloadn 88 dX12_takes_87 rfl rfl rfl ?_
            refine xg_iadd 89 dX12_takes_88 rfl ?_
            refine xg_iloadn 90 dX12_takes_89 rfl rfl rfl ?_
            refine xg_iastW 91 dX12_takes_90 rfl (by assumption) (by first | omega | exact hR _ | exact ⟨hR _, by omega⟩ | exact ⟨by omega, hR _⟩ | exact ⟨hR _, hR _⟩) ?_
            refine xg_aloadn 92 dX12_takes_91 rfl rfl rfl ?_
            refine xg_getP 95 kf_RX12_13 dX12_takes_92 rfl (by assumption) (by assumption) ?_
            refine xg_sipush 98 dX12_takes_95 rfl (by decide) ?_
            refine xg_iloadn 99 dX12_takes_98 rfl rfl rfl ?_
            refine xg_iadd 100 dX12_takes_99 rfl ?_
            refine xg_bipush 102 dX12_takes_100 rfl (by decide) ?_
            refine xg_aloadn 103 dX12_takes_102 rfl rfl rfl ?_
            refine xg_getP 106 kf_RX12_13 dX12_takes_103 rfl (by assumption) (by assumption) ?_
            refine xg_iloadn 107 dX12_takes_106 rfl rfl rfl ?_
            refine xg_callS 110 [_] _ ks_X12_rowOf kl_RX12_133 dX12_takes_107 rfl rfl rfl (Nat.le_of_ble_eq_true rfl) (by omega) ⟨Nat.le_refl _, Nat.le_refl _⟩ (ct_X12_rowOf) rfl ?_
            refine xg_bipush 112 dX12_takes_110 rfl (by decide) ?_
            refine xg_iadd 113 dX12_takes_112 rfl ?_
            refine xg_iloadn 114 dX12_takes_113 rfl rfl rfl ?_
            refine xg_iadd 115 dX12_takes_114 rfl ?_
            refine xg_ialdW 116 dX12_takes_115 rfl (by assumption) (by first | omega | exact hR _ | exact ⟨hR _, by omega⟩ | exact ⟨by omega, hR _⟩ | exact ⟨hR _, hR _⟩) ?_
            refine xg_iconst 117 dX12_takes_116 rfl ?_
            refine xg_iadd 118 dX12_takes_117 rfl ?_
            rw [wS_ne _ _ _ (show 201 + 122 * (sNewI w key : Int) + 60 + key ≠ 79 + key by omega), show sTk1 w key (201 + 122 * (sNewI w key : Int) + 60 + key) = w (261 + 122 * (sNewI w key : Int) + key) by unfold sTk1; rw [wS_ne _ _ _ (by omega)]; congr 1; omega]
            have hv7 := ov (261 + 122 * (sNewI w key : Int) + key) (by omega) (by omega)
            refine xg_mmin 121 kl_RX12_74 dX12_takes_118 rfl (by first | omega | exact hR _ | exact ⟨hR _, by omega⟩ | exact ⟨by omega, hR _⟩ | exact ⟨hR _, hR _⟩) (Nat.le_of_ble_eq_true rfl) (by omega) ⟨Nat.le_refl _, Nat.le_refl _⟩ ?_
            refine xg_iastW 122 dX12_takes_121 rfl (by assumption) (by first | omega | exact hR _ | exact ⟨hR _, by omega⟩ | exact ⟨by omega, hR _⟩ | exact ⟨hR _, hR _⟩) ?_
            refine xg_aloadn 123 dX12_takes_122 rfl rfl rfl ?_
            refine xg_bipush 125 dX12_takes_123 rfl (by decide) ?_
            refine xg_iconst 126 dX12_takes_125 rfl ?_
            refine xg_ldcw (z := 99999) 129 kk_RX12_327 dX12_takes_126 rfl rfl ?_
            refine xg_callV 132 12 [_, _, _] _ kv_X12_more ⟨_, _, rfl⟩ kl_RX12_302 dX12_takes_129 rfl (by assumption) (by omega) rfl rfl (Nat.le_of_ble_eq_true rfl) (by omega) ⟨Nat.le_refl _, Nat.le_refl _⟩ (ct_X12_more hw (by omega) (by rw [wS_ne _ _ _ (by omega), wS_ne _ _ _ (by omega), show sTk1 w key 8 = w 8 from wS_ne _ _ _ (by omega)]; have := oc 8 (by omega) (by omega); omega) (by omega)) rfl ?_
            refine xg_aloadn 133 dX12_takes_132 rfl rfl rfl ?_
            refine xg_getP 136 kf_RX12_13 dX12_takes_133 rfl (by assumption) (by assumption) ?_
            refine xg_bipush 138 dX12_takes_136 rfl (by decide) ?_
            refine xg_iloadn 139 dX12_takes_138 rfl rfl rfl ?_
            refine xg_iconst 140 dX12_takes_139 rfl ?_
            refine xg_iadd 141 dX12_takes_140 rfl ?_
            refine xg_iastW 142 dX12_takes_141 rfl (by assumption) (by first | omega | exact hR _ | exact ⟨hR _, by omega⟩ | exact ⟨by omega, hR _⟩ | exact ⟨hR _, hR _⟩) ?_
            subst hX
            exact xg_return dX12_takes_142 rfl ⟨Nat.le_refl _, Nat.le_refl _⟩ ⟨rfl, by unfold sTakes; rw [if_pos (Or.inr hb78)]; unfold sTk2; rw [wS_ne _ _ _ (show (8 : Int) ≠ 139 + key by omega), wS_ne _ _ _ (show (8 : Int) ≠ 79 + key by omega), show sTk1 w key 8 = w 8 from wS_ne _ _ _ (by omega)]⟩
      · skip
        refine xg_aloadn 17 dX12_takes_16 rfl rfl rfl ?_
        refine xg_iloadn 18 dX12_takes_17 rfl rfl rfl ?_
        refine xg_callV 21 12 [_] _ kv_X12_isInput ⟨_, _, rfl⟩ kl_RX12_290 dX12_takes_18 rfl (by assumption) (by omega) rfl rfl (Nat.le_of_ble_eq_true rfl) (by omega) ⟨Nat.le_refl _, Nat.le_refl _⟩ (ct_X12_isInput hw h32 (by omega)) rfl ?_
        rw [wS_ne _ _ _ (show (200 + 122 * ((sNewI w key + k : Nat) : Int)) ≠ 7 by omega)]
        refine xg_deq 49 24 dX12_takes_21 rfl rfl (fun hb21 => ?_) (fun hb21 => ?_)
        · skip
          refine xg_iinc 52 _ dX12_takes_49 rfl rfl rfl rfl (by decide) (Or.inr rfl) ?_
          refine xg_goto 8 dX12_takes_52 rfl ?_
          exact xg_weak _ (xle_s rfl (xle_s rfl (xle_s rfl (xle_s rfl xle_0)))) (xg_to rfl (by rw [sRd, if_neg (by simp only [wInp, hb21, decide_false, Bool.false_and]; decide)]) (ih (k + 1) (by omega) (by omega)))
        · skip
          refine xg_aloadn 25 dX12_takes_24 rfl rfl rfl ?_
          refine xg_getP 28 kf_RX12_13 dX12_takes_25 rfl (by assumption) (by assumption) ?_
          refine xg_iloadn 29 dX12_takes_28 rfl rfl rfl ?_
          refine xg_callS 32 [_] _ ks_X12_rowOf kl_RX12_133 dX12_takes_29 rfl rfl rfl (Nat.le_of_ble_eq_true rfl) (by omega) ⟨Nat.le_refl _, Nat.le_refl _⟩ (ct_X12_rowOf) rfl ?_
          refine xg_iloadn 33 dX12_takes_32 rfl rfl rfl ?_
          refine xg_iadd 34 dX12_takes_33 rfl ?_
          refine xg_ialdW 35 dX12_takes_34 rfl (by assumption) (by first | omega | exact hR _ | exact ⟨hR _, by omega⟩ | exact ⟨by omega, hR _⟩ | exact ⟨hR _, hR _⟩) ?_
          rw [wS_ne _ _ _ (show 201 + 122 * ((sNewI w key + k : Nat) : Int) + key ≠ 7 by omega)]
          have hv9 := hR (201 + 122 * ((sNewI w key + k : Nat) : Int) + key)
          refine xg_iconst 36 dX12_takes_35 rfl ?_
          refine xg_iceq 49 39 dX12_takes_36 rfl rfl (by first | omega | exact hR _ | exact ⟨hR _, by omega⟩ | exact ⟨by omega, hR _⟩ | exact ⟨hR _, hR _⟩) (fun hb36 => ?_) (fun hb36 => ?_)
          · skip
            refine xg_iinc 52 _ dX12_takes_49 rfl rfl rfl rfl (by decide) (Or.inr rfl) ?_
            refine xg_goto 8 dX12_takes_52 rfl ?_
            exact xg_weak _ (xle_s rfl (xle_s rfl (xle_s rfl (xle_s rfl xle_0)))) (xg_to rfl (by rw [sRd, if_neg (by simp only [wHas, hb36, ne_eq, not_true_eq_false, decide_false, Bool.and_false]; decide)]) (ih (k + 1) (by omega) (by omega)))
          · skip
            refine xg_aloadn 40 dX12_takes_39 rfl rfl rfl ?_
            refine xg_bipush 42 dX12_takes_40 rfl (by decide) ?_
            refine xg_iconst 43 dX12_takes_42 rfl ?_
            refine xg_ldcw (z := 99999) 46 kk_RX12_327 dX12_takes_43 rfl rfl ?_
            refine xg_callV 49 12 [_, _, _] _ kv_X12_more ⟨_, _, rfl⟩ kl_RX12_302 dX12_takes_46 rfl (by assumption) (by omega) rfl rfl (Nat.le_of_ble_eq_true rfl) (by omega) ⟨Nat.le_refl _, Nat.le_refl _⟩ (ct_X12_more hw (by omega) (by rw [wS_at]; omega) (by omega)) rfl ?_
            rw [wS_wS, wS_at]
            refine xg_iinc 52 _ dX12_takes_49 rfl rfl rfl rfl (by decide) (Or.inr rfl) ?_
            refine xg_goto 8 dX12_takes_52 rfl ?_
            exact xg_weak _ (xle_s rfl (xle_s rfl (xle_s rfl (xle_s rfl xle_0)))) (xg_to rfl (by rw [sRd, if_pos (by rw [Bool.and_eq_true]; exact ⟨decide_eq_true hb21, decide_eq_true hb36⟩)]) (ih (k + 1) (by omega) (by omega)))
  have l0 := loop8 20 0 (by omega) (by omega)
  rw [show sRd w key (sNewI w key) 0 = w 7 from rfl, wS_id] at l0
  exact xg_weak _ (xle_s rfl (xle_s rfl (xle_s rfl (xle_s rfl xle_0)))) l0

