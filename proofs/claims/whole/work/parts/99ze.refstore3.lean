theorem w32_CC {u w w9 : Int → Int} (h : w32 w9) (h2 : w32 w) : w32 (wCo w9 (wCo u w 0 2752) 0 2752) := by
  intro j; unfold wCo; split
  · rw [if_pos (by omega)]; exact h2 _
  · exact h j
set_option maxHeartbeats 4000000 in
set_option maxRecDepth 100000 in
theorem ct_X12_store {E : xE} {z : Nat} {T : Nat → Nat × Int} {F : Nat → Nat → Int} {I : Nat → Int → Int} {P : Nat → Nat → Option Nat} {Y : Nat → Int → Option Nat} {m : Nat} {w : Int → Int} (hw : wM T P m) (hT : ∀ j : Int, -128 ≤ I (m + 6) j ∧ I (m + 6) j ≤ 127) {t : Int → Int} {e : Int} (ht : rTp t (I (m + 6)) e) (he : 0 ≤ e ∧ e ≤ 400) (h9 : F m 9 = e) {ad adv : Nat → Nat} {sio : Option Nat} (hW : ∀ u : State, E.2.2.2.2 u → oWs E.2.2.2.1 ad adv sio u) (hI : wI2 w) : Ct E 50 mX12_store 0 0 [.ref m] (z, T, F, upA I (m + 1) w, P, Y) (rStP m z T F I P Y w (gSto t e w)) := by
  obtain ⟨⟨q0, q1, q2, q3⟩, -, ⟨v1, v2, v3⟩, -⟩ := id hw
  have v4 : m + 3 ≠ m + 1 := by omega
  have htb : ∀ j : Int, 0 ≤ j → j < e → 0 ≤ t j ∧ t j ≤ 255 := fun j a b => (ht j a b).1
  have hO := hI.1.1.1
  have hT0 : ∀ j : Int, -128 ≤ (upA I (m + 3) (wCo (I (m + 3)) w 0 2752)) (m + 6) j ∧ (upA I (m + 3) (wCo (I (m + 3)) w 0 2752)) (m + 6) j ≤ 127 := by rw [upA_na _ _ _ (by omega)]; exact hT
  have ht0 : rTp t ((upA I (m + 3) (wCo (I (m + 3)) w 0 2752)) (m + 6)) e := by rw [upA_na _ _ _ (by omega)]; exact ht
  refine Ct.of [some (.ref m), none, none] kt_X12_store rfl (Nat.le_of_ble_eq_true rfl) rfl (fun d hd => ?_)
  generalize hX : xN E _ _ _ = X
  refine xg_own (m + 3) (m + 1) ?_
  refine xg_iconst 1 dX12_store_0 rfl ?_
  refine xg_istoren 2 _ dX12_store_1 rfl rfl rfl (by decide) (Or.inr rfl) ?_
  have loop2 : ∀ (mm : Nat) (k : Int), (0 ≤ k ∧ k ≤ 2752) → 2752 - k < (mm : Int) → xG E mX12_store (xR d 0 0) X 2 [some (.ref m), some (J k), none] [] (z, T, F, upA (upA I (m + 3) (wCo (I (m + 3)) w 0 k)) (m + 1) (w), P, Y) 0 0 := by
    intro mm
    induction mm with
    | zero => intro k hk hm; exfalso; omega
    | succ mm ih =>
      intro k hk hm
      refine xg_iloadn 3 dX12_store_2 rfl rfl rfl ?_
      refine xg_sipush 6 dX12_store_3 rfl (by decide) ?_
      refine xg_icge 27 9 dX12_store_6 rfl rfl (by omega) (fun hb6 => ?_) (fun hb6 => ?_)
      · skip
        rw [show k = 2752 by omega]
        refine xg_aloadn 28 dX12_store_27 rfl rfl rfl ?_
        refine xg_iconst 29 dX12_store_28 rfl ?_
        rcases hs9 : gSto t e w with f9 | w9
        · skip
          refine xg_callVe 32 12 [_] _ kv_X12_readAll ⟨_, _, rfl⟩ kl_RX12_247 dX12_store_29 rfl (by assumption) (by omega) rfl rfl (Nat.le_of_ble_eq_true rfl) (by omega) ⟨Nat.le_refl _, Nat.le_refl _⟩ (rStA.cg hs9 (ct_X12_readAll_store hw hT0 ht0 he h9 hW hI)) rfl (fun v9 h9 e9 => ?_)
          obtain ⟨rfl, p9, dd9, c9, w9, I9, hR9, hX9, rfl⟩ := e9
          refine xg_istoren 33 _ dX12_store_32 rfl rfl rfl (by decide) (Or.inr rfl) ?_
          refine xg_aloadn 34 dX12_store_33 rfl rfl rfl ?_
          refine xg_iloadn 35 dX12_store_34 rfl rfl rfl ?_
          refine xg_ifge 45 38 dX12_store_35 rfl rfl (by omega) (fun hb35 => ?_) (fun hb35 => ?_)
          · exfalso; omega
          · skip
            refine xg_aloadn 39 dX12_store_38 rfl rfl rfl ?_
            refine xg_getI 42 kf_RX12_93 dX12_store_39 rfl (by assumption) ?_
            rw [fR_12]
            refine xg_goto 46 dX12_store_42 rfl ?_
            refine xg_putI 49 kf_RX12_33 dX12_store_46 rfl (by assumption) ?_
            refine xg_aloadn 50 dX12_store_49 rfl rfl rfl ?_
            refine xg_iloadn 51 dX12_store_50 rfl rfl rfl ?_
            refine xg_ifge 58 54 dX12_store_51 rfl rfl (by omega) (fun hb51 => ?_) (fun hb51 => ?_)
            · exfalso; omega
            · skip
              refine xg_iconst 55 dX12_store_54 rfl ?_
              refine xg_goto 59 dX12_store_55 rfl ?_
              refine xg_iconst 60 dX12_store_59 rfl ?_
              refine xg_callV 63 12 [_, _] _ kv_X12_throwsIf ⟨_, _, rfl⟩ kl_RX12_251 dX12_store_60 rfl (by assumption) (by omega) rfl rfl (Nat.le_of_ble_eq_true rfl) (by omega) ⟨Nat.le_refl _, Nat.le_refl _⟩ (ct_throwsT hw) rfl ?_
              refine xg_ifne 90 66 dX12_store_63 rfl rfl (by omega) (fun hb63 => ?_) (fun hb63 => ?_)
              · skip
                refine xg_own (m + 3) (m + 1) ?_
                refine xg_iconst 91 dX12_store_90 rfl ?_
                refine xg_istoren 92 _ dX12_store_91 rfl rfl rfl (by decide) (Or.inr rfl) ?_
                have loop92 : ∀ (mm : Nat) (k : Int), (0 ≤ k ∧ k ≤ 2752) → 2752 - k < (mm : Int) → xG E mX12_store (xR d 0 0) X 92 [some (.ref m), none, some (J k)] [] (z, T, (upF (upF (fR (fUse F m) m (p9) (f9) (dd9) (c9)) m 14 (f9)) m 0 (1)), upA (upA I9 (m + 3) (I9 (m + 3))) (m + 1) (wCo w9 (I9 (m + 3)) 0 k), P, Y) 0 0 := by
                  intro mm
                  induction mm with
                  | zero => intro k hk hm; exfalso; omega
                  | succ mm ih =>
                    intro k hk hm
                    refine xg_iloadn 93 dX12_store_92 rfl rfl rfl ?_
                    refine xg_sipush 96 dX12_store_93 rfl (by decide) ?_
                    refine xg_icge 117 99 dX12_store_96 rfl rfl (by omega) (fun hb96 => ?_) (fun hb96 => ?_)
                    · skip
                      refine xg_iconst 118 dX12_store_117 rfl ?_
                      subst hX
                      refine xg_ireturn dX12_store_118 rfl ⟨Nat.le_refl _, Nat.le_refl _⟩ ?_
                      rw [hs9, upA_id]
                      have hG9 : I9 (m + 3) = (wCo (I (m + 3)) w 0 2752) := (hX9 (m + 3) (by omega)).trans (upA_at _ _ _)
                      exact ⟨rfl, _, _, _, _, _, _, fun j j1 j2 => by rw [show k = 2752 by omega]; unfold wCo; rw [if_pos (by omega), hG9, Int.sub_zero]; unfold wCo; rw [if_pos (by omega), Int.sub_zero], by rw [show k = 2752 by omega, hG9]; exact w32_CC hR9 hO.1, fun b b1 b2 => (hX9 b b2).trans (upA_na _ _ _ b1), rfl⟩
                    · skip
                      refine xg_aloadn 100 dX12_store_99 rfl rfl rfl ?_
                      refine xg_getP 103 kf_RX12_13 dX12_store_100 rfl (by assumption) (by assumption) ?_
                      refine xg_iloadn 104 dX12_store_103 rfl rfl rfl ?_
                      refine xg_aloadn 105 dX12_store_104 rfl rfl rfl ?_
                      refine xg_getP 108 kf_RX12_20 dX12_store_105 rfl (by assumption) (by assumption) ?_
                      refine xg_iloadn 109 dX12_store_108 rfl rfl rfl ?_
                      refine xg_ialdU 110 dX12_store_109 rfl ⟨v2, v4⟩ (by omega) ?_
                      refine xg_iastW 111 dX12_store_110 rfl (by assumption) (by omega) ?_
                      refine xg_iinc 114 _ dX12_store_111 rfl rfl rfl rfl (by decide) (Or.inr rfl) ?_
                      refine xg_goto 92 dX12_store_114 rfl ?_
                      rw [wCo_s0 _ _ _ hk.1]
                      exact xg_weak _ (xle_s rfl (xle_n (xle_s rfl xle_0))) (ih (k + 1) (by omega) (by omega))
                have l0 := loop92 3000 0 (by omega) (by omega)
                rw [wCo_0] at l0
                exact xg_weak _ (xle_s rfl (xle_n (xle_s rfl xle_0))) l0
              · exfalso; omega
        · have hok := gSto_ok hs9 hI
          have hok1 := hok.1.1.1.1.2.2.1
          refine xg_callVe 32 12 [_] _ kv_X12_readAll ⟨_, _, rfl⟩ kl_RX12_247 dX12_store_29 rfl (by assumption) (by omega) rfl rfl (Nat.le_of_ble_eq_true rfl) (by omega) ⟨Nat.le_refl _, Nat.le_refl _⟩ (rStA.cg hs9 (ct_X12_readAll_store hw hT0 ht0 he h9 hW hI)) rfl (fun v9 h9 e9 => ?_)
          obtain ⟨n9, ⟨hn9, hn8⟩, rfl, p9, b9, dd9, c9, I9, hX9, rfl⟩ := e9
          refine xg_istoren 33 _ dX12_store_32 rfl rfl rfl (by decide) (Or.inr rfl) ?_
          refine xg_aloadn 34 dX12_store_33 rfl rfl rfl ?_
          refine xg_iloadn 35 dX12_store_34 rfl rfl rfl ?_
          refine xg_ifge 45 38 dX12_store_35 rfl rfl (by omega) (fun hb35 => ?_) (fun hb35 => ?_)
          · skip
            refine xg_iconst 46 dX12_store_45 rfl ?_
            refine xg_putI 49 kf_RX12_33 dX12_store_46 rfl (by assumption) ?_
            refine xg_aloadn 50 dX12_store_49 rfl rfl rfl ?_
            refine xg_iloadn 51 dX12_store_50 rfl rfl rfl ?_
            refine xg_ifge 58 54 dX12_store_51 rfl rfl (by omega) (fun hb51 => ?_) (fun hb51 => ?_)
            · skip
              refine xg_iconst 59 dX12_store_58 rfl ?_
              refine xg_iconst 60 dX12_store_59 rfl ?_
              refine xg_callV 63 12 [_, _] _ kv_X12_throwsIf ⟨_, _, rfl⟩ kl_RX12_251 dX12_store_60 rfl (by assumption) (by omega) rfl rfl (Nat.le_of_ble_eq_true rfl) (by omega) ⟨Nat.le_refl _, Nat.le_refl _⟩ (ct_throwsF hw) rfl ?_
              refine xg_ifne 90 66 dX12_store_63 rfl rfl (by omega) (fun hb63 => ?_) (fun hb63 => ?_)
              · exfalso; omega
              · skip
                refine xg_aloadn 67 dX12_store_66 rfl rfl rfl ?_
                refine xg_aloadn 68 dX12_store_67 rfl rfl rfl ?_
                refine xg_getP 71 kf_RX12_13 dX12_store_68 rfl (by assumption) (by assumption) ?_
                refine xg_iconst 72 dX12_store_71 rfl ?_
                refine xg_ialdW 73 dX12_store_72 rfl (by assumption) (by omega) ?_
                refine xg_bipush 75 dX12_store_73 rfl (by decide) ?_
                refine xg_icne 82 78 dX12_store_75 rfl rfl (by omega) (fun hb75 => ?_) (fun hb75 => ?_)
                · skip
                  refine xg_iconst 83 dX12_store_82 rfl ?_
                  refine xg_iconst 84 dX12_store_83 rfl ?_
                  refine xg_callV 87 12 [_, _] _ kv_X12_throwsIf ⟨_, _, rfl⟩ kl_RX12_251 dX12_store_84 rfl (by assumption) (by omega) rfl rfl (Nat.le_of_ble_eq_true rfl) (by omega) ⟨Nat.le_refl _, Nat.le_refl _⟩ (ct_throwsF hw) rfl ?_
                  refine xg_ifeq 119 90 dX12_store_87 rfl rfl (by omega) (fun hb87 => ?_) (fun hb87 => ?_)
                  · skip
                    refine xg_aloadn 120 dX12_store_119 rfl rfl rfl ?_
                    refine xg_getP 123 kf_RX12_13 dX12_store_120 rfl (by assumption) (by assumption) ?_
                    refine xg_iconst 124 dX12_store_123 rfl ?_
                    refine xg_dup2 125 dX12_store_124 rfl rfl rfl ?_
                    refine xg_ialdW 126 dX12_store_125 rfl (by assumption) (by omega) ?_
                    refine xg_iconst 127 dX12_store_126 rfl ?_
                    refine xg_iadd 128 dX12_store_127 rfl ?_
                    refine xg_iastW 129 dX12_store_128 rfl (by assumption) (by omega) ?_
                    refine xg_aloadn 130 dX12_store_129 rfl rfl rfl ?_
                    refine xg_iconst 131 dX12_store_130 rfl ?_
                    refine xg_putI 134 kf_RX12_59 dX12_store_131 rfl (by assumption) ?_
                    refine xg_aloadn 135 dX12_store_134 rfl rfl rfl ?_
                    refine xg_getP 138 kf_RX12_13 dX12_store_135 rfl (by assumption) (by assumption) ?_
                    refine xg_iconst 139 dX12_store_138 rfl ?_
                    refine xg_ialdW 140 dX12_store_139 rfl (by assumption) (by omega) ?_
                    subst hX
                    refine xg_ireturn dX12_store_140 rfl ⟨Nat.le_refl _, Nat.le_refl _⟩ ?_
                    rw [hs9]
                    exact Or.inr ⟨by rw [← hok.2]; omega, congrArg (fun v => some (J v)) (by rw [wS_at, hok.2]), _, _, _, _, _, fun b b1 b2 => (hX9 b b2).trans (upA_na _ _ _ b1), by rw [hok.2]⟩
                  · exfalso; omega
                · skip
                  refine xg_iconst 79 dX12_store_78 rfl ?_
                  refine xg_goto 83 dX12_store_79 rfl ?_
                  refine xg_iconst 84 dX12_store_83 rfl ?_
                  refine xg_callV 87 12 [_, _] _ kv_X12_throwsIf ⟨_, _, rfl⟩ kl_RX12_251 dX12_store_84 rfl (by assumption) (by omega) rfl rfl (Nat.le_of_ble_eq_true rfl) (by omega) ⟨Nat.le_refl _, Nat.le_refl _⟩ (ct_throwsT hw) rfl ?_
                  refine xg_ifeq 119 90 dX12_store_87 rfl rfl (by omega) (fun hb87 => ?_) (fun hb87 => ?_)
                  · exfalso; omega
                  · skip
                    refine xg_own (m + 3) (m + 1) ?_
                    refine xg_iconst 91 dX12_store_90 rfl ?_
                    refine xg_istoren 92 _ dX12_store_91 rfl rfl rfl (by decide) (Or.inr rfl) ?_
                    have loop92 : ∀ (mm : Nat) (k : Int), (0 ≤ k ∧ k ≤ 2752) → 2752 - k < (mm : Int) → xG E mX12_store (xR d 0 0) X 92 [some (.ref m), none, some (J k)] [] (z, T, (upF (upF (fR (fUse F m) m (p9) (b9) (dd9) (c9)) m 14 (-1)) m 0 (2)), upA (upA I9 (m + 3) (I9 (m + 3))) (m + 1) (wCo w9 (I9 (m + 3)) 0 k), P, Y) 0 0 := by
                      intro mm
                      induction mm with
                      | zero => intro k hk hm; exfalso; omega
                      | succ mm ih =>
                        intro k hk hm
                        refine xg_iloadn 93 dX12_store_92 rfl rfl rfl ?_
                        refine xg_sipush 96 dX12_store_93 rfl (by decide) ?_
                        refine xg_icge 117 99 dX12_store_96 rfl rfl (by omega) (fun hb96 => ?_) (fun hb96 => ?_)
                        · skip
                          refine xg_iconst 118 dX12_store_117 rfl ?_
                          subst hX
                          refine xg_ireturn dX12_store_118 rfl ⟨Nat.le_refl _, Nat.le_refl _⟩ ?_
                          rw [hs9, upA_id]
                          have hG9 : I9 (m + 3) = (wCo (I (m + 3)) w 0 2752) := (hX9 (m + 3) (by omega)).trans (upA_at _ _ _)
                          exact Or.inl ⟨by rw [← hok.2]; omega, rfl, _, _, _, _, _, _, fun j j1 j2 => by rw [show k = 2752 by omega]; unfold wCo; rw [if_pos (by omega), hG9, Int.sub_zero]; unfold wCo; rw [if_pos (by omega), Int.sub_zero], by rw [show k = 2752 by omega, hG9]; exact w32_CC hok.1.1.1.1.1 hO.1, fun b b1 b2 => (hX9 b b2).trans (upA_na _ _ _ b1), rfl⟩
                        · skip
                          refine xg_aloadn 100 dX12_store_99 rfl rfl rfl ?_
                          refine xg_getP 103 kf_RX12_13 dX12_store_100 rfl (by assumption) (by assumption) ?_
                          refine xg_iloadn 104 dX12_store_103 rfl rfl rfl ?_
                          refine xg_aloadn 105 dX12_store_104 rfl rfl rfl ?_
                          refine xg_getP 108 kf_RX12_20 dX12_store_105 rfl (by assumption) (by assumption) ?_
                          refine xg_iloadn 109 dX12_store_108 rfl rfl rfl ?_
                          refine xg_ialdU 110 dX12_store_109 rfl ⟨v2, v4⟩ (by omega) ?_
                          refine xg_iastW 111 dX12_store_110 rfl (by assumption) (by omega) ?_
                          refine xg_iinc 114 _ dX12_store_111 rfl rfl rfl rfl (by decide) (Or.inr rfl) ?_
                          refine xg_goto 92 dX12_store_114 rfl ?_
                          rw [wCo_s0 _ _ _ hk.1]
                          exact xg_weak _ (xle_s rfl (xle_n (xle_s rfl xle_0))) (ih (k + 1) (by omega) (by omega))
                    have l0 := loop92 3000 0 (by omega) (by omega)
                    rw [wCo_0] at l0
                    exact xg_weak _ (xle_s rfl (xle_n (xle_s rfl xle_0))) l0
            · exfalso; omega
          · exfalso; omega
      · skip
        refine xg_aloadn 10 dX12_store_9 rfl rfl rfl ?_
        refine xg_getP 13 kf_RX12_20 dX12_store_10 rfl (by assumption) (by assumption) ?_
        refine xg_iloadn 14 dX12_store_13 rfl rfl rfl ?_
        refine xg_aloadn 15 dX12_store_14 rfl rfl rfl ?_
        refine xg_getP 18 kf_RX12_13 dX12_store_15 rfl (by assumption) (by assumption) ?_
        refine xg_iloadn 19 dX12_store_18 rfl rfl rfl ?_
        refine xg_ialdW 20 dX12_store_19 rfl (by assumption) (by omega) ?_
        refine xg_iastU 21 dX12_store_20 rfl ⟨v2, v4⟩ (by omega) ?_
        refine xg_iinc 24 _ dX12_store_21 rfl rfl rfl rfl (by decide) (Or.inr rfl) ?_
        refine xg_goto 2 dX12_store_24 rfl ?_
        rw [wCo_s0 _ _ _ hk.1]
        exact xg_weak _ (xle_s rfl (xle_s rfl (xle_n xle_0))) (ih (k + 1) (by omega) (by omega))
  have l0 := loop2 3000 0 (by omega) (by omega)
  rw [wCo_0] at l0
  exact xg_weak _ (xle_s rfl (xle_s rfl (xle_n xle_0))) l0

