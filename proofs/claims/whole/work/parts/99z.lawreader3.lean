set_option maxHeartbeats 4000000 in
set_option maxRecDepth 100000 in
theorem ct_X4_atom_0 {E : xE} {z : Nat} {T : Nat → Nat × Int} {F : Nat → Nat → Int} {I : Nat → Int → Int} {P : Nat → Nat → Option Nat} {Y : Nat → Int → Option Nat} {s r N : Nat} {t : Int → Int} {e : Int} (hs : wScn T P s) (hk0 : zTok t e F I s N) (ht4 : ∀ j : Int, 0 ≤ j → j < 400 → 0 ≤ t j ∧ t j ≤ 255) (he : 0 ≤ e ∧ e ≤ 400) (hsr : s + 4 ≤ r) (hr : wLrd T P r s) {i : Nat} {u q : Int} {g : Int → Int} (hx : i ≤ N ∧ zB t e i = q ∧ 0 ≤ u ∧ u + 1 ≤ q) : Ct E 20 mX4_atom 0 0 [.ref r, J (6 - ((0 : Nat) : Int))] (z, T, fZ F s r (i) (-1) (u), upA I (r + 4) (g), P, Y) (lRes z T F I P Y s r N t e u g (gAtom t e 0 q)) := by
  obtain ⟨hi, hq, hu⟩ := hx
  obtain ⟨r0, r1, -⟩ := id hr
  have s0 := hs.1
  have htb : ∀ j : Int, 0 ≤ j → j < e → 0 ≤ t j ∧ t j ≤ 255 := fun j a b => ht4 j a (by omega)
  have hqb := zB_b (t := t) he.1 i
  rw [hq] at hqb
  refine Ct.of [some (.ref r), some (J (6 - ((0 : Nat) : Int))), none, none] kt_X4_atom rfl (Nat.le_of_ble_eq_true rfl) rfl (fun d hd => ?_)
  generalize hX : xN E _ _ _ = X
  refine xg_aloadn 1 dX4_atom_0 rfl rfl rfl ?_
  refine xg_getP 4 kf_RX4_9 dX4_atom_1 rfl (by assumption) r1 ?_
  refine xg_bipush 6 dX4_atom_4 rfl (by decide) ?_
  refine xg_callV 9 7 [_] _ kv_X7_is ⟨_, _, rfl⟩ kl_RX4_35 dX4_atom_6 rfl (by assumption) (by omega) rfl rfl (Nat.le_of_ble_eq_true rfl) (by omega) ⟨Nat.le_refl _, Nat.le_refl _⟩ (cs_is hs hk0 ht4 he hsr (i := i) (q := q) hi hq (by omega)) rfl ?_
  refine xg_dne 25 12 dX4_atom_9 rfl rfl (fun hb9 => ?_) (fun hb9 => ?_)
  · skip
    refine xg_iconst 26 dX4_atom_25 rfl ?_
    refine xg_goto 30 dX4_atom_26 rfl ?_
    refine xg_istoren 31 _ dX4_atom_30 rfl rfl rfl (by decide) (Or.inr rfl) ?_
    refine xg_iloadn 32 dX4_atom_31 rfl rfl rfl ?_
    refine xg_ifeq 49 35 dX4_atom_32 rfl rfl (by omega) (fun hb32 => ?_) (fun hb32 => ?_)
    · exfalso; omega
    · first
      | (exfalso; omega)
      | skip
        refine xg_iloadn 36 dX4_atom_35 rfl rfl rfl ?_
        refine xg_bipush 38 dX4_atom_36 rfl (by decide) ?_
        refine xg_iclt 49 41 dX4_atom_38 rfl rfl (by omega) (fun hb38 => ?_) (fun hb38 => ?_)
        · exfalso; omega
        · skip
          refine xg_aloadn 42 dX4_atom_41 rfl rfl rfl ?_
          refine xg_getP 45 kf_RX4_9 dX4_atom_42 rfl (by assumption) r1 ?_
          refine xg_callV 48 7 [] _ kv_X7_fail ⟨_, _, rfl⟩ kl_RX4_45 dX4_atom_45 rfl (by assumption) (by omega) rfl rfl (Nat.le_of_ble_eq_true rfl) (by omega) ⟨Nat.le_refl _, Nat.le_refl _⟩ (cs_fail hs hk0 ht4 he hsr hi hq) rfl ?_
          subst hX
          refine xg_zreturn dX4_atom_48 rfl (by first | exact bI_01 _ | omega) ⟨Nat.le_refl _, Nat.le_refl _⟩ ?_
          rw [gAtom_n0 (by omega)]
          exact ⟨rfl, _, _, _, hi, rfl⟩
  · skip
    refine xg_aloadn 13 dX4_atom_12 rfl rfl rfl ?_
    refine xg_getP 16 kf_RX4_9 dX4_atom_13 rfl (by assumption) r1 ?_
    refine xg_sipush 19 dX4_atom_16 rfl (by decide) ?_
    refine xg_callV 22 7 [_] _ kv_X7_is ⟨_, _, rfl⟩ kl_RX4_35 dX4_atom_19 rfl (by assumption) (by omega) rfl rfl (Nat.le_of_ble_eq_true rfl) (by omega) ⟨Nat.le_refl _, Nat.le_refl _⟩ (cs_is hs hk0 ht4 he hsr (i := i) (q := q) hi hq (by omega)) rfl ?_
    refine xg_deq 29 25 dX4_atom_22 rfl rfl (fun hb22 => ?_) (fun hb22 => ?_)
    · skip
      refine xg_iconst 30 dX4_atom_29 rfl ?_
      refine xg_istoren 31 _ dX4_atom_30 rfl rfl rfl (by decide) (Or.inr rfl) ?_
      refine xg_iloadn 32 dX4_atom_31 rfl rfl rfl ?_
      refine xg_ifeq 49 35 dX4_atom_32 rfl rfl (by omega) (fun hb32 => ?_) (fun hb32 => ?_)
      · first
        | (exfalso; omega)
        | skip
          refine xg_aloadn 50 dX4_atom_49 rfl rfl rfl ?_
          refine xg_getP 53 kf_RX4_9 dX4_atom_50 rfl (by assumption) r1 ?_
          refine xg_bipush 55 dX4_atom_53 rfl (by decide) ?_
          refine xg_callV 58 7 [_] _ kv_X7_takes ⟨_, _, rfl⟩ kl_RX4_52 dX4_atom_55 rfl (by assumption) (by omega) rfl rfl (Nat.le_of_ble_eq_true rfl) (by omega) ⟨Nat.le_refl _, Nat.le_refl _⟩ (cs_takes hs hk0 ht4 he hsr (i := i) (q := q) hi hq (by omega)) rfl ?_
          refine xg_deq 81 61 dX4_atom_58 rfl rfl (fun hb58 => ?_) (fun hb58 => ?_)
          · rw [if_neg hb58]
            refine xg_aloadn 82 dX4_atom_81 rfl rfl rfl ?_
            refine xg_getP 85 kf_RX4_9 dX4_atom_82 rfl (by assumption) r1 ?_
            refine xg_sipush 88 dX4_atom_85 rfl (by decide) ?_
            refine xg_callV 91 7 [_] _ kv_X7_takes ⟨_, _, rfl⟩ kl_RX4_52 dX4_atom_88 rfl (by assumption) (by omega) rfl rfl (Nat.le_of_ble_eq_true rfl) (by omega) ⟨Nat.le_refl _, Nat.le_refl _⟩ (cs_takes hs hk0 ht4 he hsr (i := i) (q := q) hi hq (by omega)) rfl ?_
            refine xg_deq 123 94 dX4_atom_91 rfl rfl (fun hb91 => ?_) (fun hb91 => ?_)
            · rw [if_neg hb91]
              refine xg_aloadn 124 dX4_atom_123 rfl rfl rfl ?_
              refine xg_getP 127 kf_RX4_9 dX4_atom_124 rfl (by assumption) r1 ?_
              refine xg_bipush 129 dX4_atom_127 rfl (by decide) ?_
              refine xg_bipush 131 dX4_atom_129 rfl (by decide) ?_
              by_cases htg : 7 ≤ zK t e q ∧ zK t e q ≤ 9
              · have hltA := zK_lt (t := t) (e := e) (q := q) (by omega)
                have hxA := zX_b (t := t) hltA
                have hnA := hk0.nx hi (by rw [hq]; exact hltA)
                rw [hq] at hnA
                refine xg_callV 134 7 [_, _] _ kv_X7_takesFrom ⟨_, _, rfl⟩ kl_RX4_41 dX4_atom_131 rfl (by assumption) (by omega) rfl rfl (Nat.le_of_ble_eq_true rfl) (by omega) ⟨Nat.le_refl _, Nat.le_refl _⟩ (cs_takesFrom hs hk0 ht4 he hsr (i := i) (q := q) hi hq (by omega)) rfl ?_
                rw [if_pos htg, if_pos htg]
                refine xg_istoren 135 _ dX4_atom_134 rfl rfl rfl (by decide) (Or.inr rfl) ?_
                refine xg_iloadn 136 dX4_atom_135 rfl rfl rfl ?_
                refine xg_iconst 137 dX4_atom_136 rfl ?_
                refine xg_iceq 150 140 dX4_atom_137 rfl rfl (by omega) (fun hb137 => ?_) (fun hb137 => ?_)
                · exfalso; omega
                · skip
                  refine xg_aloadn 141 dX4_atom_140 rfl rfl rfl ?_
                  refine xg_bipush 143 dX4_atom_141 rfl (by decide) ?_
                  refine xg_iloadn 144 dX4_atom_143 rfl rfl rfl ?_
                  refine xg_isub 145 dX4_atom_144 rfl ?_
                  refine xg_callV 148 4 [_] _ kv_X4_emit ⟨_, _, rfl⟩ kl_RX4_69 dX4_atom_145 rfl (by assumption) (by omega) rfl rfl (Nat.le_of_ble_eq_true rfl) (by omega) ⟨Nat.le_refl _, Nat.le_refl _⟩ (cs_emit hr hsr (by omega)) rfl ?_
                  refine xg_iconst 149 dX4_atom_148 rfl ?_
                  subst hX
                  refine xg_zreturn dX4_atom_149 rfl (by first | exact bI_01 _ | omega) ⟨Nat.le_refl _, Nat.le_refl _⟩ ?_
                  rw [gAtom_leaf (by omega) (by omega), gLeaf_t htg]
                  exact ⟨rfl, _, _, _, hnA.1, hnA.2, rfl, pCo.em (cEnc_f (by omega)).symm, rfl⟩
              · skip
                refine xg_callV 134 7 [_, _] _ kv_X7_takesFrom ⟨_, _, rfl⟩ kl_RX4_41 dX4_atom_131 rfl (by assumption) (by omega) rfl rfl (Nat.le_of_ble_eq_true rfl) (by omega) ⟨Nat.le_refl _, Nat.le_refl _⟩ (cs_takesFrom hs hk0 ht4 he hsr (i := i) (q := q) hi hq (by omega)) rfl ?_
                rw [if_neg htg, if_neg htg]
                refine xg_istoren 135 _ dX4_atom_134 rfl rfl rfl (by decide) (Or.inr rfl) ?_
                refine xg_iloadn 136 dX4_atom_135 rfl rfl rfl ?_
                refine xg_iconst 137 dX4_atom_136 rfl ?_
                refine xg_iceq 150 140 dX4_atom_137 rfl rfl (by omega) (fun hb137 => ?_) (fun hb137 => ?_)
                · skip
                  refine xg_aloadn 151 dX4_atom_150 rfl rfl rfl ?_
                  have hcok := gComp_ok (t := t) hqb.2.1
                  rcases hs4 : gComp t e q with f4 | ⟨cs4, q4⟩
                  · skip
                    refine xg_callVe 154 4 [] _ kv_X4_comparison ⟨_, _, rfl⟩ kl_RX4_76 dX4_atom_151 rfl (by assumption) (by omega) rfl rfl (Nat.le_of_ble_eq_true rfl) (by omega) ⟨Nat.le_refl _, Nat.le_refl _⟩ (lRes.cg hs4 (ct_X4_comparison hs hk0 ht4 he hsr hr hi hq hu)) rfl (fun v9 h9 e9 => ?_)
                    obtain ⟨rfl, i4, u4, g4, hi4, rfl⟩ := e9
                    subst hX
                    refine xg_zreturn dX4_atom_154 rfl (by first | exact bI_01 _ | omega) ⟨Nat.le_refl _, Nat.le_refl _⟩ ?_
                    rw [gAtom_leaf (by omega) (by omega), gLeaf_f htg, hs4]
                    exact ⟨rfl, _, _, _, hi4, rfl⟩
                  · skip
                    refine xg_callVe 154 4 [] _ kv_X4_comparison ⟨_, _, rfl⟩ kl_RX4_76 dX4_atom_151 rfl (by assumption) (by omega) rfl rfl (Nat.le_of_ble_eq_true rfl) (by omega) ⟨Nat.le_refl _, Nat.le_refl _⟩ (lRes.cg hs4 (ct_X4_comparison hs hk0 ht4 he hsr hr hi hq hu)) rfl (fun v9 h9 e9 => ?_)
                    obtain ⟨rfl, i4, u4, g4, hi4, hq4, hu4, hC4, rfl⟩ := e9
                    subst hX
                    refine xg_zreturn dX4_atom_154 rfl (by first | exact bI_01 _ | omega) ⟨Nat.le_refl _, Nat.le_refl _⟩ ?_
                    rw [gAtom_leaf (by omega) (by omega), gLeaf_f htg, hs4]
                    exact ⟨rfl, _, _, _, hi4, hq4, hu4, hC4, rfl⟩
                · exfalso; omega
            · exfalso; omega
          · exfalso; omega
      · exfalso; omega
    · skip
      refine xg_iconst 26 dX4_atom_25 rfl ?_
      refine xg_goto 30 dX4_atom_26 rfl ?_
      refine xg_istoren 31 _ dX4_atom_30 rfl rfl rfl (by decide) (Or.inr rfl) ?_
      refine xg_iloadn 32 dX4_atom_31 rfl rfl rfl ?_
      refine xg_ifeq 49 35 dX4_atom_32 rfl rfl (by omega) (fun hb32 => ?_) (fun hb32 => ?_)
      · exfalso; omega
      · first
        | (exfalso; omega)
        | skip
          refine xg_iloadn 36 dX4_atom_35 rfl rfl rfl ?_
          refine xg_bipush 38 dX4_atom_36 rfl (by decide) ?_
          refine xg_iclt 49 41 dX4_atom_38 rfl rfl (by omega) (fun hb38 => ?_) (fun hb38 => ?_)
          · exfalso; omega
          · skip
            refine xg_aloadn 42 dX4_atom_41 rfl rfl rfl ?_
            refine xg_getP 45 kf_RX4_9 dX4_atom_42 rfl (by assumption) r1 ?_
            refine xg_callV 48 7 [] _ kv_X7_fail ⟨_, _, rfl⟩ kl_RX4_45 dX4_atom_45 rfl (by assumption) (by omega) rfl rfl (Nat.le_of_ble_eq_true rfl) (by omega) ⟨Nat.le_refl _, Nat.le_refl _⟩ (cs_fail hs hk0 ht4 he hsr hi hq) rfl ?_
            subst hX
            refine xg_zreturn dX4_atom_48 rfl (by first | exact bI_01 _ | omega) ⟨Nat.le_refl _, Nat.le_refl _⟩ ?_
            rw [gAtom_n0 (by omega)]
            exact ⟨rfl, _, _, _, hi, rfl⟩

set_option maxHeartbeats 4000000 in
set_option maxRecDepth 100000 in
theorem ct_X4_atom_S {E : xE} {z : Nat} {T : Nat → Nat × Int} {F : Nat → Nat → Int} {I : Nat → Int → Int} {P : Nat → Nat → Option Nat} {Y : Nat → Int → Option Nat} {s r N : Nat} {t : Int → Int} {e : Int} (hs : wScn T P s) (hk0 : zTok t e F I s N) (ht4 : ∀ j : Int, 0 ≤ j → j < 400 → 0 ≤ t j ∧ t j ≤ 255) (he : 0 ≤ e ∧ e ≤ 400) (hsr : s + 4 ≤ r) (hr : wLrd T P r s) {i : Nat} {u q : Int} {g : Int → Int} (hx : i ≤ N ∧ zB t e i = q ∧ 0 ≤ u ∧ u + 1 ≤ q) {lv : Nat} (hlv : lv < 6) (hA : AtL E z T F I P Y s r N t e lv) : Ct E (24 + 4 * lv) mX4_atom 0 0 [.ref r, J (6 - ((lv + 1 : Nat) : Int))] (z, T, fZ F s r (i) (-1) (u), upA I (r + 4) (g), P, Y) (lRes z T F I P Y s r N t e u g (gAtom t e (lv + 1) q)) := by
  obtain ⟨hi, hq, hu⟩ := hx
  obtain ⟨r0, r1, -⟩ := id hr
  have s0 := hs.1
  have htb : ∀ j : Int, 0 ≤ j → j < e → 0 ≤ t j ∧ t j ≤ 255 := fun j a b => ht4 j a (by omega)
  have hqb := zB_b (t := t) he.1 i
  rw [hq] at hqb
  refine Ct.of [some (.ref r), some (J (6 - ((lv + 1 : Nat) : Int))), none, none] kt_X4_atom rfl (Nat.le_of_ble_eq_true rfl) rfl (fun d hd => ?_)
  generalize hX : xN E _ _ _ = X
  refine xg_aloadn 1 dX4_atom_0 rfl rfl rfl ?_
  refine xg_getP 4 kf_RX4_9 dX4_atom_1 rfl (by assumption) r1 ?_
  refine xg_bipush 6 dX4_atom_4 rfl (by decide) ?_
  refine xg_callV 9 7 [_] _ kv_X7_is ⟨_, _, rfl⟩ kl_RX4_35 dX4_atom_6 rfl (by assumption) (by omega) rfl rfl (Nat.le_of_ble_eq_true rfl) (by omega) ⟨Nat.le_refl _, Nat.le_refl _⟩ (cs_is hs hk0 ht4 he hsr (i := i) (q := q) hi hq (by omega)) rfl ?_
  refine xg_dne 25 12 dX4_atom_9 rfl rfl (fun hb9 => ?_) (fun hb9 => ?_)
  · skip
    refine xg_iconst 26 dX4_atom_25 rfl ?_
    refine xg_goto 30 dX4_atom_26 rfl ?_
    refine xg_istoren 31 _ dX4_atom_30 rfl rfl rfl (by decide) (Or.inr rfl) ?_
    refine xg_iloadn 32 dX4_atom_31 rfl rfl rfl ?_
    refine xg_ifeq 49 35 dX4_atom_32 rfl rfl (by omega) (fun hb32 => ?_) (fun hb32 => ?_)
    · exfalso; omega
    · first
      | (exfalso; omega)
      | skip
        refine xg_iloadn 36 dX4_atom_35 rfl rfl rfl ?_
        refine xg_bipush 38 dX4_atom_36 rfl (by decide) ?_
        refine xg_iclt 49 41 dX4_atom_38 rfl rfl (by omega) (fun hb38 => ?_) (fun hb38 => ?_)
        · skip
          refine xg_aloadn 50 dX4_atom_49 rfl rfl rfl ?_
          refine xg_getP 53 kf_RX4_9 dX4_atom_50 rfl (by assumption) r1 ?_
          refine xg_bipush 55 dX4_atom_53 rfl (by decide) ?_
          refine xg_callV 58 7 [_] _ kv_X7_takes ⟨_, _, rfl⟩ kl_RX4_52 dX4_atom_55 rfl (by assumption) (by omega) rfl rfl (Nat.le_of_ble_eq_true rfl) (by omega) ⟨Nat.le_refl _, Nat.le_refl _⟩ (cs_takes hs hk0 ht4 he hsr (i := i) (q := q) hi hq (by omega)) rfl ?_
          refine xg_deq 81 61 dX4_atom_58 rfl rfl (fun hb58 => ?_) (fun hb58 => ?_)
          · rw [if_neg hb58]
            refine xg_aloadn 82 dX4_atom_81 rfl rfl rfl ?_
            refine xg_getP 85 kf_RX4_9 dX4_atom_82 rfl (by assumption) r1 ?_
            refine xg_sipush 88 dX4_atom_85 rfl (by decide) ?_
            refine xg_callV 91 7 [_] _ kv_X7_takes ⟨_, _, rfl⟩ kl_RX4_52 dX4_atom_88 rfl (by assumption) (by omega) rfl rfl (Nat.le_of_ble_eq_true rfl) (by omega) ⟨Nat.le_refl _, Nat.le_refl _⟩ (cs_takes hs hk0 ht4 he hsr (i := i) (q := q) hi hq (by omega)) rfl ?_
            refine xg_deq 123 94 dX4_atom_91 rfl rfl (fun hb91 => ?_) (fun hb91 => ?_)
            · rw [if_neg hb91]
              refine xg_aloadn 124 dX4_atom_123 rfl rfl rfl ?_
              refine xg_getP 127 kf_RX4_9 dX4_atom_124 rfl (by assumption) r1 ?_
              refine xg_bipush 129 dX4_atom_127 rfl (by decide) ?_
              refine xg_bipush 131 dX4_atom_129 rfl (by decide) ?_
              by_cases htg : 7 ≤ zK t e q ∧ zK t e q ≤ 9
              · have hltA := zK_lt (t := t) (e := e) (q := q) (by omega)
                have hxA := zX_b (t := t) hltA
                have hnA := hk0.nx hi (by rw [hq]; exact hltA)
                rw [hq] at hnA
                refine xg_callV 134 7 [_, _] _ kv_X7_takesFrom ⟨_, _, rfl⟩ kl_RX4_41 dX4_atom_131 rfl (by assumption) (by omega) rfl rfl (Nat.le_of_ble_eq_true rfl) (by omega) ⟨Nat.le_refl _, Nat.le_refl _⟩ (cs_takesFrom hs hk0 ht4 he hsr (i := i) (q := q) hi hq (by omega)) rfl ?_
                rw [if_pos htg, if_pos htg]
                refine xg_istoren 135 _ dX4_atom_134 rfl rfl rfl (by decide) (Or.inr rfl) ?_
                refine xg_iloadn 136 dX4_atom_135 rfl rfl rfl ?_
                refine xg_iconst 137 dX4_atom_136 rfl ?_
                refine xg_iceq 150 140 dX4_atom_137 rfl rfl (by omega) (fun hb137 => ?_) (fun hb137 => ?_)
                · exfalso; omega
                · skip
                  refine xg_aloadn 141 dX4_atom_140 rfl rfl rfl ?_
                  refine xg_bipush 143 dX4_atom_141 rfl (by decide) ?_
                  refine xg_iloadn 144 dX4_atom_143 rfl rfl rfl ?_
                  refine xg_isub 145 dX4_atom_144 rfl ?_
                  refine xg_callV 148 4 [_] _ kv_X4_emit ⟨_, _, rfl⟩ kl_RX4_69 dX4_atom_145 rfl (by assumption) (by omega) rfl rfl (Nat.le_of_ble_eq_true rfl) (by omega) ⟨Nat.le_refl _, Nat.le_refl _⟩ (cs_emit hr hsr (by omega)) rfl ?_
                  refine xg_iconst 149 dX4_atom_148 rfl ?_
                  subst hX
                  refine xg_zreturn dX4_atom_149 rfl (by first | exact bI_01 _ | omega) ⟨Nat.le_refl _, Nat.le_refl _⟩ ?_
                  rw [gAtom_leaf (by omega) (by omega), gLeaf_t htg]
                  exact ⟨rfl, _, _, _, hnA.1, hnA.2, rfl, pCo.em (cEnc_f (by omega)).symm, rfl⟩
              · skip
                refine xg_callV 134 7 [_, _] _ kv_X7_takesFrom ⟨_, _, rfl⟩ kl_RX4_41 dX4_atom_131 rfl (by assumption) (by omega) rfl rfl (Nat.le_of_ble_eq_true rfl) (by omega) ⟨Nat.le_refl _, Nat.le_refl _⟩ (cs_takesFrom hs hk0 ht4 he hsr (i := i) (q := q) hi hq (by omega)) rfl ?_
                rw [if_neg htg, if_neg htg]
                refine xg_istoren 135 _ dX4_atom_134 rfl rfl rfl (by decide) (Or.inr rfl) ?_
                refine xg_iloadn 136 dX4_atom_135 rfl rfl rfl ?_
                refine xg_iconst 137 dX4_atom_136 rfl ?_
                refine xg_iceq 150 140 dX4_atom_137 rfl rfl (by omega) (fun hb137 => ?_) (fun hb137 => ?_)
                · skip
                  refine xg_aloadn 151 dX4_atom_150 rfl rfl rfl ?_
                  have hcok := gComp_ok (t := t) hqb.2.1
                  rcases hs4 : gComp t e q with f4 | ⟨cs4, q4⟩
                  · skip
                    refine xg_callVe 154 4 [] _ kv_X4_comparison ⟨_, _, rfl⟩ kl_RX4_76 dX4_atom_151 rfl (by assumption) (by omega) rfl rfl (Nat.le_of_ble_eq_true rfl) (by omega) ⟨Nat.le_refl _, Nat.le_refl _⟩ (lRes.cg hs4 (ct_X4_comparison hs hk0 ht4 he hsr hr hi hq hu)) rfl (fun v9 h9 e9 => ?_)
                    obtain ⟨rfl, i4, u4, g4, hi4, rfl⟩ := e9
                    subst hX
                    refine xg_zreturn dX4_atom_154 rfl (by first | exact bI_01 _ | omega) ⟨Nat.le_refl _, Nat.le_refl _⟩ ?_
                    rw [gAtom_leaf (by omega) (by omega), gLeaf_f htg, hs4]
                    exact ⟨rfl, _, _, _, hi4, rfl⟩
                  · skip
                    refine xg_callVe 154 4 [] _ kv_X4_comparison ⟨_, _, rfl⟩ kl_RX4_76 dX4_atom_151 rfl (by assumption) (by omega) rfl rfl (Nat.le_of_ble_eq_true rfl) (by omega) ⟨Nat.le_refl _, Nat.le_refl _⟩ (lRes.cg hs4 (ct_X4_comparison hs hk0 ht4 he hsr hr hi hq hu)) rfl (fun v9 h9 e9 => ?_)
                    obtain ⟨rfl, i4, u4, g4, hi4, hq4, hu4, hC4, rfl⟩ := e9
                    subst hX
                    refine xg_zreturn dX4_atom_154 rfl (by first | exact bI_01 _ | omega) ⟨Nat.le_refl _, Nat.le_refl _⟩ ?_
                    rw [gAtom_leaf (by omega) (by omega), gLeaf_f htg, hs4]
                    exact ⟨rfl, _, _, _, hi4, hq4, hu4, hC4, rfl⟩
                · exfalso; omega
            · rw [if_pos hb91]
              have hltA := zK_lt (t := t) (e := e) (q := q) (by omega)
              have hxA := zX_b (t := t) hltA
              have hnA := hk0.nx hi (by rw [hq]; exact hltA)
              rw [hq] at hnA
              refine xg_aloadn 95 dX4_atom_94 rfl rfl rfl ?_
              refine xg_iloadn 96 dX4_atom_95 rfl rfl rfl ?_
              refine xg_iconst 97 dX4_atom_96 rfl ?_
              refine xg_iadd 98 dX4_atom_97 rfl ?_
              have hok7 := gAny_ok (t := t) (gAtom_ok (t := t) lv) hxA.2
              rcases hs7 : gAny t e (gAtom t e lv) (zX t e q) with f7 | ⟨cs7, q7⟩
              · rw [hs7] at hok7
                have hok7a := hok7.1
                have hok7b := hok7.2
                rw [show (6 - ((lv + 1 : Nat) : Int)) + 1 = 6 - (lv : Int) by omega]
                refine xg_callVe 101 4 [_] _ kv_X4_anyOf ⟨_, _, rfl⟩ kl_RX4_55 dX4_atom_98 rfl (by assumption) (by omega) rfl rfl (Nat.le_of_ble_eq_true rfl) (by omega) ⟨Nat.le_refl _, Nat.le_refl _⟩ (lRes.cg hs7 (ct_X4_anyOf hs hk0 ht4 he hsr hr (i := i + 1) (q := zX t e q) hnA.1 hnA.2 (by omega) hA)) rfl (fun v9 h9 e9 => ?_)
                obtain ⟨rfl, i7, u7, g7, hi7, rfl⟩ := e9
                refine xg_ifeq 121 104 dX4_atom_101 rfl rfl (by omega) (fun hb101 => ?_) (fun hb101 => ?_)
                · skip
                  refine xg_iconst 122 dX4_atom_121 rfl ?_
                  subst hX
                  refine xg_zreturn dX4_atom_122 rfl (by first | exact bI_01 _ | omega) ⟨Nat.le_refl _, Nat.le_refl _⟩ ?_
                  rw [gAtom_3 (by omega) hs7]
                  exact ⟨rfl, _, _, _, hi7, rfl⟩
                · exfalso; omega
              · rw [hs7] at hok7
                obtain ⟨ho7, hoe7, hol7, hoc7⟩ := hok7
                rw [show (6 - ((lv + 1 : Nat) : Int)) + 1 = 6 - (lv : Int) by omega]
                refine xg_callVe 101 4 [_] _ kv_X4_anyOf ⟨_, _, rfl⟩ kl_RX4_55 dX4_atom_98 rfl (by assumption) (by omega) rfl rfl (Nat.le_of_ble_eq_true rfl) (by omega) ⟨Nat.le_refl _, Nat.le_refl _⟩ (lRes.cg hs7 (ct_X4_anyOf hs hk0 ht4 he hsr hr (i := i + 1) (q := zX t e q) hnA.1 hnA.2 (by omega) hA)) rfl (fun v9 h9 e9 => ?_)
                obtain ⟨rfl, i7, u7, g7, hi7, hq7, hu7, hC7, rfl⟩ := e9
                refine xg_ifeq 121 104 dX4_atom_101 rfl rfl (by omega) (fun hb101 => ?_) (fun hb101 => ?_)
                · exfalso; omega
                · skip
                  refine xg_aloadn 105 dX4_atom_104 rfl rfl rfl ?_
                  refine xg_getP 108 kf_RX4_9 dX4_atom_105 rfl (by assumption) r1 ?_
                  refine xg_sipush 111 dX4_atom_108 rfl (by decide) ?_
                  refine xg_callV 114 7 [_] _ kv_X7_needs ⟨_, _, rfl⟩ kl_RX4_58 dX4_atom_111 rfl (by assumption) (by omega) rfl rfl (Nat.le_of_ble_eq_true rfl) (by omega) ⟨Nat.le_refl _, Nat.le_refl _⟩ (cs_needs hs hk0 ht4 he hsr (i := i7) (q := q7) hi7 hq7 (by omega)) rfl ?_
                  refine xg_deq 121 117 dX4_atom_114 rfl rfl (fun hb114 => ?_) (fun hb114 => ?_)
                  · rw [if_neg hb114]
                    refine xg_iconst 122 dX4_atom_121 rfl ?_
                    subst hX
                    refine xg_zreturn dX4_atom_122 rfl (by first | exact bI_01 _ | omega) ⟨Nat.le_refl _, Nat.le_refl _⟩ ?_
                    rw [gAtom_5 (by omega) hs7 (by omega)]
                    exact ⟨rfl, _, _, _, hi7, rfl⟩
                  · rw [if_pos hb114]
                    have hltB := zK_lt (t := t) (e := e) (q := q7) (by omega)
                    have hxB := zX_b (t := t) hltB
                    have hnB := hk0.nx hi7 (by rw [hq7]; exact hltB)
                    rw [hq7] at hnB
                    refine xg_iconst 118 dX4_atom_117 rfl ?_
                    refine xg_goto 122 dX4_atom_118 rfl ?_
                    subst hX
                    refine xg_zreturn dX4_atom_122 rfl (by first | exact bI_01 _ | omega) ⟨Nat.le_refl _, Nat.le_refl _⟩ ?_
                    rw [gAtom_4 (by omega) hs7 (by omega)]
                    exact ⟨rfl, _, _, _, hnB.1, hnB.2, hu7, hC7, rfl⟩
          · rw [if_pos hb58]
            have hltA := zK_lt (t := t) (e := e) (q := q) (by omega)
            have hxA := zX_b (t := t) hltA
            have hnA := hk0.nx hi (by rw [hq]; exact hltA)
            rw [hq] at hnA
            refine xg_aloadn 62 dX4_atom_61 rfl rfl rfl ?_
            refine xg_iloadn 63 dX4_atom_62 rfl rfl rfl ?_
            refine xg_iconst 64 dX4_atom_63 rfl ?_
            refine xg_iadd 65 dX4_atom_64 rfl ?_
            have hok8 := gAtom_ok (t := t) lv _ hxA.2
            rcases hs8 : gAtom t e lv (zX t e q) with f8 | ⟨cs8, q8⟩
            · rw [hs8] at hok8
              have hok8a := hok8.1
              have hok8b := hok8.2
              rw [show (6 - ((lv + 1 : Nat) : Int)) + 1 = 6 - (lv : Int) by omega]
              refine xg_callVe 68 4 [_] _ kv_X4_atom ⟨_, _, rfl⟩ kl_RX4_73 dX4_atom_65 rfl (by assumption) (by omega) rfl rfl (Nat.le_of_ble_eq_true rfl) (by omega) ⟨Nat.le_refl _, Nat.le_refl _⟩ (lRes.cg hs8 (hA (i + 1) _ (zX t e q) _ hnA.1 hnA.2 (by omega))) rfl (fun v9 h9 e9 => ?_)
              obtain ⟨rfl, i8, u8, g8, hi8, rfl⟩ := e9
              refine xg_ifne 73 71 dX4_atom_68 rfl rfl (by omega) (fun hb68 => ?_) (fun hb68 => ?_)
              · exfalso; omega
              · skip
                refine xg_iconst 72 dX4_atom_71 rfl ?_
                subst hX
                refine xg_zreturn dX4_atom_72 rfl (by first | exact bI_01 _ | omega) ⟨Nat.le_refl _, Nat.le_refl _⟩ ?_
                rw [gAtom_1 (by omega) hs8]
                exact ⟨rfl, _, _, _, hi8, rfl⟩
            · rw [hs8] at hok8
              obtain ⟨ho8, hoe8, hol8, hoc8⟩ := hok8
              rw [show (6 - ((lv + 1 : Nat) : Int)) + 1 = 6 - (lv : Int) by omega]
              refine xg_callVe 68 4 [_] _ kv_X4_atom ⟨_, _, rfl⟩ kl_RX4_73 dX4_atom_65 rfl (by assumption) (by omega) rfl rfl (Nat.le_of_ble_eq_true rfl) (by omega) ⟨Nat.le_refl _, Nat.le_refl _⟩ (lRes.cg hs8 (hA (i + 1) _ (zX t e q) _ hnA.1 hnA.2 (by omega))) rfl (fun v9 h9 e9 => ?_)
              obtain ⟨rfl, i8, u8, g8, hi8, hq8, hu8, hC8, rfl⟩ := e9
              refine xg_ifne 73 71 dX4_atom_68 rfl rfl (by omega) (fun hb68 => ?_) (fun hb68 => ?_)
              · skip
                refine xg_aloadn 74 dX4_atom_73 rfl rfl rfl ?_
                refine xg_bipush 76 dX4_atom_74 rfl (by decide) ?_
                refine xg_callV 79 4 [_] _ kv_X4_emit ⟨_, _, rfl⟩ kl_RX4_69 dX4_atom_76 rfl (by assumption) (by omega) rfl rfl (Nat.le_of_ble_eq_true rfl) (by omega) ⟨Nat.le_refl _, Nat.le_refl _⟩ (cs_emit hr hsr (by omega)) rfl ?_
                refine xg_iconst 80 dX4_atom_79 rfl ?_
                subst hX
                refine xg_zreturn dX4_atom_80 rfl (by first | exact bI_01 _ | omega) ⟨Nat.le_refl _, Nat.le_refl _⟩ ?_
                rw [gAtom_2 (by omega) hs8]
                exact ⟨rfl, i8, u8 + 1, wS g8 u8 (-3), hi8, hq8, by rw [List.length_append]; show u8 + 1 = u + ((cs8.length + 1 : Nat) : Int); omega, hC8.em2 hu8 rfl, rfl⟩
              · exfalso; omega
        · exfalso; omega
  · skip
    refine xg_aloadn 13 dX4_atom_12 rfl rfl rfl ?_
    refine xg_getP 16 kf_RX4_9 dX4_atom_13 rfl (by assumption) r1 ?_
    refine xg_sipush 19 dX4_atom_16 rfl (by decide) ?_
    refine xg_callV 22 7 [_] _ kv_X7_is ⟨_, _, rfl⟩ kl_RX4_35 dX4_atom_19 rfl (by assumption) (by omega) rfl rfl (Nat.le_of_ble_eq_true rfl) (by omega) ⟨Nat.le_refl _, Nat.le_refl _⟩ (cs_is hs hk0 ht4 he hsr (i := i) (q := q) hi hq (by omega)) rfl ?_
    refine xg_deq 29 25 dX4_atom_22 rfl rfl (fun hb22 => ?_) (fun hb22 => ?_)
    · skip
      refine xg_iconst 30 dX4_atom_29 rfl ?_
      refine xg_istoren 31 _ dX4_atom_30 rfl rfl rfl (by decide) (Or.inr rfl) ?_
      refine xg_iloadn 32 dX4_atom_31 rfl rfl rfl ?_
      refine xg_ifeq 49 35 dX4_atom_32 rfl rfl (by omega) (fun hb32 => ?_) (fun hb32 => ?_)
      · first
        | (exfalso; omega)
        | skip
          refine xg_aloadn 50 dX4_atom_49 rfl rfl rfl ?_
          refine xg_getP 53 kf_RX4_9 dX4_atom_50 rfl (by assumption) r1 ?_
          refine xg_bipush 55 dX4_atom_53 rfl (by decide) ?_
          refine xg_callV 58 7 [_] _ kv_X7_takes ⟨_, _, rfl⟩ kl_RX4_52 dX4_atom_55 rfl (by assumption) (by omega) rfl rfl (Nat.le_of_ble_eq_true rfl) (by omega) ⟨Nat.le_refl _, Nat.le_refl _⟩ (cs_takes hs hk0 ht4 he hsr (i := i) (q := q) hi hq (by omega)) rfl ?_
          refine xg_deq 81 61 dX4_atom_58 rfl rfl (fun hb58 => ?_) (fun hb58 => ?_)
          · rw [if_neg hb58]
            refine xg_aloadn 82 dX4_atom_81 rfl rfl rfl ?_
            refine xg_getP 85 kf_RX4_9 dX4_atom_82 rfl (by assumption) r1 ?_
            refine xg_sipush 88 dX4_atom_85 rfl (by decide) ?_
            refine xg_callV 91 7 [_] _ kv_X7_takes ⟨_, _, rfl⟩ kl_RX4_52 dX4_atom_88 rfl (by assumption) (by omega) rfl rfl (Nat.le_of_ble_eq_true rfl) (by omega) ⟨Nat.le_refl _, Nat.le_refl _⟩ (cs_takes hs hk0 ht4 he hsr (i := i) (q := q) hi hq (by omega)) rfl ?_
            refine xg_deq 123 94 dX4_atom_91 rfl rfl (fun hb91 => ?_) (fun hb91 => ?_)
            · rw [if_neg hb91]
              refine xg_aloadn 124 dX4_atom_123 rfl rfl rfl ?_
              refine xg_getP 127 kf_RX4_9 dX4_atom_124 rfl (by assumption) r1 ?_
              refine xg_bipush 129 dX4_atom_127 rfl (by decide) ?_
              refine xg_bipush 131 dX4_atom_129 rfl (by decide) ?_
              by_cases htg : 7 ≤ zK t e q ∧ zK t e q ≤ 9
              · have hltA := zK_lt (t := t) (e := e) (q := q) (by omega)
                have hxA := zX_b (t := t) hltA
                have hnA := hk0.nx hi (by rw [hq]; exact hltA)
                rw [hq] at hnA
                refine xg_callV 134 7 [_, _] _ kv_X7_takesFrom ⟨_, _, rfl⟩ kl_RX4_41 dX4_atom_131 rfl (by assumption) (by omega) rfl rfl (Nat.le_of_ble_eq_true rfl) (by omega) ⟨Nat.le_refl _, Nat.le_refl _⟩ (cs_takesFrom hs hk0 ht4 he hsr (i := i) (q := q) hi hq (by omega)) rfl ?_
                rw [if_pos htg, if_pos htg]
                refine xg_istoren 135 _ dX4_atom_134 rfl rfl rfl (by decide) (Or.inr rfl) ?_
                refine xg_iloadn 136 dX4_atom_135 rfl rfl rfl ?_
                refine xg_iconst 137 dX4_atom_136 rfl ?_
                refine xg_iceq 150 140 dX4_atom_137 rfl rfl (by omega) (fun hb137 => ?_) (fun hb137 => ?_)
                · exfalso; omega
                · skip
                  refine xg_aloadn 141 dX4_atom_140 rfl rfl rfl ?_
                  refine xg_bipush 143 dX4_atom_141 rfl (by decide) ?_
                  refine xg_iloadn 144 dX4_atom_143 rfl rfl rfl ?_
                  refine xg_isub 145 dX4_atom_144 rfl ?_
                  refine xg_callV 148 4 [_] _ kv_X4_emit ⟨_, _, rfl⟩ kl_RX4_69 dX4_atom_145 rfl (by assumption) (by omega) rfl rfl (Nat.le_of_ble_eq_true rfl) (by omega) ⟨Nat.le_refl _, Nat.le_refl _⟩ (cs_emit hr hsr (by omega)) rfl ?_
                  refine xg_iconst 149 dX4_atom_148 rfl ?_
                  subst hX
                  refine xg_zreturn dX4_atom_149 rfl (by first | exact bI_01 _ | omega) ⟨Nat.le_refl _, Nat.le_refl _⟩ ?_
                  rw [gAtom_leaf (by omega) (by omega), gLeaf_t htg]
                  exact ⟨rfl, _, _, _, hnA.1, hnA.2, rfl, pCo.em (cEnc_f (by omega)).symm, rfl⟩
              · skip
                refine xg_callV 134 7 [_, _] _ kv_X7_takesFrom ⟨_, _, rfl⟩ kl_RX4_41 dX4_atom_131 rfl (by assumption) (by omega) rfl rfl (Nat.le_of_ble_eq_true rfl) (by omega) ⟨Nat.le_refl _, Nat.le_refl _⟩ (cs_takesFrom hs hk0 ht4 he hsr (i := i) (q := q) hi hq (by omega)) rfl ?_
                rw [if_neg htg, if_neg htg]
                refine xg_istoren 135 _ dX4_atom_134 rfl rfl rfl (by decide) (Or.inr rfl) ?_
                refine xg_iloadn 136 dX4_atom_135 rfl rfl rfl ?_
                refine xg_iconst 137 dX4_atom_136 rfl ?_
                refine xg_iceq 150 140 dX4_atom_137 rfl rfl (by omega) (fun hb137 => ?_) (fun hb137 => ?_)
                · skip
                  refine xg_aloadn 151 dX4_atom_150 rfl rfl rfl ?_
                  have hcok := gComp_ok (t := t) hqb.2.1
                  rcases hs4 : gComp t e q with f4 | ⟨cs4, q4⟩
                  · skip
                    refine xg_callVe 154 4 [] _ kv_X4_comparison ⟨_, _, rfl⟩ kl_RX4_76 dX4_atom_151 rfl (by assumption) (by omega) rfl rfl (Nat.le_of_ble_eq_true rfl) (by omega) ⟨Nat.le_refl _, Nat.le_refl _⟩ (lRes.cg hs4 (ct_X4_comparison hs hk0 ht4 he hsr hr hi hq hu)) rfl (fun v9 h9 e9 => ?_)
                    obtain ⟨rfl, i4, u4, g4, hi4, rfl⟩ := e9
                    subst hX
                    refine xg_zreturn dX4_atom_154 rfl (by first | exact bI_01 _ | omega) ⟨Nat.le_refl _, Nat.le_refl _⟩ ?_
                    rw [gAtom_leaf (by omega) (by omega), gLeaf_f htg, hs4]
                    exact ⟨rfl, _, _, _, hi4, rfl⟩
                  · skip
                    refine xg_callVe 154 4 [] _ kv_X4_comparison ⟨_, _, rfl⟩ kl_RX4_76 dX4_atom_151 rfl (by assumption) (by omega) rfl rfl (Nat.le_of_ble_eq_true rfl) (by omega) ⟨Nat.le_refl _, Nat.le_refl _⟩ (lRes.cg hs4 (ct_X4_comparison hs hk0 ht4 he hsr hr hi hq hu)) rfl (fun v9 h9 e9 => ?_)
                    obtain ⟨rfl, i4, u4, g4, hi4, hq4, hu4, hC4, rfl⟩ := e9
                    subst hX
                    refine xg_zreturn dX4_atom_154 rfl (by first | exact bI_01 _ | omega) ⟨Nat.le_refl _, Nat.le_refl _⟩ ?_
                    rw [gAtom_leaf (by omega) (by omega), gLeaf_f htg, hs4]
                    exact ⟨rfl, _, _, _, hi4, hq4, hu4, hC4, rfl⟩
                · exfalso; omega
            · rw [if_pos hb91]
              have hltA := zK_lt (t := t) (e := e) (q := q) (by omega)
              have hxA := zX_b (t := t) hltA
              have hnA := hk0.nx hi (by rw [hq]; exact hltA)
              rw [hq] at hnA
              refine xg_aloadn 95 dX4_atom_94 rfl rfl rfl ?_
              refine xg_iloadn 96 dX4_atom_95 rfl rfl rfl ?_
              refine xg_iconst 97 dX4_atom_96 rfl ?_
              refine xg_iadd 98 dX4_atom_97 rfl ?_
              have hok7 := gAny_ok (t := t) (gAtom_ok (t := t) lv) hxA.2
              rcases hs7 : gAny t e (gAtom t e lv) (zX t e q) with f7 | ⟨cs7, q7⟩
              · rw [hs7] at hok7
                have hok7a := hok7.1
                have hok7b := hok7.2
                rw [show (6 - ((lv + 1 : Nat) : Int)) + 1 = 6 - (lv : Int) by omega]
                refine xg_callVe 101 4 [_] _ kv_X4_anyOf ⟨_, _, rfl⟩ kl_RX4_55 dX4_atom_98 rfl (by assumption) (by omega) rfl rfl (Nat.le_of_ble_eq_true rfl) (by omega) ⟨Nat.le_refl _, Nat.le_refl _⟩ (lRes.cg hs7 (ct_X4_anyOf hs hk0 ht4 he hsr hr (i := i + 1) (q := zX t e q) hnA.1 hnA.2 (by omega) hA)) rfl (fun v9 h9 e9 => ?_)
                obtain ⟨rfl, i7, u7, g7, hi7, rfl⟩ := e9
                refine xg_ifeq 121 104 dX4_atom_101 rfl rfl (by omega) (fun hb101 => ?_) (fun hb101 => ?_)
                · skip
                  refine xg_iconst 122 dX4_atom_121 rfl ?_
                  subst hX
                  refine xg_zreturn dX4_atom_122 rfl (by first | exact bI_01 _ | omega) ⟨Nat.le_refl _, Nat.le_refl _⟩ ?_
                  rw [gAtom_3 (by omega) hs7]
                  exact ⟨rfl, _, _, _, hi7, rfl⟩
                · exfalso; omega
              · rw [hs7] at hok7
                obtain ⟨ho7, hoe7, hol7, hoc7⟩ := hok7
                rw [show (6 - ((lv + 1 : Nat) : Int)) + 1 = 6 - (lv : Int) by omega]
                refine xg_callVe 101 4 [_] _ kv_X4_anyOf ⟨_, _, rfl⟩ kl_RX4_55 dX4_atom_98 rfl (by assumption) (by omega) rfl rfl (Nat.le_of_ble_eq_true rfl) (by omega) ⟨Nat.le_refl _, Nat.le_refl _⟩ (lRes.cg hs7 (ct_X4_anyOf hs hk0 ht4 he hsr hr (i := i + 1) (q := zX t e q) hnA.1 hnA.2 (by omega) hA)) rfl (fun v9 h9 e9 => ?_)
                obtain ⟨rfl, i7, u7, g7, hi7, hq7, hu7, hC7, rfl⟩ := e9
                refine xg_ifeq 121 104 dX4_atom_101 rfl rfl (by omega) (fun hb101 => ?_) (fun hb101 => ?_)
                · exfalso; omega
                · skip
                  refine xg_aloadn 105 dX4_atom_104 rfl rfl rfl ?_
                  refine xg_getP 108 kf_RX4_9 dX4_atom_105 rfl (by assumption) r1 ?_
                  refine xg_sipush 111 dX4_atom_108 rfl (by decide) ?_
                  refine xg_callV 114 7 [_] _ kv_X7_needs ⟨_, _, rfl⟩ kl_RX4_58 dX4_atom_111 rfl (by assumption) (by omega) rfl rfl (Nat.le_of_ble_eq_true rfl) (by omega) ⟨Nat.le_refl _, Nat.le_refl _⟩ (cs_needs hs hk0 ht4 he hsr (i := i7) (q := q7) hi7 hq7 (by omega)) rfl ?_
                  refine xg_deq 121 117 dX4_atom_114 rfl rfl (fun hb114 => ?_) (fun hb114 => ?_)
                  · rw [if_neg hb114]
                    refine xg_iconst 122 dX4_atom_121 rfl ?_
                    subst hX
                    refine xg_zreturn dX4_atom_122 rfl (by first | exact bI_01 _ | omega) ⟨Nat.le_refl _, Nat.le_refl _⟩ ?_
                    rw [gAtom_5 (by omega) hs7 (by omega)]
                    exact ⟨rfl, _, _, _, hi7, rfl⟩
                  · rw [if_pos hb114]
                    have hltB := zK_lt (t := t) (e := e) (q := q7) (by omega)
                    have hxB := zX_b (t := t) hltB
                    have hnB := hk0.nx hi7 (by rw [hq7]; exact hltB)
                    rw [hq7] at hnB
                    refine xg_iconst 118 dX4_atom_117 rfl ?_
                    refine xg_goto 122 dX4_atom_118 rfl ?_
                    subst hX
                    refine xg_zreturn dX4_atom_122 rfl (by first | exact bI_01 _ | omega) ⟨Nat.le_refl _, Nat.le_refl _⟩ ?_
                    rw [gAtom_4 (by omega) hs7 (by omega)]
                    exact ⟨rfl, _, _, _, hnB.1, hnB.2, hu7, hC7, rfl⟩
          · rw [if_pos hb58]
            have hltA := zK_lt (t := t) (e := e) (q := q) (by omega)
            have hxA := zX_b (t := t) hltA
            have hnA := hk0.nx hi (by rw [hq]; exact hltA)
            rw [hq] at hnA
            refine xg_aloadn 62 dX4_atom_61 rfl rfl rfl ?_
            refine xg_iloadn 63 dX4_atom_62 rfl rfl rfl ?_
            refine xg_iconst 64 dX4_atom_63 rfl ?_
            refine xg_iadd 65 dX4_atom_64 rfl ?_
            have hok8 := gAtom_ok (t := t) lv _ hxA.2
            rcases hs8 : gAtom t e lv (zX t e q) with f8 | ⟨cs8, q8⟩
            · rw [hs8] at hok8
              have hok8a := hok8.1
              have hok8b := hok8.2
              rw [show (6 - ((lv + 1 : Nat) : Int)) + 1 = 6 - (lv : Int) by omega]
              refine xg_callVe 68 4 [_] _ kv_X4_atom ⟨_, _, rfl⟩ kl_RX4_73 dX4_atom_65 rfl (by assumption) (by omega) rfl rfl (Nat.le_of_ble_eq_true rfl) (by omega) ⟨Nat.le_refl _, Nat.le_refl _⟩ (lRes.cg hs8 (hA (i + 1) _ (zX t e q) _ hnA.1 hnA.2 (by omega))) rfl (fun v9 h9 e9 => ?_)
              obtain ⟨rfl, i8, u8, g8, hi8, rfl⟩ := e9
              refine xg_ifne 73 71 dX4_atom_68 rfl rfl (by omega) (fun hb68 => ?_) (fun hb68 => ?_)
              · exfalso; omega
              · skip
                refine xg_iconst 72 dX4_atom_71 rfl ?_
                subst hX
                refine xg_zreturn dX4_atom_72 rfl (by first | exact bI_01 _ | omega) ⟨Nat.le_refl _, Nat.le_refl _⟩ ?_
                rw [gAtom_1 (by omega) hs8]
                exact ⟨rfl, _, _, _, hi8, rfl⟩
            · rw [hs8] at hok8
              obtain ⟨ho8, hoe8, hol8, hoc8⟩ := hok8
              rw [show (6 - ((lv + 1 : Nat) : Int)) + 1 = 6 - (lv : Int) by omega]
              refine xg_callVe 68 4 [_] _ kv_X4_atom ⟨_, _, rfl⟩ kl_RX4_73 dX4_atom_65 rfl (by assumption) (by omega) rfl rfl (Nat.le_of_ble_eq_true rfl) (by omega) ⟨Nat.le_refl _, Nat.le_refl _⟩ (lRes.cg hs8 (hA (i + 1) _ (zX t e q) _ hnA.1 hnA.2 (by omega))) rfl (fun v9 h9 e9 => ?_)
              obtain ⟨rfl, i8, u8, g8, hi8, hq8, hu8, hC8, rfl⟩ := e9
              refine xg_ifne 73 71 dX4_atom_68 rfl rfl (by omega) (fun hb68 => ?_) (fun hb68 => ?_)
              · skip
                refine xg_aloadn 74 dX4_atom_73 rfl rfl rfl ?_
                refine xg_bipush 76 dX4_atom_74 rfl (by decide) ?_
                refine xg_callV 79 4 [_] _ kv_X4_emit ⟨_, _, rfl⟩ kl_RX4_69 dX4_atom_76 rfl (by assumption) (by omega) rfl rfl (Nat.le_of_ble_eq_true rfl) (by omega) ⟨Nat.le_refl _, Nat.le_refl _⟩ (cs_emit hr hsr (by omega)) rfl ?_
                refine xg_iconst 80 dX4_atom_79 rfl ?_
                subst hX
                refine xg_zreturn dX4_atom_80 rfl (by first | exact bI_01 _ | omega) ⟨Nat.le_refl _, Nat.le_refl _⟩ ?_
                rw [gAtom_2 (by omega) hs8]
                exact ⟨rfl, i8, u8 + 1, wS g8 u8 (-3), hi8, hq8, by rw [List.length_append]; show u8 + 1 = u + ((cs8.length + 1 : Nat) : Int); omega, hC8.em2 hu8 rfl, rfl⟩
              · exfalso; omega
      · exfalso; omega
    · skip
      refine xg_iconst 26 dX4_atom_25 rfl ?_
      refine xg_goto 30 dX4_atom_26 rfl ?_
      refine xg_istoren 31 _ dX4_atom_30 rfl rfl rfl (by decide) (Or.inr rfl) ?_
      refine xg_iloadn 32 dX4_atom_31 rfl rfl rfl ?_
      refine xg_ifeq 49 35 dX4_atom_32 rfl rfl (by omega) (fun hb32 => ?_) (fun hb32 => ?_)
      · exfalso; omega
      · first
        | (exfalso; omega)
        | skip
          refine xg_iloadn 36 dX4_atom_35 rfl rfl rfl ?_
          refine xg_bipush 38 dX4_atom_36 rfl (by decide) ?_
          refine xg_iclt 49 41 dX4_atom_38 rfl rfl (by omega) (fun hb38 => ?_) (fun hb38 => ?_)
          · skip
            refine xg_aloadn 50 dX4_atom_49 rfl rfl rfl ?_
            refine xg_getP 53 kf_RX4_9 dX4_atom_50 rfl (by assumption) r1 ?_
            refine xg_bipush 55 dX4_atom_53 rfl (by decide) ?_
            refine xg_callV 58 7 [_] _ kv_X7_takes ⟨_, _, rfl⟩ kl_RX4_52 dX4_atom_55 rfl (by assumption) (by omega) rfl rfl (Nat.le_of_ble_eq_true rfl) (by omega) ⟨Nat.le_refl _, Nat.le_refl _⟩ (cs_takes hs hk0 ht4 he hsr (i := i) (q := q) hi hq (by omega)) rfl ?_
            refine xg_deq 81 61 dX4_atom_58 rfl rfl (fun hb58 => ?_) (fun hb58 => ?_)
            · rw [if_neg hb58]
              refine xg_aloadn 82 dX4_atom_81 rfl rfl rfl ?_
              refine xg_getP 85 kf_RX4_9 dX4_atom_82 rfl (by assumption) r1 ?_
              refine xg_sipush 88 dX4_atom_85 rfl (by decide) ?_
              refine xg_callV 91 7 [_] _ kv_X7_takes ⟨_, _, rfl⟩ kl_RX4_52 dX4_atom_88 rfl (by assumption) (by omega) rfl rfl (Nat.le_of_ble_eq_true rfl) (by omega) ⟨Nat.le_refl _, Nat.le_refl _⟩ (cs_takes hs hk0 ht4 he hsr (i := i) (q := q) hi hq (by omega)) rfl ?_
              refine xg_deq 123 94 dX4_atom_91 rfl rfl (fun hb91 => ?_) (fun hb91 => ?_)
              · rw [if_neg hb91]
                refine xg_aloadn 124 dX4_atom_123 rfl rfl rfl ?_
                refine xg_getP 127 kf_RX4_9 dX4_atom_124 rfl (by assumption) r1 ?_
                refine xg_bipush 129 dX4_atom_127 rfl (by decide) ?_
                refine xg_bipush 131 dX4_atom_129 rfl (by decide) ?_
                by_cases htg : 7 ≤ zK t e q ∧ zK t e q ≤ 9
                · have hltA := zK_lt (t := t) (e := e) (q := q) (by omega)
                  have hxA := zX_b (t := t) hltA
                  have hnA := hk0.nx hi (by rw [hq]; exact hltA)
                  rw [hq] at hnA
                  refine xg_callV 134 7 [_, _] _ kv_X7_takesFrom ⟨_, _, rfl⟩ kl_RX4_41 dX4_atom_131 rfl (by assumption) (by omega) rfl rfl (Nat.le_of_ble_eq_true rfl) (by omega) ⟨Nat.le_refl _, Nat.le_refl _⟩ (cs_takesFrom hs hk0 ht4 he hsr (i := i) (q := q) hi hq (by omega)) rfl ?_
                  rw [if_pos htg, if_pos htg]
                  refine xg_istoren 135 _ dX4_atom_134 rfl rfl rfl (by decide) (Or.inr rfl) ?_
                  refine xg_iloadn 136 dX4_atom_135 rfl rfl rfl ?_
                  refine xg_iconst 137 dX4_atom_136 rfl ?_
                  refine xg_iceq 150 140 dX4_atom_137 rfl rfl (by omega) (fun hb137 => ?_) (fun hb137 => ?_)
                  · exfalso; omega
                  · skip
                    refine xg_aloadn 141 dX4_atom_140 rfl rfl rfl ?_
                    refine xg_bipush 143 dX4_atom_141 rfl (by decide) ?_
                    refine xg_iloadn 144 dX4_atom_143 rfl rfl rfl ?_
                    refine xg_isub 145 dX4_atom_144 rfl ?_
                    refine xg_callV 148 4 [_] _ kv_X4_emit ⟨_, _, rfl⟩ kl_RX4_69 dX4_atom_145 rfl (by assumption) (by omega) rfl rfl (Nat.le_of_ble_eq_true rfl) (by omega) ⟨Nat.le_refl _, Nat.le_refl _⟩ (cs_emit hr hsr (by omega)) rfl ?_
                    refine xg_iconst 149 dX4_atom_148 rfl ?_
                    subst hX
                    refine xg_zreturn dX4_atom_149 rfl (by first | exact bI_01 _ | omega) ⟨Nat.le_refl _, Nat.le_refl _⟩ ?_
                    rw [gAtom_leaf (by omega) (by omega), gLeaf_t htg]
                    exact ⟨rfl, _, _, _, hnA.1, hnA.2, rfl, pCo.em (cEnc_f (by omega)).symm, rfl⟩
                · skip
                  refine xg_callV 134 7 [_, _] _ kv_X7_takesFrom ⟨_, _, rfl⟩ kl_RX4_41 dX4_atom_131 rfl (by assumption) (by omega) rfl rfl (Nat.le_of_ble_eq_true rfl) (by omega) ⟨Nat.le_refl _, Nat.le_refl _⟩ (cs_takesFrom hs hk0 ht4 he hsr (i := i) (q := q) hi hq (by omega)) rfl ?_
                  rw [if_neg htg, if_neg htg]
                  refine xg_istoren 135 _ dX4_atom_134 rfl rfl rfl (by decide) (Or.inr rfl) ?_
                  refine xg_iloadn 136 dX4_atom_135 rfl rfl rfl ?_
                  refine xg_iconst 137 dX4_atom_136 rfl ?_
                  refine xg_iceq 150 140 dX4_atom_137 rfl rfl (by omega) (fun hb137 => ?_) (fun hb137 => ?_)
                  · skip
                    refine xg_aloadn 151 dX4_atom_150 rfl rfl rfl ?_
                    have hcok := gComp_ok (t := t) hqb.2.1
                    rcases hs4 : gComp t e q with f4 | ⟨cs4, q4⟩
                    · skip
                      refine xg_callVe 154 4 [] _ kv_X4_comparison ⟨_, _, rfl⟩ kl_RX4_76 dX4_atom_151 rfl (by assumption) (by omega) rfl rfl (Nat.le_of_ble_eq_true rfl) (by omega) ⟨Nat.le_refl _, Nat.le_refl _⟩ (lRes.cg hs4 (ct_X4_comparison hs hk0 ht4 he hsr hr hi hq hu)) rfl (fun v9 h9 e9 => ?_)
                      obtain ⟨rfl, i4, u4, g4, hi4, rfl⟩ := e9
                      subst hX
                      refine xg_zreturn dX4_atom_154 rfl (by first | exact bI_01 _ | omega) ⟨Nat.le_refl _, Nat.le_refl _⟩ ?_
                      rw [gAtom_leaf (by omega) (by omega), gLeaf_f htg, hs4]
                      exact ⟨rfl, _, _, _, hi4, rfl⟩
                    · skip
                      refine xg_callVe 154 4 [] _ kv_X4_comparison ⟨_, _, rfl⟩ kl_RX4_76 dX4_atom_151 rfl (by assumption) (by omega) rfl rfl (Nat.le_of_ble_eq_true rfl) (by omega) ⟨Nat.le_refl _, Nat.le_refl _⟩ (lRes.cg hs4 (ct_X4_comparison hs hk0 ht4 he hsr hr hi hq hu)) rfl (fun v9 h9 e9 => ?_)
                      obtain ⟨rfl, i4, u4, g4, hi4, hq4, hu4, hC4, rfl⟩ := e9
                      subst hX
                      refine xg_zreturn dX4_atom_154 rfl (by first | exact bI_01 _ | omega) ⟨Nat.le_refl _, Nat.le_refl _⟩ ?_
                      rw [gAtom_leaf (by omega) (by omega), gLeaf_f htg, hs4]
                      exact ⟨rfl, _, _, _, hi4, hq4, hu4, hC4, rfl⟩
                  · exfalso; omega
              · rw [if_pos hb91]
                have hltA := zK_lt (t := t) (e := e) (q := q) (by omega)
                have hxA := zX_b (t := t) hltA
                have hnA := hk0.nx hi (by rw [hq]; exact hltA)
                rw [hq] at hnA
                refine xg_aloadn 95 dX4_atom_94 rfl rfl rfl ?_
                refine xg_iloadn 96 dX4_atom_95 rfl rfl rfl ?_
                refine xg_iconst 97 dX4_atom_96 rfl ?_
                refine xg_iadd 98 dX4_atom_97 rfl ?_
                have hok7 := gAny_ok (t := t) (gAtom_ok (t := t) lv) hxA.2
                rcases hs7 : gAny t e (gAtom t e lv) (zX t e q) with f7 | ⟨cs7, q7⟩
                · rw [hs7] at hok7
                  have hok7a := hok7.1
                  have hok7b := hok7.2
                  rw [show (6 - ((lv + 1 : Nat) : Int)) + 1 = 6 - (lv : Int) by omega]
                  refine xg_callVe 101 4 [_] _ kv_X4_anyOf ⟨_, _, rfl⟩ kl_RX4_55 dX4_atom_98 rfl (by assumption) (by omega) rfl rfl (Nat.le_of_ble_eq_true rfl) (by omega) ⟨Nat.le_refl _, Nat.le_refl _⟩ (lRes.cg hs7 (ct_X4_anyOf hs hk0 ht4 he hsr hr (i := i + 1) (q := zX t e q) hnA.1 hnA.2 (by omega) hA)) rfl (fun v9 h9 e9 => ?_)
                  obtain ⟨rfl, i7, u7, g7, hi7, rfl⟩ := e9
                  refine xg_ifeq 121 104 dX4_atom_101 rfl rfl (by omega) (fun hb101 => ?_) (fun hb101 => ?_)
                  · skip
                    refine xg_iconst 122 dX4_atom_121 rfl ?_
                    subst hX
                    refine xg_zreturn dX4_atom_122 rfl (by first | exact bI_01 _ | omega) ⟨Nat.le_refl _, Nat.le_refl _⟩ ?_
                    rw [gAtom_3 (by omega) hs7]
                    exact ⟨rfl, _, _, _, hi7, rfl⟩
                  · exfalso; omega
                · rw [hs7] at hok7
                  obtain ⟨ho7, hoe7, hol7, hoc7⟩ := hok7
                  rw [show (6 - ((lv + 1 : Nat) : Int)) + 1 = 6 - (lv : Int) by omega]
                  refine xg_callVe 101 4 [_] _ kv_X4_anyOf ⟨_, _, rfl⟩ kl_RX4_55 dX4_atom_98 rfl (by assumption) (by omega) rfl rfl (Nat.le_of_ble_eq_true rfl) (by omega) ⟨Nat.le_refl _, Nat.le_refl _⟩ (lRes.cg hs7 (ct_X4_anyOf hs hk0 ht4 he hsr hr (i := i + 1) (q := zX t e q) hnA.1 hnA.2 (by omega) hA)) rfl (fun v9 h9 e9 => ?_)
                  obtain ⟨rfl, i7, u7, g7, hi7, hq7, hu7, hC7, rfl⟩ := e9
                  refine xg_ifeq 121 104 dX4_atom_101 rfl rfl (by omega) (fun hb101 => ?_) (fun hb101 => ?_)
                  · exfalso; omega
                  · skip
                    refine xg_aloadn 105 dX4_atom_104 rfl rfl rfl ?_
                    refine xg_getP 108 kf_RX4_9 dX4_atom_105 rfl (by assumption) r1 ?_
                    refine xg_sipush 111 dX4_atom_108 rfl (by decide) ?_
                    refine xg_callV 114 7 [_] _ kv_X7_needs ⟨_, _, rfl⟩ kl_RX4_58 dX4_atom_111 rfl (by assumption) (by omega) rfl rfl (Nat.le_of_ble_eq_true rfl) (by omega) ⟨Nat.le_refl _, Nat.le_refl _⟩ (cs_needs hs hk0 ht4 he hsr (i := i7) (q := q7) hi7 hq7 (by omega)) rfl ?_
                    refine xg_deq 121 117 dX4_atom_114 rfl rfl (fun hb114 => ?_) (fun hb114 => ?_)
                    · rw [if_neg hb114]
                      refine xg_iconst 122 dX4_atom_121 rfl ?_
                      subst hX
                      refine xg_zreturn dX4_atom_122 rfl (by first | exact bI_01 _ | omega) ⟨Nat.le_refl _, Nat.le_refl _⟩ ?_
                      rw [gAtom_5 (by omega) hs7 (by omega)]
                      exact ⟨rfl, _, _, _, hi7, rfl⟩
                    · rw [if_pos hb114]
                      have hltB := zK_lt (t := t) (e := e) (q := q7) (by omega)
                      have hxB := zX_b (t := t) hltB
                      have hnB := hk0.nx hi7 (by rw [hq7]; exact hltB)
                      rw [hq7] at hnB
                      refine xg_iconst 118 dX4_atom_117 rfl ?_
                      refine xg_goto 122 dX4_atom_118 rfl ?_
                      subst hX
                      refine xg_zreturn dX4_atom_122 rfl (by first | exact bI_01 _ | omega) ⟨Nat.le_refl _, Nat.le_refl _⟩ ?_
                      rw [gAtom_4 (by omega) hs7 (by omega)]
                      exact ⟨rfl, _, _, _, hnB.1, hnB.2, hu7, hC7, rfl⟩
            · rw [if_pos hb58]
              have hltA := zK_lt (t := t) (e := e) (q := q) (by omega)
              have hxA := zX_b (t := t) hltA
              have hnA := hk0.nx hi (by rw [hq]; exact hltA)
              rw [hq] at hnA
              refine xg_aloadn 62 dX4_atom_61 rfl rfl rfl ?_
              refine xg_iloadn 63 dX4_atom_62 rfl rfl rfl ?_
              refine xg_iconst 64 dX4_atom_63 rfl ?_
              refine xg_iadd 65 dX4_atom_64 rfl ?_
              have hok8 := gAtom_ok (t := t) lv _ hxA.2
              rcases hs8 : gAtom t e lv (zX t e q) with f8 | ⟨cs8, q8⟩
              · rw [hs8] at hok8
                have hok8a := hok8.1
                have hok8b := hok8.2
                rw [show (6 - ((lv + 1 : Nat) : Int)) + 1 = 6 - (lv : Int) by omega]
                refine xg_callVe 68 4 [_] _ kv_X4_atom ⟨_, _, rfl⟩ kl_RX4_73 dX4_atom_65 rfl (by assumption) (by omega) rfl rfl (Nat.le_of_ble_eq_true rfl) (by omega) ⟨Nat.le_refl _, Nat.le_refl _⟩ (lRes.cg hs8 (hA (i + 1) _ (zX t e q) _ hnA.1 hnA.2 (by omega))) rfl (fun v9 h9 e9 => ?_)
                obtain ⟨rfl, i8, u8, g8, hi8, rfl⟩ := e9
                refine xg_ifne 73 71 dX4_atom_68 rfl rfl (by omega) (fun hb68 => ?_) (fun hb68 => ?_)
                · exfalso; omega
                · skip
                  refine xg_iconst 72 dX4_atom_71 rfl ?_
                  subst hX
                  refine xg_zreturn dX4_atom_72 rfl (by first | exact bI_01 _ | omega) ⟨Nat.le_refl _, Nat.le_refl _⟩ ?_
                  rw [gAtom_1 (by omega) hs8]
                  exact ⟨rfl, _, _, _, hi8, rfl⟩
              · rw [hs8] at hok8
                obtain ⟨ho8, hoe8, hol8, hoc8⟩ := hok8
                rw [show (6 - ((lv + 1 : Nat) : Int)) + 1 = 6 - (lv : Int) by omega]
                refine xg_callVe 68 4 [_] _ kv_X4_atom ⟨_, _, rfl⟩ kl_RX4_73 dX4_atom_65 rfl (by assumption) (by omega) rfl rfl (Nat.le_of_ble_eq_true rfl) (by omega) ⟨Nat.le_refl _, Nat.le_refl _⟩ (lRes.cg hs8 (hA (i + 1) _ (zX t e q) _ hnA.1 hnA.2 (by omega))) rfl (fun v9 h9 e9 => ?_)
                obtain ⟨rfl, i8, u8, g8, hi8, hq8, hu8, hC8, rfl⟩ := e9
                refine xg_ifne 73 71 dX4_atom_68 rfl rfl (by omega) (fun hb68 => ?_) (fun hb68 => ?_)
                · skip
                  refine xg_aloadn 74 dX4_atom_73 rfl rfl rfl ?_
                  refine xg_bipush 76 dX4_atom_74 rfl (by decide) ?_
                  refine xg_callV 79 4 [_] _ kv_X4_emit ⟨_, _, rfl⟩ kl_RX4_69 dX4_atom_76 rfl (by assumption) (by omega) rfl rfl (Nat.le_of_ble_eq_true rfl) (by omega) ⟨Nat.le_refl _, Nat.le_refl _⟩ (cs_emit hr hsr (by omega)) rfl ?_
                  refine xg_iconst 80 dX4_atom_79 rfl ?_
                  subst hX
                  refine xg_zreturn dX4_atom_80 rfl (by first | exact bI_01 _ | omega) ⟨Nat.le_refl _, Nat.le_refl _⟩ ?_
                  rw [gAtom_2 (by omega) hs8]
                  exact ⟨rfl, i8, u8 + 1, wS g8 u8 (-3), hi8, hq8, by rw [List.length_append]; show u8 + 1 = u + ((cs8.length + 1 : Nat) : Int); omega, hC8.em2 hu8 rfl, rfl⟩
                · exfalso; omega
          · exfalso; omega

theorem ct_X4_atoms {E : xE} {z : Nat} {T : Nat → Nat × Int} {F : Nat → Nat → Int} {I : Nat → Int → Int} {P : Nat → Nat → Option Nat} {Y : Nat → Int → Option Nat} {s r N : Nat} {t : Int → Int} {e : Int} (hs : wScn T P s) (hk0 : zTok t e F I s N) (ht4 : ∀ j : Int, 0 ≤ j → j < 400 → 0 ≤ t j ∧ t j ≤ 255) (he : 0 ≤ e ∧ e ≤ 400) (hsr : s + 4 ≤ r) (hr : wLrd T P r s) : ∀ lv : Nat, lv ≤ 6 → AtL E z T F I P Y s r N t e lv
  | 0, _ => fun i u q g hi hq hu => ct_X4_atom_0 hs hk0 ht4 he hsr hr ⟨hi, hq, hu⟩
  | lv + 1, hl => fun i u q g hi hq hu => by
    have h := ct_X4_atom_S hs hk0 ht4 he hsr hr (E := E) (z := z) (F := F) (Y := Y) (g := g) ⟨hi, hq, hu⟩ (lv := lv) (by omega) (ct_X4_atoms (E := E) hs hk0 ht4 he hsr hr lv (by omega))
    rw [show 24 + 4 * lv = 20 + 4 * (lv + 1) by omega] at h
    exact h
/-- the class reads a condition -/
theorem ct_X4_cond {E : xE} {z : Nat} {T : Nat → Nat × Int} {F : Nat → Nat → Int} {I : Nat → Int → Int} {P : Nat → Nat → Option Nat} {Y : Nat → Int → Option Nat} {s r N : Nat} {t : Int → Int} {e : Int} (hs : wScn T P s) (hk0 : zTok t e F I s N) (ht4 : ∀ j : Int, 0 ≤ j → j < 400 → 0 ≤ t j ∧ t j ≤ 255) (he : 0 ≤ e ∧ e ≤ 400) (hsr : s + 4 ≤ r) (hr : wLrd T P r s) {i : Nat} {u q : Int} {g : Int → Int} (hi : i ≤ N) (hq : zB t e i = q) (hu : 0 ≤ u ∧ u + 1 ≤ q) : Ct E 46 mX4_anyOf 0 0 [.ref r, J 0] (z, T, fZ F s r (i) (-1) (u), upA I (r + 4) (g), P, Y) (lRes z T F I P Y s r N t e u g (gCond t e q)) :=
  ct_X4_anyOf hs hk0 ht4 he hsr hr hi hq hu (lv := 6) (ct_X4_atoms hs hk0 ht4 he hsr hr 6 (by omega))
