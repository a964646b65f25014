set_option maxHeartbeats 4000000 in
set_option maxRecDepth 100000 in
theorem ct_X12_readAtom_0 {E : xE} {z : Nat} {T : Nat → Nat × Int} {F : Nat → Nat → Int} {I : Nat → Int → Int} {P : Nat → Nat → Option Nat} {Y : Nat → Int → Option Nat} {m : Nat} {w : Int → Int} (hw : wM T P m) (hT : ∀ j : Int, -128 ≤ I (m + 6) j ∧ I (m + 6) j ≤ 127) {t : Int → Int} {e : Int} (ht : rTp t (I (m + 6)) e) (he : 0 ≤ e ∧ e ≤ 400) (h11 : F m 11 = e) {ad adv : Nat → Nat} {sio : Option Nat} (hW : ∀ u : State, E.2.2.2.2 u → oWs E.2.2.2.1 ad adv sio u) {p b c q : Int} (hx : (0 ≤ p ∧ p ≤ e) ∧ zSk t e p = q ∧ w32 w ∧ 0 ≤ c ∧ c + 1 ≤ q) : Ct E 20 mX12_readAtom 0 0 [.ref m] (z, T, fR F m (p) (b) (6 - ((0 : Nat) : Int)) (c), upA I (m + 1) (w), P, Y) (rRes m z T F I P Y t e (6 - ((0 : Nat) : Int)) c w (gAtom t e 0 q)) := by
  obtain ⟨⟨q0, q1, q2, q3⟩, -⟩ := id hw
  obtain ⟨hp, hq, hR, hc⟩ := hx
  have hqb := zSk_b (t := t) hp.2
  rw [hq] at hqb
  have htb : ∀ j : Int, 0 ≤ j → j < e → 0 ≤ t j ∧ t j ≤ 255 := fun j a b => (ht j a b).1
  have hqq := zSk_at hp he.2 hq
  refine Ct.of [some (.ref m), none] kt_X12_readAtom rfl (Nat.le_of_ble_eq_true rfl) rfl (fun d hd => ?_)
  generalize hX : xN E _ _ _ = X
  refine xg_aloadn 1 dX12_readAtom_0 rfl rfl rfl ?_
  refine xg_bipush 3 dX12_readAtom_1 rfl (by decide) ?_
  refine xg_callV 6 12 [_] _ kv_X12_sign ⟨_, _, rfl⟩ kl_RX12_193 dX12_readAtom_3 rfl (by assumption) (by omega) rfl rfl (Nat.le_of_ble_eq_true rfl) (by omega) ⟨Nat.le_refl _, Nat.le_refl _⟩ (cr_sign hw hT ht he h11 hp hq (ch := 40) (by decide)) rfl ?_
  refine xg_deq 56 9 dX12_readAtom_6 rfl rfl (fun hb6 => ?_) (fun hb6 => ?_)
  · rw [if_neg hb6]
    refine xg_aloadn 57 dX12_readAtom_56 rfl rfl rfl ?_
    refine xg_ldcS 59 rfl (fun u hu => oWs_207 (hW u hu)) dX12_readAtom_57 rfl ?_
    refine xg_callV 62 12 [_] _ kv_X12_passes ⟨_, _, rfl⟩ kl_RX12_209 dX12_readAtom_59 rfl (by assumption) (by omega) rfl rfl (Nat.le_of_ble_eq_true rfl) (by omega) ⟨Nat.le_refl _, Nat.le_refl _⟩ (ct_X12_passes hw hT ht he h11 (p := q) (by omega) hqq hW (i := 20) (by omega)) rfl ?_
    refine xg_deq 114 65 dX12_readAtom_62 rfl rfl (fun hb62 => ?_) (fun hb62 => ?_)
    · rw [if_neg hb62]
      refine xg_aloadn 115 dX12_readAtom_114 rfl rfl rfl ?_
      by_cases htg : 7 ≤ zK t e q ∧ zK t e q ≤ 9
      · skip
        refine xg_callVe 118 12 [] _ kv_X12_readTag ⟨_, _, rfl⟩ kl_RX12_215 dX12_readAtom_115 rfl (by assumption) (by omega) rfl rfl (Nat.le_of_ble_eq_true rfl) (by omega) ⟨Nat.le_refl _, Nat.le_refl _⟩ (ct_X12_readTag_t hw hT ht he h11 (p := q) (by omega) hqq hW hR hc htg) rfl (fun v9 h9 e9 => ?_)
        obtain ⟨rfl, p2, b2, c2, w2, hz2, hp2, hc2, hW2, hR2, rfl⟩ := e9
        refine xg_ifeq 123 121 dX12_readAtom_118 rfl rfl (by omega) (fun hb118 => ?_) (fun hb118 => ?_)
        · exfalso; omega
        · skip
          refine xg_iconst 122 dX12_readAtom_121 rfl ?_
          subst hX
          refine xg_zreturn dX12_readAtom_122 rfl (by first | exact bI_01 _ | omega) ⟨Nat.le_refl _, Nat.le_refl _⟩ ?_
          rw [gAtom_leaf hb62 hb6, gLeaf_t htg]
          exact ⟨rfl, _, _, _, _, hz2, hp2, hc2, hW2, hR2, rfl⟩
      · skip
        refine xg_callVe 118 12 [] _ kv_X12_readTag ⟨_, _, rfl⟩ kl_RX12_215 dX12_readAtom_115 rfl (by assumption) (by omega) rfl rfl (Nat.le_of_ble_eq_true rfl) (by omega) ⟨Nat.le_refl _, Nat.le_refl _⟩ (ct_X12_readTag_f hw hT ht he h11 (p := q) (by omega) hqq hW hR hc htg) rfl (fun v9 h9 e9 => ?_)
        obtain ⟨rfl, rfl⟩ := e9
        refine xg_ifeq 123 121 dX12_readAtom_118 rfl rfl (by omega) (fun hb118 => ?_) (fun hb118 => ?_)
        · skip
          refine xg_aloadn 124 dX12_readAtom_123 rfl rfl rfl ?_
          have hok3 := gSum_ok (t := t) hqb.2
          rcases hs3 : gSum t e q with f3 | ⟨cs3, q3⟩
          · rw [hs3] at hok3
            have hok3a := hok3.1
            have hok3b := hok3.2
            refine xg_callVe 127 12 [] _ kv_X12_readSum ⟨_, _, rfl⟩ kl_RX12_218 dX12_readAtom_124 rfl (by assumption) (by omega) rfl rfl (Nat.le_of_ble_eq_true rfl) (by omega) ⟨Nat.le_refl _, Nat.le_refl _⟩ (rRes.cg hs3 (ct_X12_readSum hw hT ht he h11 (p := q) (q := q) (by omega) hqq hW hR hc)) rfl (fun v9 h9 e9 => ?_)
            obtain ⟨rfl, p3, d3, c3, w3, hw3, hR3, rfl⟩ := e9
            refine xg_ifne 132 130 dX12_readAtom_127 rfl rfl (by omega) (fun hb127 => ?_) (fun hb127 => ?_)
            · exfalso; omega
            · skip
              refine xg_iconst 131 dX12_readAtom_130 rfl ?_
              subst hX
              refine xg_zreturn dX12_readAtom_131 rfl (by first | exact bI_01 _ | omega) ⟨Nat.le_refl _, Nat.le_refl _⟩ ?_
              rw [gAtom_leaf hb62 hb6, gLeaf_f htg]
              rw [gComp_1 hs3]
              exact ⟨rfl, _, _, _, _, hw3, hR3, rfl⟩
          · rw [hs3] at hok3
            obtain ⟨ho3, hoe3, hol3, hoc3⟩ := hok3
            refine xg_callVe 127 12 [] _ kv_X12_readSum ⟨_, _, rfl⟩ kl_RX12_218 dX12_readAtom_124 rfl (by assumption) (by omega) rfl rfl (Nat.le_of_ble_eq_true rfl) (by omega) ⟨Nat.le_refl _, Nat.le_refl _⟩ (rRes.cg hs3 (ct_X12_readSum hw hT ht he h11 (p := q) (q := q) (by omega) hqq hW hR hc)) rfl (fun v9 h9 e9 => ?_)
            obtain ⟨rfl, p3, b3, c3, w3, hz3, hp3, hc3, hW3, hR3, rfl⟩ := e9
            refine xg_ifne 132 130 dX12_readAtom_127 rfl rfl (by omega) (fun hb127 => ?_) (fun hb127 => ?_)
            · skip
              have hqq3 := zSk_at hp3 he.2 hz3
              refine xg_aloadn 133 dX12_readAtom_132 rfl rfl rfl ?_
              refine xg_bipush 135 dX12_readAtom_133 rfl (by decide) ?_
              refine xg_callV 138 12 [_] _ kv_X12_sign ⟨_, _, rfl⟩ kl_RX12_193 dX12_readAtom_135 rfl (by assumption) (by omega) rfl rfl (Nat.le_of_ble_eq_true rfl) (by omega) ⟨Nat.le_refl _, Nat.le_refl _⟩ (cr_sign hw hT ht he h11 hp3 hz3 (ch := 60) (by decide)) rfl ?_
              refine xg_istoren 139 _ dX12_readAtom_138 rfl rfl rfl (by decide) (Or.inr rfl) ?_
              refine xg_iloadn 140 dX12_readAtom_139 rfl rfl rfl ?_
              refine xg_dne 152 143 dX12_readAtom_140 rfl rfl (fun hb140 => ?_) (fun hb140 => ?_)
              · rw [if_pos hb140]
                have hs4 := zX_s htb (by omega) (c := 60) (by decide) hb140
                have hxs := hs4.2
                have hxb := zX_b (t := t) hs4.1
                refine xg_aloadn 153 dX12_readAtom_152 rfl rfl rfl ?_
                have hok5 := gSum_ok (t := t) hxb.2
                rcases hs5 : gSum t e (zX t e q3) with f5 | ⟨cs5, q5⟩
                · rw [hs5] at hok5
                  have hok5a := hok5.1
                  have hok5b := hok5.2
                  refine xg_callVe 156 12 [] _ kv_X12_readSum ⟨_, _, rfl⟩ kl_RX12_218 dX12_readAtom_153 rfl (by assumption) (by omega) rfl rfl (Nat.le_of_ble_eq_true rfl) (by omega) ⟨Nat.le_refl _, Nat.le_refl _⟩ (rRes.cg hs5 (ct_X12_readSum hw hT ht he h11 (p := q3 + 1) (q := zX t e q3) (by omega) hxs hW hR3 (by omega))) rfl (fun v9 h9 e9 => ?_)
                  obtain ⟨rfl, p5, d5, c5, w5, hw5, hR5, rfl⟩ := e9
                  refine xg_ifne 161 159 dX12_readAtom_156 rfl rfl (by omega) (fun hb156 => ?_) (fun hb156 => ?_)
                  · exfalso; omega
                  · skip
                    refine xg_iconst 160 dX12_readAtom_159 rfl ?_
                    subst hX
                    refine xg_zreturn dX12_readAtom_160 rfl (by first | exact bI_01 _ | omega) ⟨Nat.le_refl _, Nat.le_refl _⟩ ?_
                    rw [gAtom_leaf hb62 hb6, gLeaf_f htg]
                    rw [gComp_3 hs3 (by omega) hs5]
                    exact ⟨rfl, _, _, _, _, fun j hj => (hw5 j hj).trans (hW3.out hc.1 hj), hR5, rfl⟩
                · rw [hs5] at hok5
                  obtain ⟨ho5, hoe5, hol5, hoc5⟩ := hok5
                  refine xg_callVe 156 12 [] _ kv_X12_readSum ⟨_, _, rfl⟩ kl_RX12_218 dX12_readAtom_153 rfl (by assumption) (by omega) rfl rfl (Nat.le_of_ble_eq_true rfl) (by omega) ⟨Nat.le_refl _, Nat.le_refl _⟩ (rRes.cg hs5 (ct_X12_readSum hw hT ht he h11 (p := q3 + 1) (q := zX t e q3) (by omega) hxs hW hR3 (by omega))) rfl (fun v9 h9 e9 => ?_)
                  obtain ⟨rfl, p5, b5, c5, w5, hz5, hp5, hc5, hW5, hR5, rfl⟩ := e9
                  refine xg_ifne 161 159 dX12_readAtom_156 rfl rfl (by omega) (fun hb156 => ?_) (fun hb156 => ?_)
                  · skip
                    refine xg_aloadn 162 dX12_readAtom_161 rfl rfl rfl ?_
                    refine xg_iloadn 163 dX12_readAtom_162 rfl rfl rfl ?_
                    refine xg_deq 171 166 dX12_readAtom_163 rfl rfl (fun hb163 => ?_) (fun hb163 => ?_)
                    · skip
                      refine xg_bipush 173 dX12_readAtom_171 rfl (by decide) ?_
                      refine xg_iconst 174 dX12_readAtom_173 rfl ?_
                      refine xg_callV 177 12 [_, _] _ kv_X12_emits ⟨_, _, rfl⟩ kl_RX12_186 dX12_readAtom_174 rfl (by assumption) (by omega) rfl rfl (Nat.le_of_ble_eq_true rfl) (by omega) ⟨Nat.le_refl _, Nat.le_refl _⟩ (cr_emits hw hT ht he h11 (by omega)) rfl ?_
                      refine xg_iconst 178 dX12_readAtom_177 rfl ?_
                      subst hX
                      refine xg_zreturn dX12_readAtom_178 rfl (by first | exact bI_01 _ | omega) ⟨Nat.le_refl _, Nat.le_refl _⟩ ?_
                      exfalso; omega
                    · skip
                      refine xg_bipush 168 dX12_readAtom_166 rfl (by decide) ?_
                      refine xg_goto 173 dX12_readAtom_168 rfl ?_
                      refine xg_iconst 174 dX12_readAtom_173 rfl ?_
                      refine xg_callV 177 12 [_, _] _ kv_X12_emits ⟨_, _, rfl⟩ kl_RX12_186 dX12_readAtom_174 rfl (by assumption) (by omega) rfl rfl (Nat.le_of_ble_eq_true rfl) (by omega) ⟨Nat.le_refl _, Nat.le_refl _⟩ (cr_emits hw hT ht he h11 (by omega)) rfl ?_
                      refine xg_iconst 178 dX12_readAtom_177 rfl ?_
                      subst hX
                      refine xg_zreturn dX12_readAtom_178 rfl (by first | exact bI_01 _ | omega) ⟨Nat.le_refl _, Nat.le_refl _⟩ ?_
                      rw [gAtom_leaf hb62 hb6, gLeaf_f htg]
                      rw [gComp_4 hs3 (o := 12) (by omega) hs5]
                      exact ⟨rfl, p5, b5, c5 + 1, wEm w5 c5 12 0, hz5, hp5, by rw [List.length_append, List.length_append]; show c5 + 1 = c + ((cs3.length + cs5.length + 1 : Nat) : Int); omega, (hW3.app hW5 hc3).em2 (by rw [List.length_append]; omega) (by omega), w32_em hR5 (by omega) (by omega), rfl⟩
                  · exfalso; omega
              · rw [if_neg hb140]
                refine xg_aloadn 144 dX12_readAtom_143 rfl rfl rfl ?_
                refine xg_bipush 146 dX12_readAtom_144 rfl (by decide) ?_
                refine xg_callV 149 12 [_] _ kv_X12_sign ⟨_, _, rfl⟩ kl_RX12_193 dX12_readAtom_146 rfl (by assumption) (by omega) rfl rfl (Nat.le_of_ble_eq_true rfl) (by omega) ⟨Nat.le_refl _, Nat.le_refl _⟩ (cr_sign hw hT ht he h11 (p := q3) (q := q3) (by omega) hqq3 (ch := 62) (by decide)) rfl ?_
                refine xg_deq 159 152 dX12_readAtom_149 rfl rfl (fun hb149 => ?_) (fun hb149 => ?_)
                · rw [if_neg hb149]
                  refine xg_iconst 160 dX12_readAtom_159 rfl ?_
                  subst hX
                  refine xg_zreturn dX12_readAtom_160 rfl (by first | exact bI_01 _ | omega) ⟨Nat.le_refl _, Nat.le_refl _⟩ ?_
                  rw [gAtom_leaf hb62 hb6, gLeaf_f htg]
                  rw [gComp_2 hs3 (by omega)]
                  exact ⟨rfl, _, _, _, _, fun j hj => hW3.out hc.1 hj, hR3, rfl⟩
                · rw [if_pos hb149]
                  have hs4 := zX_s htb (by omega) (c := 62) (by decide) hb149
                  have hxs := hs4.2
                  have hxb := zX_b (t := t) hs4.1
                  refine xg_aloadn 153 dX12_readAtom_152 rfl rfl rfl ?_
                  have hok5 := gSum_ok (t := t) hxb.2
                  rcases hs5 : gSum t e (zX t e q3) with f5 | ⟨cs5, q5⟩
                  · rw [hs5] at hok5
                    have hok5a := hok5.1
                    have hok5b := hok5.2
                    refine xg_callVe 156 12 [] _ kv_X12_readSum ⟨_, _, rfl⟩ kl_RX12_218 dX12_readAtom_153 rfl (by assumption) (by omega) rfl rfl (Nat.le_of_ble_eq_true rfl) (by omega) ⟨Nat.le_refl _, Nat.le_refl _⟩ (rRes.cg hs5 (ct_X12_readSum hw hT ht he h11 (p := q3 + 1) (q := zX t e q3) (by omega) hxs hW hR3 (by omega))) rfl (fun v9 h9 e9 => ?_)
                    obtain ⟨rfl, p5, d5, c5, w5, hw5, hR5, rfl⟩ := e9
                    refine xg_ifne 161 159 dX12_readAtom_156 rfl rfl (by omega) (fun hb156 => ?_) (fun hb156 => ?_)
                    · exfalso; omega
                    · skip
                      refine xg_iconst 160 dX12_readAtom_159 rfl ?_
                      subst hX
                      refine xg_zreturn dX12_readAtom_160 rfl (by first | exact bI_01 _ | omega) ⟨Nat.le_refl _, Nat.le_refl _⟩ ?_
                      rw [gAtom_leaf hb62 hb6, gLeaf_f htg]
                      rw [gComp_3 hs3 (by omega) hs5]
                      exact ⟨rfl, _, _, _, _, fun j hj => (hw5 j hj).trans (hW3.out hc.1 hj), hR5, rfl⟩
                  · rw [hs5] at hok5
                    obtain ⟨ho5, hoe5, hol5, hoc5⟩ := hok5
                    refine xg_callVe 156 12 [] _ kv_X12_readSum ⟨_, _, rfl⟩ kl_RX12_218 dX12_readAtom_153 rfl (by assumption) (by omega) rfl rfl (Nat.le_of_ble_eq_true rfl) (by omega) ⟨Nat.le_refl _, Nat.le_refl _⟩ (rRes.cg hs5 (ct_X12_readSum hw hT ht he h11 (p := q3 + 1) (q := zX t e q3) (by omega) hxs hW hR3 (by omega))) rfl (fun v9 h9 e9 => ?_)
                    obtain ⟨rfl, p5, b5, c5, w5, hz5, hp5, hc5, hW5, hR5, rfl⟩ := e9
                    refine xg_ifne 161 159 dX12_readAtom_156 rfl rfl (by omega) (fun hb156 => ?_) (fun hb156 => ?_)
                    · skip
                      refine xg_aloadn 162 dX12_readAtom_161 rfl rfl rfl ?_
                      refine xg_iloadn 163 dX12_readAtom_162 rfl rfl rfl ?_
                      refine xg_deq 171 166 dX12_readAtom_163 rfl rfl (fun hb163 => ?_) (fun hb163 => ?_)
                      · skip
                        refine xg_bipush 173 dX12_readAtom_171 rfl (by decide) ?_
                        refine xg_iconst 174 dX12_readAtom_173 rfl ?_
                        refine xg_callV 177 12 [_, _] _ kv_X12_emits ⟨_, _, rfl⟩ kl_RX12_186 dX12_readAtom_174 rfl (by assumption) (by omega) rfl rfl (Nat.le_of_ble_eq_true rfl) (by omega) ⟨Nat.le_refl _, Nat.le_refl _⟩ (cr_emits hw hT ht he h11 (by omega)) rfl ?_
                        refine xg_iconst 178 dX12_readAtom_177 rfl ?_
                        subst hX
                        refine xg_zreturn dX12_readAtom_178 rfl (by first | exact bI_01 _ | omega) ⟨Nat.le_refl _, Nat.le_refl _⟩ ?_
                        rw [gAtom_leaf hb62 hb6, gLeaf_f htg]
                        rw [gComp_4 hs3 (o := 13) (by omega) hs5]
                        exact ⟨rfl, p5, b5, c5 + 1, wEm w5 c5 13 0, hz5, hp5, by rw [List.length_append, List.length_append]; show c5 + 1 = c + ((cs3.length + cs5.length + 1 : Nat) : Int); omega, (hW3.app hW5 hc3).em2 (by rw [List.length_append]; omega) (by omega), w32_em hR5 (by omega) (by omega), rfl⟩
                      · skip
                        refine xg_bipush 168 dX12_readAtom_166 rfl (by decide) ?_
                        refine xg_goto 173 dX12_readAtom_168 rfl ?_
                        refine xg_iconst 174 dX12_readAtom_173 rfl ?_
                        refine xg_callV 177 12 [_, _] _ kv_X12_emits ⟨_, _, rfl⟩ kl_RX12_186 dX12_readAtom_174 rfl (by assumption) (by omega) rfl rfl (Nat.le_of_ble_eq_true rfl) (by omega) ⟨Nat.le_refl _, Nat.le_refl _⟩ (cr_emits hw hT ht he h11 (by omega)) rfl ?_
                        refine xg_iconst 178 dX12_readAtom_177 rfl ?_
                        subst hX
                        refine xg_zreturn dX12_readAtom_178 rfl (by first | exact bI_01 _ | omega) ⟨Nat.le_refl _, Nat.le_refl _⟩ ?_
                        exfalso; omega
                    · exfalso; omega
            · exfalso; omega
        · exfalso; omega
    · rw [if_pos hb62]
      have hs1 := zK_word (i := 20) (by omega) (by omega) htb hb62
      have hxq := zX_b (t := t) hs1.1
      have hlq := zLen_b (t := t) hs1.1
      refine xg_aloadn 66 dX12_readAtom_65 rfl rfl rfl ?_
      refine xg_getI 69 kf_RX12_201 dX12_readAtom_66 rfl (by assumption) ?_
      rw [fR_13]
      refine xg_bipush 71 dX12_readAtom_69 rfl (by decide) ?_
      refine xg_icne 76 74 dX12_readAtom_71 rfl rfl (by omega) (fun hb71 => ?_) (fun hb71 => ?_)
      · exfalso; omega
      · skip
        refine xg_iconst 75 dX12_readAtom_74 rfl ?_
        subst hX
        refine xg_zreturn dX12_readAtom_75 rfl (by first | exact bI_01 _ | omega) ⟨Nat.le_refl _, Nat.le_refl _⟩ ?_
        rw [gAtom_n0 (by omega)]
        exact ⟨rfl, _, _, _, _, fun _ _ => rfl, hR, rfl⟩
  · rw [if_pos hb6]
    have hs1 := zX_s htb (by omega) (c := 40) (by decide) hb6
    have hxq := zX_b (t := t) hs1.1
    refine xg_aloadn 10 dX12_readAtom_9 rfl rfl rfl ?_
    refine xg_getI 13 kf_RX12_201 dX12_readAtom_10 rfl (by assumption) ?_
    rw [fR_13]
    refine xg_bipush 15 dX12_readAtom_13 rfl (by decide) ?_
    refine xg_icne 20 18 dX12_readAtom_15 rfl rfl (by omega) (fun hb15 => ?_) (fun hb15 => ?_)
    · exfalso; omega
    · skip
      refine xg_iconst 19 dX12_readAtom_18 rfl ?_
      subst hX
      refine xg_zreturn dX12_readAtom_19 rfl (by first | exact bI_01 _ | omega) ⟨Nat.le_refl _, Nat.le_refl _⟩ ?_
      rw [gAtom_n0 (by omega)]
      exact ⟨rfl, _, _, _, _, fun _ _ => rfl, hR, rfl⟩

set_option maxHeartbeats 4000000 in
set_option maxRecDepth 100000 in
theorem ct_X12_readAtom_S {E : xE} {z : Nat} {T : Nat → Nat × Int} {F : Nat → Nat → Int} {I : Nat → Int → Int} {P : Nat → Nat → Option Nat} {Y : Nat → Int → Option Nat} {m : Nat} {w : Int → Int} (hw : wM T P m) (hT : ∀ j : Int, -128 ≤ I (m + 6) j ∧ I (m + 6) j ≤ 127) {t : Int → Int} {e : Int} (ht : rTp t (I (m + 6)) e) (he : 0 ≤ e ∧ e ≤ 400) (h11 : F m 11 = e) {ad adv : Nat → Nat} {sio : Option Nat} (hW : ∀ u : State, E.2.2.2.2 u → oWs E.2.2.2.1 ad adv sio u) {p b c q : Int} (hx : (0 ≤ p ∧ p ≤ e) ∧ zSk t e p = q ∧ w32 w ∧ 0 ≤ c ∧ c + 1 ≤ q) {r : Nat} (hr : r < 6) (hA : AtC E m z T F I P Y t e r) : Ct E (24 + 4 * r) mX12_readAtom 0 0 [.ref m] (z, T, fR F m (p) (b) (6 - ((r + 1 : Nat) : Int)) (c), upA I (m + 1) (w), P, Y) (rRes m z T F I P Y t e (6 - ((r + 1 : Nat) : Int)) c w (gAtom t e (r + 1) q)) := by
  obtain ⟨⟨q0, q1, q2, q3⟩, -⟩ := id hw
  obtain ⟨hp, hq, hR, hc⟩ := hx
  have hqb := zSk_b (t := t) hp.2
  rw [hq] at hqb
  have htb : ∀ j : Int, 0 ≤ j → j < e → 0 ≤ t j ∧ t j ≤ 255 := fun j a b => (ht j a b).1
  have hqq := zSk_at hp he.2 hq
  refine Ct.of [some (.ref m), none] kt_X12_readAtom rfl (Nat.le_of_ble_eq_true rfl) rfl (fun d hd => ?_)
  generalize hX : xN E _ _ _ = X
  refine xg_aloadn 1 dX12_readAtom_0 rfl rfl rfl ?_
  refine xg_bipush 3 dX12_readAtom_1 rfl (by decide) ?_
  refine xg_callV 6 12 [_] _ kv_X12_sign ⟨_, _, rfl⟩ kl_RX12_193 dX12_readAtom_3 rfl (by assumption) (by omega) rfl rfl (Nat.le_of_ble_eq_true rfl) (by omega) ⟨Nat.le_refl _, Nat.le_refl _⟩ (cr_sign hw hT ht he h11 hp hq (ch := 40) (by decide)) rfl ?_
  refine xg_deq 56 9 dX12_readAtom_6 rfl rfl (fun hb6 => ?_) (fun hb6 => ?_)
  · rw [if_neg hb6]
    refine xg_aloadn 57 dX12_readAtom_56 rfl rfl rfl ?_
    refine xg_ldcS 59 rfl (fun u hu => oWs_207 (hW u hu)) dX12_readAtom_57 rfl ?_
    refine xg_callV 62 12 [_] _ kv_X12_passes ⟨_, _, rfl⟩ kl_RX12_209 dX12_readAtom_59 rfl (by assumption) (by omega) rfl rfl (Nat.le_of_ble_eq_true rfl) (by omega) ⟨Nat.le_refl _, Nat.le_refl _⟩ (ct_X12_passes hw hT ht he h11 (p := q) (by omega) hqq hW (i := 20) (by omega)) rfl ?_
    refine xg_deq 114 65 dX12_readAtom_62 rfl rfl (fun hb62 => ?_) (fun hb62 => ?_)
    · rw [if_neg hb62]
      refine xg_aloadn 115 dX12_readAtom_114 rfl rfl rfl ?_
      by_cases htg : 7 ≤ zK t e q ∧ zK t e q ≤ 9
      · skip
        refine xg_callVe 118 12 [] _ kv_X12_readTag ⟨_, _, rfl⟩ kl_RX12_215 dX12_readAtom_115 rfl (by assumption) (by omega) rfl rfl (Nat.le_of_ble_eq_true rfl) (by omega) ⟨Nat.le_refl _, Nat.le_refl _⟩ (ct_X12_readTag_t hw hT ht he h11 (p := q) (by omega) hqq hW hR hc htg) rfl (fun v9 h9 e9 => ?_)
        obtain ⟨rfl, p2, b2, c2, w2, hz2, hp2, hc2, hW2, hR2, rfl⟩ := e9
        refine xg_ifeq 123 121 dX12_readAtom_118 rfl rfl (by omega) (fun hb118 => ?_) (fun hb118 => ?_)
        · exfalso; omega
        · skip
          refine xg_iconst 122 dX12_readAtom_121 rfl ?_
          subst hX
          refine xg_zreturn dX12_readAtom_122 rfl (by first | exact bI_01 _ | omega) ⟨Nat.le_refl _, Nat.le_refl _⟩ ?_
          rw [gAtom_leaf hb62 hb6, gLeaf_t htg]
          exact ⟨rfl, _, _, _, _, hz2, hp2, hc2, hW2, hR2, rfl⟩
      · skip
        refine xg_callVe 118 12 [] _ kv_X12_readTag ⟨_, _, rfl⟩ kl_RX12_215 dX12_readAtom_115 rfl (by assumption) (by omega) rfl rfl (Nat.le_of_ble_eq_true rfl) (by omega) ⟨Nat.le_refl _, Nat.le_refl _⟩ (ct_X12_readTag_f hw hT ht he h11 (p := q) (by omega) hqq hW hR hc htg) rfl (fun v9 h9 e9 => ?_)
        obtain ⟨rfl, rfl⟩ := e9
        refine xg_ifeq 123 121 dX12_readAtom_118 rfl rfl (by omega) (fun hb118 => ?_) (fun hb118 => ?_)
        · skip
          refine xg_aloadn 124 dX12_readAtom_123 rfl rfl rfl ?_
          have hok3 := gSum_ok (t := t) hqb.2
          rcases hs3 : gSum t e q with f3 | ⟨cs3, q3⟩
          · rw [hs3] at hok3
            have hok3a := hok3.1
            have hok3b := hok3.2
            refine xg_callVe 127 12 [] _ kv_X12_readSum ⟨_, _, rfl⟩ kl_RX12_218 dX12_readAtom_124 rfl (by assumption) (by omega) rfl rfl (Nat.le_of_ble_eq_true rfl) (by omega) ⟨Nat.le_refl _, Nat.le_refl _⟩ (rRes.cg hs3 (ct_X12_readSum hw hT ht he h11 (p := q) (q := q) (by omega) hqq hW hR hc)) rfl (fun v9 h9 e9 => ?_)
            obtain ⟨rfl, p3, d3, c3, w3, hw3, hR3, rfl⟩ := e9
            refine xg_ifne 132 130 dX12_readAtom_127 rfl rfl (by omega) (fun hb127 => ?_) (fun hb127 => ?_)
            · exfalso; omega
            · skip
              refine xg_iconst 131 dX12_readAtom_130 rfl ?_
              subst hX
              refine xg_zreturn dX12_readAtom_131 rfl (by first | exact bI_01 _ | omega) ⟨Nat.le_refl _, Nat.le_refl _⟩ ?_
              rw [gAtom_leaf hb62 hb6, gLeaf_f htg]
              rw [gComp_1 hs3]
              exact ⟨rfl, _, _, _, _, hw3, hR3, rfl⟩
          · rw [hs3] at hok3
            obtain ⟨ho3, hoe3, hol3, hoc3⟩ := hok3
            refine xg_callVe 127 12 [] _ kv_X12_readSum ⟨_, _, rfl⟩ kl_RX12_218 dX12_readAtom_124 rfl (by assumption) (by omega) rfl rfl (Nat.le_of_ble_eq_true rfl) (by omega) ⟨Nat.le_refl _, Nat.le_refl _⟩ (rRes.cg hs3 (ct_X12_readSum hw hT ht he h11 (p := q) (q := q) (by omega) hqq hW hR hc)) rfl (fun v9 h9 e9 => ?_)
            obtain ⟨rfl, p3, b3, c3, w3, hz3, hp3, hc3, hW3, hR3, rfl⟩ := e9
            refine xg_ifne 132 130 dX12_readAtom_127 rfl rfl (by omega) (fun hb127 => ?_) (fun hb127 => ?_)
            · skip
              have hqq3 := zSk_at hp3 he.2 hz3
              refine xg_aloadn 133 dX12_readAtom_132 rfl rfl rfl ?_
              refine xg_bipush 135 dX12_readAtom_133 rfl (by decide) ?_
              refine xg_callV 138 12 [_] _ kv_X12_sign ⟨_, _, rfl⟩ kl_RX12_193 dX12_readAtom_135 rfl (by assumption) (by omega) rfl rfl (Nat.le_of_ble_eq_true rfl) (by omega) ⟨Nat.le_refl _, Nat.le_refl _⟩ (cr_sign hw hT ht he h11 hp3 hz3 (ch := 60) (by decide)) rfl ?_
              refine xg_istoren 139 _ dX12_readAtom_138 rfl rfl rfl (by decide) (Or.inr rfl) ?_
              refine xg_iloadn 140 dX12_readAtom_139 rfl rfl rfl ?_
              refine xg_dne 152 143 dX12_readAtom_140 rfl rfl (fun hb140 => ?_) (fun hb140 => ?_)
              · rw [if_pos hb140]
                have hs4 := zX_s htb (by omega) (c := 60) (by decide) hb140
                have hxs := hs4.2
                have hxb := zX_b (t := t) hs4.1
                refine xg_aloadn 153 dX12_readAtom_152 rfl rfl rfl ?_
                have hok5 := gSum_ok (t := t) hxb.2
                rcases hs5 : gSum t e (zX t e q3) with f5 | ⟨cs5, q5⟩
                · rw [hs5] at hok5
                  have hok5a := hok5.1
                  have hok5b := hok5.2
                  refine xg_callVe 156 12 [] _ kv_X12_readSum ⟨_, _, rfl⟩ kl_RX12_218 dX12_readAtom_153 rfl (by assumption) (by omega) rfl rfl (Nat.le_of_ble_eq_true rfl) (by omega) ⟨Nat.le_refl _, Nat.le_refl _⟩ (rRes.cg hs5 (ct_X12_readSum hw hT ht he h11 (p := q3 + 1) (q := zX t e q3) (by omega) hxs hW hR3 (by omega))) rfl (fun v9 h9 e9 => ?_)
                  obtain ⟨rfl, p5, d5, c5, w5, hw5, hR5, rfl⟩ := e9
                  refine xg_ifne 161 159 dX12_readAtom_156 rfl rfl (by omega) (fun hb156 => ?_) (fun hb156 => ?_)
                  · exfalso; omega
                  · skip
                    refine xg_iconst 160 dX12_readAtom_159 rfl ?_
                    subst hX
                    refine xg_zreturn dX12_readAtom_160 rfl (by first | exact bI_01 _ | omega) ⟨Nat.le_refl _, Nat.le_refl _⟩ ?_
                    rw [gAtom_leaf hb62 hb6, gLeaf_f htg]
                    rw [gComp_3 hs3 (by omega) hs5]
                    exact ⟨rfl, _, _, _, _, fun j hj => (hw5 j hj).trans (hW3.out hc.1 hj), hR5, rfl⟩
                · rw [hs5] at hok5
                  obtain ⟨ho5, hoe5, hol5, hoc5⟩ := hok5
                  refine xg_callVe 156 12 [] _ kv_X12_readSum ⟨_, _, rfl⟩ kl_RX12_218 dX12_readAtom_153 rfl (by assumption) (by omega) rfl rfl (Nat.le_of_ble_eq_true rfl) (by omega) ⟨Nat.le_refl _, Nat.le_refl _⟩ (rRes.cg hs5 (ct_X12_readSum hw hT ht he h11 (p := q3 + 1) (q := zX t e q3) (by omega) hxs hW hR3 (by omega))) rfl (fun v9 h9 e9 => ?_)
                  obtain ⟨rfl, p5, b5, c5, w5, hz5, hp5, hc5, hW5, hR5, rfl⟩ := e9
                  refine xg_ifne 161 159 dX12_readAtom_156 rfl rfl (by omega) (fun hb156 => ?_) (fun hb156 => ?_)
                  · skip
                    refine xg_aloadn 162 dX12_readAtom_161 rfl rfl rfl ?_
                    refine xg_iloadn 163 dX12_readAtom_162 rfl rfl rfl ?_
                    refine xg_deq 171 166 dX12_readAtom_163 rfl rfl (fun hb163 => ?_) (fun hb163 => ?_)
                    · skip
                      refine xg_bipush 173 dX12_readAtom_171 rfl (by decide) ?_
                      refine xg_iconst 174 dX12_readAtom_173 rfl ?_
                      refine xg_callV 177 12 [_, _] _ kv_X12_emits ⟨_, _, rfl⟩ kl_RX12_186 dX12_readAtom_174 rfl (by assumption) (by omega) rfl rfl (Nat.le_of_ble_eq_true rfl) (by omega) ⟨Nat.le_refl _, Nat.le_refl _⟩ (cr_emits hw hT ht he h11 (by omega)) rfl ?_
                      refine xg_iconst 178 dX12_readAtom_177 rfl ?_
                      subst hX
                      refine xg_zreturn dX12_readAtom_178 rfl (by first | exact bI_01 _ | omega) ⟨Nat.le_refl _, Nat.le_refl _⟩ ?_
                      exfalso; omega
                    · skip
                      refine xg_bipush 168 dX12_readAtom_166 rfl (by decide) ?_
                      refine xg_goto 173 dX12_readAtom_168 rfl ?_
                      refine xg_iconst 174 dX12_readAtom_173 rfl ?_
                      refine xg_callV 177 12 [_, _] _ kv_X12_emits ⟨_, _, rfl⟩ kl_RX12_186 dX12_readAtom_174 rfl (by assumption) (by omega) rfl rfl (Nat.le_of_ble_eq_true rfl) (by omega) ⟨Nat.le_refl _, Nat.le_refl _⟩ (cr_emits hw hT ht he h11 (by omega)) rfl ?_
                      refine xg_iconst 178 dX12_readAtom_177 rfl ?_
                      subst hX
                      refine xg_zreturn dX12_readAtom_178 rfl (by first | exact bI_01 _ | omega) ⟨Nat.le_refl _, Nat.le_refl _⟩ ?_
                      rw [gAtom_leaf hb62 hb6, gLeaf_f htg]
                      rw [gComp_4 hs3 (o := 12) (by omega) hs5]
                      exact ⟨rfl, p5, b5, c5 + 1, wEm w5 c5 12 0, hz5, hp5, by rw [List.length_append, List.length_append]; show c5 + 1 = c + ((cs3.length + cs5.length + 1 : Nat) : Int); omega, (hW3.app hW5 hc3).em2 (by rw [List.length_append]; omega) (by omega), w32_em hR5 (by omega) (by omega), rfl⟩
                  · exfalso; omega
              · rw [if_neg hb140]
                refine xg_aloadn 144 dX12_readAtom_143 rfl rfl rfl ?_
                refine xg_bipush 146 dX12_readAtom_144 rfl (by decide) ?_
                refine xg_callV 149 12 [_] _ kv_X12_sign ⟨_, _, rfl⟩ kl_RX12_193 dX12_readAtom_146 rfl (by assumption) (by omega) rfl rfl (Nat.le_of_ble_eq_true rfl) (by omega) ⟨Nat.le_refl _, Nat.le_refl _⟩ (cr_sign hw hT ht he h11 (p := q3) (q := q3) (by omega) hqq3 (ch := 62) (by decide)) rfl ?_
                refine xg_deq 159 152 dX12_readAtom_149 rfl rfl (fun hb149 => ?_) (fun hb149 => ?_)
                · rw [if_neg hb149]
                  refine xg_iconst 160 dX12_readAtom_159 rfl ?_
                  subst hX
                  refine xg_zreturn dX12_readAtom_160 rfl (by first | exact bI_01 _ | omega) ⟨Nat.le_refl _, Nat.le_refl _⟩ ?_
                  rw [gAtom_leaf hb62 hb6, gLeaf_f htg]
                  rw [gComp_2 hs3 (by omega)]
                  exact ⟨rfl, _, _, _, _, fun j hj => hW3.out hc.1 hj, hR3, rfl⟩
                · rw [if_pos hb149]
                  have hs4 := zX_s htb (by omega) (c := 62) (by decide) hb149
                  have hxs := hs4.2
                  have hxb := zX_b (t := t) hs4.1
                  refine xg_aloadn 153 dX12_readAtom_152 rfl rfl rfl ?_
                  have hok5 := gSum_ok (t := t) hxb.2
                  rcases hs5 : gSum t e (zX t e q3) with f5 | ⟨cs5, q5⟩
                  · rw [hs5] at hok5
                    have hok5a := hok5.1
                    have hok5b := hok5.2
                    refine xg_callVe 156 12 [] _ kv_X12_readSum ⟨_, _, rfl⟩ kl_RX12_218 dX12_readAtom_153 rfl (by assumption) (by omega) rfl rfl (Nat.le_of_ble_eq_true rfl) (by omega) ⟨Nat.le_refl _, Nat.le_refl _⟩ (rRes.cg hs5 (ct_X12_readSum hw hT ht he h11 (p := q3 + 1) (q := zX t e q3) (by omega) hxs hW hR3 (by omega))) rfl (fun v9 h9 e9 => ?_)
                    obtain ⟨rfl, p5, d5, c5, w5, hw5, hR5, rfl⟩ := e9
                    refine xg_ifne 161 159 dX12_readAtom_156 rfl rfl (by omega) (fun hb156 => ?_) (fun hb156 => ?_)
                    · exfalso; omega
                    · skip
                      refine xg_iconst 160 dX12_readAtom_159 rfl ?_
                      subst hX
                      refine xg_zreturn dX12_readAtom_160 rfl (by first | exact bI_01 _ | omega) ⟨Nat.le_refl _, Nat.le_refl _⟩ ?_
                      rw [gAtom_leaf hb62 hb6, gLeaf_f htg]
                      rw [gComp_3 hs3 (by omega) hs5]
                      exact ⟨rfl, _, _, _, _, fun j hj => (hw5 j hj).trans (hW3.out hc.1 hj), hR5, rfl⟩
                  · rw [hs5] at hok5
                    obtain ⟨ho5, hoe5, hol5, hoc5⟩ := hok5
                    refine xg_callVe 156 12 [] _ kv_X12_readSum ⟨_, _, rfl⟩ kl_RX12_218 dX12_readAtom_153 rfl (by assumption) (by omega) rfl rfl (Nat.le_of_ble_eq_true rfl) (by omega) ⟨Nat.le_refl _, Nat.le_refl _⟩ (rRes.cg hs5 (ct_X12_readSum hw hT ht he h11 (p := q3 + 1) (q := zX t e q3) (by omega) hxs hW hR3 (by omega))) rfl (fun v9 h9 e9 => ?_)
                    obtain ⟨rfl, p5, b5, c5, w5, hz5, hp5, hc5, hW5, hR5, rfl⟩ := e9
                    refine xg_ifne 161 159 dX12_readAtom_156 rfl rfl (by omega) (fun hb156 => ?_) (fun hb156 => ?_)
                    · skip
                      refine xg_aloadn 162 dX12_readAtom_161 rfl rfl rfl ?_
                      refine xg_iloadn 163 dX12_readAtom_162 rfl rfl rfl ?_
                      refine xg_deq 171 166 dX12_readAtom_163 rfl rfl (fun hb163 => ?_) (fun hb163 => ?_)
                      · skip
                        refine xg_bipush 173 dX12_readAtom_171 rfl (by decide) ?_
                        refine xg_iconst 174 dX12_readAtom_173 rfl ?_
                        refine xg_callV 177 12 [_, _] _ kv_X12_emits ⟨_, _, rfl⟩ kl_RX12_186 dX12_readAtom_174 rfl (by assumption) (by omega) rfl rfl (Nat.le_of_ble_eq_true rfl) (by omega) ⟨Nat.le_refl _, Nat.le_refl _⟩ (cr_emits hw hT ht he h11 (by omega)) rfl ?_
                        refine xg_iconst 178 dX12_readAtom_177 rfl ?_
                        subst hX
                        refine xg_zreturn dX12_readAtom_178 rfl (by first | exact bI_01 _ | omega) ⟨Nat.le_refl _, Nat.le_refl _⟩ ?_
                        rw [gAtom_leaf hb62 hb6, gLeaf_f htg]
                        rw [gComp_4 hs3 (o := 13) (by omega) hs5]
                        exact ⟨rfl, p5, b5, c5 + 1, wEm w5 c5 13 0, hz5, hp5, by rw [List.length_append, List.length_append]; show c5 + 1 = c + ((cs3.length + cs5.length + 1 : Nat) : Int); omega, (hW3.app hW5 hc3).em2 (by rw [List.length_append]; omega) (by omega), w32_em hR5 (by omega) (by omega), rfl⟩
                      · skip
                        refine xg_bipush 168 dX12_readAtom_166 rfl (by decide) ?_
                        refine xg_goto 173 dX12_readAtom_168 rfl ?_
                        refine xg_iconst 174 dX12_readAtom_173 rfl ?_
                        refine xg_callV 177 12 [_, _] _ kv_X12_emits ⟨_, _, rfl⟩ kl_RX12_186 dX12_readAtom_174 rfl (by assumption) (by omega) rfl rfl (Nat.le_of_ble_eq_true rfl) (by omega) ⟨Nat.le_refl _, Nat.le_refl _⟩ (cr_emits hw hT ht he h11 (by omega)) rfl ?_
                        refine xg_iconst 178 dX12_readAtom_177 rfl ?_
                        subst hX
                        refine xg_zreturn dX12_readAtom_178 rfl (by first | exact bI_01 _ | omega) ⟨Nat.le_refl _, Nat.le_refl _⟩ ?_
                        exfalso; omega
                    · exfalso; omega
            · exfalso; omega
        · exfalso; omega
    · rw [if_pos hb62]
      have hs1 := zK_word (i := 20) (by omega) (by omega) htb hb62
      have hxq := zX_b (t := t) hs1.1
      have hlq := zLen_b (t := t) hs1.1
      refine xg_aloadn 66 dX12_readAtom_65 rfl rfl rfl ?_
      refine xg_getI 69 kf_RX12_201 dX12_readAtom_66 rfl (by assumption) ?_
      rw [fR_13]
      refine xg_bipush 71 dX12_readAtom_69 rfl (by decide) ?_
      refine xg_icne 76 74 dX12_readAtom_71 rfl rfl (by omega) (fun hb71 => ?_) (fun hb71 => ?_)
      · skip
        refine xg_aloadn 77 dX12_readAtom_76 rfl rfl rfl ?_
        refine xg_dup 78 dX12_readAtom_77 rfl rfl ?_
        refine xg_getI 81 kf_RX12_201 dX12_readAtom_78 rfl (by assumption) ?_
        rw [fR_13]
        refine xg_iconst 82 dX12_readAtom_81 rfl ?_
        refine xg_iadd 83 dX12_readAtom_82 rfl ?_
        refine xg_putI 86 kf_RX12_201 dX12_readAtom_83 rfl (by assumption) ?_
        rw [fR_s13, show (6 - ((r + 1 : Nat) : Int)) + 1 = 6 - (r : Int) by omega]
        refine xg_aloadn 87 dX12_readAtom_86 rfl rfl rfl ?_
        have hok8 := gAtom_ok (t := t) r _ hxq.2
        rcases hs8 : gAtom t e r (zX t e q) with f8 | ⟨cs8, q8⟩
        · rw [hs8] at hok8
          have hok8a := hok8.1
          have hok8b := hok8.2
          refine xg_callVe 90 12 [] _ kv_X12_readAtom ⟨_, _, rfl⟩ kl_RX12_212 dX12_readAtom_87 rfl (by assumption) (by omega) rfl rfl (Nat.le_of_ble_eq_true rfl) (by omega) ⟨Nat.le_refl _, Nat.le_refl _⟩ (rRes.cg hs8 (hA _ (zLen t q e) _ c (zX t e q) (by omega) rfl hR (by omega))) rfl (fun v9 h9 e9 => ?_)
          obtain ⟨rfl, p8, d8, c8, w8, hw8, hR8, rfl⟩ := e9
          refine xg_ifne 95 93 dX12_readAtom_90 rfl rfl (by omega) (fun hb90 => ?_) (fun hb90 => ?_)
          · exfalso; omega
          · skip
            refine xg_iconst 94 dX12_readAtom_93 rfl ?_
            subst hX
            refine xg_zreturn dX12_readAtom_94 rfl (by first | exact bI_01 _ | omega) ⟨Nat.le_refl _, Nat.le_refl _⟩ ?_
            rw [gAtom_1 (by omega) hs8]
            exact ⟨rfl, _, _, _, _, hw8, hR8, rfl⟩
        · rw [hs8] at hok8
          obtain ⟨ho8, hoe8, hol8, hoc8⟩ := hok8
          refine xg_callVe 90 12 [] _ kv_X12_readAtom ⟨_, _, rfl⟩ kl_RX12_212 dX12_readAtom_87 rfl (by assumption) (by omega) rfl rfl (Nat.le_of_ble_eq_true rfl) (by omega) ⟨Nat.le_refl _, Nat.le_refl _⟩ (rRes.cg hs8 (hA _ (zLen t q e) _ c (zX t e q) (by omega) rfl hR (by omega))) rfl (fun v9 h9 e9 => ?_)
          obtain ⟨rfl, p8, b8, c8, w8, hz8, hp8, hc8, hW8, hR8, rfl⟩ := e9
          refine xg_ifne 95 93 dX12_readAtom_90 rfl rfl (by omega) (fun hb90 => ?_) (fun hb90 => ?_)
          · skip
            refine xg_aloadn 96 dX12_readAtom_95 rfl rfl rfl ?_
            refine xg_dup 97 dX12_readAtom_96 rfl rfl ?_
            refine xg_getI 100 kf_RX12_201 dX12_readAtom_97 rfl (by assumption) ?_
            rw [fR_13]
            refine xg_iconst 101 dX12_readAtom_100 rfl ?_
            refine xg_isub 102 dX12_readAtom_101 rfl ?_
            refine xg_putI 105 kf_RX12_201 dX12_readAtom_102 rfl (by assumption) ?_
            rw [fR_s13, show (6 - (r : Int)) - 1 = 6 - ((r + 1 : Nat) : Int) by omega]
            refine xg_aloadn 106 dX12_readAtom_105 rfl rfl rfl ?_
            refine xg_bipush 108 dX12_readAtom_106 rfl (by decide) ?_
            refine xg_iconst 109 dX12_readAtom_108 rfl ?_
            refine xg_callV 112 12 [_, _] _ kv_X12_emits ⟨_, _, rfl⟩ kl_RX12_186 dX12_readAtom_109 rfl (by assumption) (by omega) rfl rfl (Nat.le_of_ble_eq_true rfl) (by omega) ⟨Nat.le_refl _, Nat.le_refl _⟩ (cr_emits hw hT ht he h11 (by omega)) rfl ?_
            refine xg_iconst 113 dX12_readAtom_112 rfl ?_
            subst hX
            refine xg_zreturn dX12_readAtom_113 rfl (by first | exact bI_01 _ | omega) ⟨Nat.le_refl _, Nat.le_refl _⟩ ?_
            rw [gAtom_2 (by omega) hs8]
            exact ⟨rfl, p8, b8, c8 + 1, wEm w8 c8 14 0, hz8, hp8, by rw [List.length_append]; show c8 + 1 = c + ((cs8.length + 1 : Nat) : Int); omega, hW8.em2 hc8 (by omega), w32_em hR8 (by omega) (by omega), rfl⟩
          · exfalso; omega
      · exfalso; omega
  · rw [if_pos hb6]
    have hs1 := zX_s htb (by omega) (c := 40) (by decide) hb6
    have hxq := zX_b (t := t) hs1.1
    refine xg_aloadn 10 dX12_readAtom_9 rfl rfl rfl ?_
    refine xg_getI 13 kf_RX12_201 dX12_readAtom_10 rfl (by assumption) ?_
    rw [fR_13]
    refine xg_bipush 15 dX12_readAtom_13 rfl (by decide) ?_
    refine xg_icne 20 18 dX12_readAtom_15 rfl rfl (by omega) (fun hb15 => ?_) (fun hb15 => ?_)
    · skip
      refine xg_aloadn 21 dX12_readAtom_20 rfl rfl rfl ?_
      refine xg_dup 22 dX12_readAtom_21 rfl rfl ?_
      refine xg_getI 25 kf_RX12_201 dX12_readAtom_22 rfl (by assumption) ?_
      rw [fR_13]
      refine xg_iconst 26 dX12_readAtom_25 rfl ?_
      refine xg_iadd 27 dX12_readAtom_26 rfl ?_
      refine xg_putI 30 kf_RX12_201 dX12_readAtom_27 rfl (by assumption) ?_
      rw [fR_s13, show (6 - ((r + 1 : Nat) : Int)) + 1 = 6 - (r : Int) by omega]
      refine xg_aloadn 31 dX12_readAtom_30 rfl rfl rfl ?_
      have hok7 := gAny_ok (t := t) (gAtom_ok (t := t) r) hxq.2
      rcases hs7 : gAny t e (gAtom t e r) (zX t e q) with f7 | ⟨cs7, q7⟩
      · rw [hs7] at hok7
        have hok7a := hok7.1
        have hok7b := hok7.2
        refine xg_callVe 34 12 [] _ kv_X12_readCond ⟨_, _, rfl⟩ kl_RX12_204 dX12_readAtom_31 rfl (by assumption) (by omega) rfl rfl (Nat.le_of_ble_eq_true rfl) (by omega) ⟨Nat.le_refl _, Nat.le_refl _⟩ (rRes.cg hs7 (ct_X12_readCond hw hT ht he h11 (p := q + 1) (q := zX t e q) (by omega) hs1.2 hW hR (by omega) hA)) rfl (fun v9 h9 e9 => ?_)
        obtain ⟨rfl, p7, d7, c7, w7, hw7, hR7, rfl⟩ := e9
        refine xg_ifne 39 37 dX12_readAtom_34 rfl rfl (by omega) (fun hb34 => ?_) (fun hb34 => ?_)
        · exfalso; omega
        · skip
          refine xg_iconst 38 dX12_readAtom_37 rfl ?_
          subst hX
          refine xg_zreturn dX12_readAtom_38 rfl (by first | exact bI_01 _ | omega) ⟨Nat.le_refl _, Nat.le_refl _⟩ ?_
          rw [gAtom_3 (by omega) hs7]
          exact ⟨rfl, _, _, _, _, hw7, hR7, rfl⟩
      · rw [hs7] at hok7
        obtain ⟨ho7, hoe7, hol7, hoc7⟩ := hok7
        refine xg_callVe 34 12 [] _ kv_X12_readCond ⟨_, _, rfl⟩ kl_RX12_204 dX12_readAtom_31 rfl (by assumption) (by omega) rfl rfl (Nat.le_of_ble_eq_true rfl) (by omega) ⟨Nat.le_refl _, Nat.le_refl _⟩ (rRes.cg hs7 (ct_X12_readCond hw hT ht he h11 (p := q + 1) (q := zX t e q) (by omega) hs1.2 hW hR (by omega) hA)) rfl (fun v9 h9 e9 => ?_)
        obtain ⟨rfl, p7, b7, c7, w7, hz7, hp7, hc7, hW7, hR7, rfl⟩ := e9
        refine xg_ifne 39 37 dX12_readAtom_34 rfl rfl (by omega) (fun hb34 => ?_) (fun hb34 => ?_)
        · skip
          refine xg_aloadn 40 dX12_readAtom_39 rfl rfl rfl ?_
          refine xg_dup 41 dX12_readAtom_40 rfl rfl ?_
          refine xg_getI 44 kf_RX12_201 dX12_readAtom_41 rfl (by assumption) ?_
          rw [fR_13]
          refine xg_iconst 45 dX12_readAtom_44 rfl ?_
          refine xg_isub 46 dX12_readAtom_45 rfl ?_
          refine xg_putI 49 kf_RX12_201 dX12_readAtom_46 rfl (by assumption) ?_
          rw [fR_s13, show (6 - (r : Int)) - 1 = 6 - ((r + 1 : Nat) : Int) by omega]
          refine xg_aloadn 50 dX12_readAtom_49 rfl rfl rfl ?_
          refine xg_bipush 52 dX12_readAtom_50 rfl (by decide) ?_
          refine xg_callV 55 12 [_] _ kv_X12_sign ⟨_, _, rfl⟩ kl_RX12_193 dX12_readAtom_52 rfl (by assumption) (by omega) rfl rfl (Nat.le_of_ble_eq_true rfl) (by omega) ⟨Nat.le_refl _, Nat.le_refl _⟩ (cr_sign hw hT ht he h11 hp7 hz7 (ch := 41) (by decide)) rfl ?_
          subst hX
          refine xg_zreturn dX12_readAtom_55 rfl (by first | exact bI_01 _ | omega) ⟨Nat.le_refl _, Nat.le_refl _⟩ ?_
          have hqq7 := zSk_at hp7 he.2 hz7
          by_cases h41 : zK t e q7 = 100 + 41
          · have hs9 := zX_s htb (by omega) (c := 41) (by decide) h41
            rw [gAtom_4 (by omega) hs7 (by omega), decide_eq_true h41, if_pos h41]
            exact ⟨rfl, _, _, _, _, hs9.2, ⟨by omega, by omega⟩, hc7, hW7, hR7, rfl⟩
          · rw [gAtom_5 (by omega) hs7 (by omega), decide_eq_false h41, if_neg h41]
            exact ⟨rfl, _, _, _, _, fun j hj => hW7.out hc.1 hj, hR7, rfl⟩
        · exfalso; omega
    · exfalso; omega

theorem ct_X12_atoms {E : xE} {z : Nat} {T : Nat → Nat × Int} {F : Nat → Nat → Int} {I : Nat → Int → Int} {P : Nat → Nat → Option Nat} {Y : Nat → Int → Option Nat} {m : Nat} (hw : wM T P m) (hT : ∀ j : Int, -128 ≤ I (m + 6) j ∧ I (m + 6) j ≤ 127) {t : Int → Int} {e : Int} (ht : rTp t (I (m + 6)) e) (he : 0 ≤ e ∧ e ≤ 400) (h11 : F m 11 = e) {ad adv : Nat → Nat} {sio : Option Nat} (hW : ∀ u : State, E.2.2.2.2 u → oWs E.2.2.2.1 ad adv sio u) : ∀ r : Nat, r ≤ 6 → AtC E m z T F I P Y t e r
  | 0, _ => fun w p b c q hp hq hR hc => ct_X12_readAtom_0 hw hT ht he h11 hW ⟨hp, hq, hR, hc⟩
  | r + 1, hr => fun w p b c q hp hq hR hc => by
    have h := ct_X12_readAtom_S (z := z) (Y := Y) hw hT ht he h11 hW (b := b) (w := w) ⟨hp, hq, hR, hc⟩ (r := r) (by omega) (ct_X12_atoms (z := z) (Y := Y) hw hT ht he h11 hW r (by omega))
    rw [show 24 + 4 * r = 20 + 4 * (r + 1) by omega] at h
    exact h
/-- the reference reads a condition -/
theorem ct_X12_cond {E : xE} {z : Nat} {T : Nat → Nat × Int} {F : Nat → Nat → Int} {I : Nat → Int → Int} {P : Nat → Nat → Option Nat} {Y : Nat → Int → Option Nat} {m : Nat} {w : Int → Int} (hw : wM T P m) (hT : ∀ j : Int, -128 ≤ I (m + 6) j ∧ I (m + 6) j ≤ 127) {t : Int → Int} {e : Int} (ht : rTp t (I (m + 6)) e) (he : 0 ≤ e ∧ e ≤ 400) (h11 : F m 11 = e) {p b c q : Int} (hp : 0 ≤ p ∧ p ≤ e) (hq : zSk t e p = q) {ad adv : Nat → Nat} {sio : Option Nat} (hW : ∀ u : State, E.2.2.2.2 u → oWs E.2.2.2.1 ad adv sio u) (hR : w32 w) (hc : 0 ≤ c ∧ c + 1 ≤ q) : Ct E 46 mX12_readCond 0 0 [.ref m] (z, T, fR F m (p) (b) (0) (c), upA I (m + 1) (w), P, Y) (rRes m z T F I P Y t e (0) c w (gCond t e q)) :=
  ct_X12_readCond hw hT ht he h11 (r := 6) hp hq hW hR hc (ct_X12_atoms (z := z) (Y := Y) hw hT ht he h11 hW 6 (by omega))
