/-! entries, on both sides -/
def sRw (v : Int) : Int := if v = -1 then 19 else if v = 99 then 79 else 201 + 122 * v
def sEntK (w : Int → Int) (v y key : Int) : Int := if key = -1 then -1 else if y = 0 then key else if y = 1 then w (sRw v + key) else if v = -1 then 0 else w (sRw v + 60 + key)
def sEntA (w : Int → Int) (v x y : Int) : Int := sEntK w v y (sKey (fun j => w (sRw v + j)) 60 0 x)
theorem sKey_cg {f g : Int → Int} : ∀ (n : Nat) (key left : Int), 0 ≤ key → key + n = 60 → (∀ j : Int, 0 ≤ j → j < 60 → f j = g j) → sKey f n key left = sKey g n key left
  | 0, _, _, _, _, _ => rfl
  | n + 1, key, left, h0, h1, h => by
    rw [sKey, sKey, h key h0 (by omega), sKey_cg n (key + 1) left (by omega) (by omega) h, sKey_cg n (key + 1) (left - 1) (by omega) (by omega) h]
theorem sKey_in {f : Int → Int} : ∀ (n : Nat) (key left : Int), 0 ≤ key → key + n = 60 → sKey f n key left = -1 ∨ ((0 ≤ sKey f n key left ∧ sKey f n key left < 60) ∧ f (sKey f n key left) ≠ -1)
  | 0, _, _, _, _ => Or.inl rfl
  | n + 1, key, left, h0, h1 => by
    rw [sKey]
    split
    · exact Or.inl rfl
    · split
      · exact sKey_in n (key + 1) left (by omega) (by omega)
      · rename_i h3
        split
        · exact Or.inr ⟨⟨h0, by omega⟩, h3⟩
        · exact sKey_in n (key + 1) (left - 1) (by omega) (by omega)
theorem entry_row {F : Nat → Nat → Int} {I : Nat → Int → Int} {a : Nat} {π : Nat → Nat} {w : Int → Int} {v : Int} (hw0 : F a 1 = w 0) (o0 : 0 ≤ w 0 ∧ w 0 ≤ 12) (hRun : ∀ r : Nat, (r : Int) < w 0 → rRun F I (a + 2 + 3 * π r) w r) (hTab : rTab F I (a + 2 + 3 * π 12) w) (hOut : rOut F I (a + 2 + 3 * π 13) w) (hv : v = -1 ∨ v = 99 ∨ (0 ≤ v ∧ v < w 0)) : ∃ i : Nat, i < 14 ∧ (if v = -1 then 12 else if 0 ≤ v ∧ v < F a 1 then v.toNat else 13) = i ∧ ∀ k : Int, 0 ≤ k → k < 60 → I (a + 2 + 3 * π i + 1) k = w (sRw v + k) ∧ (w (sRw v + k) ≠ -1 → I (a + 2 + 3 * π i + 2) k = if v = -1 then 0 else w (sRw v + 60 + k)) := by
  rcases hv with h | h | h
  · subst h
    exact ⟨12, by decide, rfl, fun k k0 k1 => hTab.2.2.2 k k0 k1⟩
  · subst h
    refine ⟨13, by decide, by rw [if_neg (by decide), if_neg (by omega)], fun k k0 k1 => ?_⟩
    have h1 := hOut.2.2 k k0 k1
    exact h1
  · refine ⟨v.toNat, by omega, by rw [if_neg (by omega), if_pos (by omega)], fun k k0 k1 => ?_⟩
    have h1 := (hRun v.toNat (by omega)).2.2.2 k k0 k1
    rw [show ((v.toNat : Nat) : Int) = v by omega] at h1
    unfold sRw
    rw [if_neg (by omega), if_neg (by omega), if_neg (by omega), show 201 + 122 * v + 60 + k = 261 + 122 * v + k by omega]
    exact h1
theorem dX12_entry_0 : decode cX12_entry 0 = .ok (.aload_n 0, 1) := by decide +kernel
theorem dX12_entry_1 : decode cX12_entry 1 = .ok (.iconst 0, 1) := by decide +kernel
theorem dX12_entry_2 : decode cX12_entry 2 = .ok (.putfield 3, 3) := by decide +kernel
theorem dX12_entry_5 : decode cX12_entry 5 = .ok (.aload_n 0, 1) := by decide +kernel
theorem dX12_entry_6 : decode cX12_entry 6 = .ok (.iload_n 1, 1) := by decide +kernel
theorem dX12_entry_7 : decode cX12_entry 7 = .ok (.iconst (-1), 1) := by decide +kernel
theorem dX12_entry_8 : decode cX12_entry 8 = .ok (.if_icmp .eq 21, 3) := by decide +kernel
theorem dX12_entry_11 : decode cX12_entry 11 = .ok (.iload_n 1, 1) := by decide +kernel
theorem dX12_entry_12 : decode cX12_entry 12 = .ok (.bipush 99, 2) := by decide +kernel
theorem dX12_entry_14 : decode cX12_entry 14 = .ok (.if_icmp .eq 15, 3) := by decide +kernel
theorem dX12_entry_17 : decode cX12_entry 17 = .ok (.aload_n 0, 1) := by decide +kernel
theorem dX12_entry_18 : decode cX12_entry 18 = .ok (.iload_n 1, 1) := by decide +kernel
theorem dX12_entry_19 : decode cX12_entry 19 = .ok (.invokevirtual 373, 3) := by decide +kernel
theorem dX12_entry_22 : decode cX12_entry 22 = .ok (.ifCond .eq 7, 3) := by decide +kernel
theorem dX12_entry_25 : decode cX12_entry 25 = .ok (.iconst 1, 1) := by decide +kernel
theorem dX12_entry_26 : decode cX12_entry 26 = .ok (.goto 4, 3) := by decide +kernel
theorem dX12_entry_29 : decode cX12_entry 29 = .ok (.iconst 0, 1) := by decide +kernel
theorem dX12_entry_30 : decode cX12_entry 30 = .ok (.iconst 1, 1) := by decide +kernel
theorem dX12_entry_31 : decode cX12_entry 31 = .ok (.invokevirtual 251, 3) := by decide +kernel
theorem dX12_entry_34 : decode cX12_entry 34 = .ok (.ifCond .ne 25, 3) := by decide +kernel
theorem dX12_entry_37 : decode cX12_entry 37 = .ok (.aload_n 0, 1) := by decide +kernel
theorem dX12_entry_38 : decode cX12_entry 38 = .ok (.iload_n 3, 1) := by decide +kernel
theorem dX12_entry_39 : decode cX12_entry 39 = .ok (.iconst 0, 1) := by decide +kernel
theorem dX12_entry_40 : decode cX12_entry 40 = .ok (.iconst 2, 1) := by decide +kernel
theorem dX12_entry_41 : decode cX12_entry 41 = .ok (.invokestatic 70, 3) := by decide +kernel
theorem dX12_entry_44 : decode cX12_entry 44 = .ok (.ifCond .ne 7, 3) := by decide +kernel
theorem dX12_entry_47 : decode cX12_entry 47 = .ok (.iconst 1, 1) := by decide +kernel
theorem dX12_entry_48 : decode cX12_entry 48 = .ok (.goto 4, 3) := by decide +kernel
theorem dX12_entry_51 : decode cX12_entry 51 = .ok (.iconst 0, 1) := by decide +kernel
theorem dX12_entry_52 : decode cX12_entry 52 = .ok (.iconst 2, 1) := by decide +kernel
theorem dX12_entry_53 : decode cX12_entry 53 = .ok (.invokevirtual 251, 3) := by decide +kernel
theorem dX12_entry_56 : decode cX12_entry 56 = .ok (.ifCond .eq 5, 3) := by decide +kernel
theorem dX12_entry_59 : decode cX12_entry 59 = .ok (.iconst 0, 1) := by decide +kernel
theorem dX12_entry_60 : decode cX12_entry 60 = .ok (.ireturn, 1) := by decide +kernel
theorem dX12_entry_61 : decode cX12_entry 61 = .ok (.iload_n 1, 1) := by decide +kernel
theorem dX12_entry_62 : decode cX12_entry 62 = .ok (.iconst (-1), 1) := by decide +kernel
theorem dX12_entry_63 : decode cX12_entry 63 = .ok (.if_icmp .ne 8, 3) := by decide +kernel
theorem dX12_entry_66 : decode cX12_entry 66 = .ok (.bipush 19, 2) := by decide +kernel
theorem dX12_entry_68 : decode cX12_entry 68 = .ok (.goto 18, 3) := by decide +kernel
theorem dX12_entry_71 : decode cX12_entry 71 = .ok (.iload_n 1, 1) := by decide +kernel
theorem dX12_entry_72 : decode cX12_entry 72 = .ok (.bipush 99, 2) := by decide +kernel
theorem dX12_entry_74 : decode cX12_entry 74 = .ok (.if_icmp .ne 8, 3) := by decide +kernel
theorem dX12_entry_77 : decode cX12_entry 77 = .ok (.bipush 79, 2) := by decide +kernel
theorem dX12_entry_79 : decode cX12_entry 79 = .ok (.goto 7, 3) := by decide +kernel
theorem dX12_entry_82 : decode cX12_entry 82 = .ok (.iload_n 1, 1) := by decide +kernel
theorem dX12_entry_83 : decode cX12_entry 83 = .ok (.invokestatic 133, 3) := by decide +kernel
theorem dX12_entry_86 : decode cX12_entry 86 = .ok (.istore 4, 2) := by decide +kernel
theorem dX12_entry_88 : decode cX12_entry 88 = .ok (.iload_n 2, 1) := by decide +kernel
theorem dX12_entry_89 : decode cX12_entry 89 = .ok (.istore 5, 2) := by decide +kernel
theorem dX12_entry_91 : decode cX12_entry 91 = .ok (.iconst 0, 1) := by decide +kernel
theorem dX12_entry_92 : decode cX12_entry 92 = .ok (.istore 6, 2) := by decide +kernel
theorem dX12_entry_94 : decode cX12_entry 94 = .ok (.iload 6, 2) := by decide +kernel
theorem dX12_entry_96 : decode cX12_entry 96 = .ok (.bipush 60, 2) := by decide +kernel
theorem dX12_entry_98 : decode cX12_entry 98 = .ok (.if_icmp .ge 89, 3) := by decide +kernel
theorem dX12_entry_101 : decode cX12_entry 101 = .ok (.iload 5, 2) := by decide +kernel
theorem dX12_entry_103 : decode cX12_entry 103 = .ok (.ifCond .lt 84, 3) := by decide +kernel
theorem dX12_entry_106 : decode cX12_entry 106 = .ok (.aload_n 0, 1) := by decide +kernel
theorem dX12_entry_107 : decode cX12_entry 107 = .ok (.getfield 13, 3) := by decide +kernel
theorem dX12_entry_110 : decode cX12_entry 110 = .ok (.iload 4, 2) := by decide +kernel
theorem dX12_entry_112 : decode cX12_entry 112 = .ok (.iload 6, 2) := by decide +kernel
theorem dX12_entry_114 : decode cX12_entry 114 = .ok (.iadd, 1) := by decide +kernel
theorem dX12_entry_115 : decode cX12_entry 115 = .ok (.iaload, 1) := by decide +kernel
theorem dX12_entry_116 : decode cX12_entry 116 = .ok (.iconst (-1), 1) := by decide +kernel
theorem dX12_entry_117 : decode cX12_entry 117 = .ok (.if_icmp .ne 6, 3) := by decide +kernel
theorem dX12_entry_120 : decode cX12_entry 120 = .ok (.goto 61, 3) := by decide +kernel
theorem dX12_entry_123 : decode cX12_entry 123 = .ok (.iload 5, 2) := by decide +kernel
theorem dX12_entry_125 : decode cX12_entry 125 = .ok (.ifCond .ne 53, 3) := by decide +kernel
theorem dX12_entry_128 : decode cX12_entry 128 = .ok (.iload_n 3, 1) := by decide +kernel
theorem dX12_entry_129 : decode cX12_entry 129 = .ok (.ifCond .ne 8, 3) := by decide +kernel
theorem dX12_entry_132 : decode cX12_entry 132 = .ok (.iload 6, 2) := by decide +kernel
theorem dX12_entry_134 : decode cX12_entry 134 = .ok (.goto 43, 3) := by decide +kernel
theorem dX12_entry_137 : decode cX12_entry 137 = .ok (.iload_n 3, 1) := by decide +kernel
theorem dX12_entry_138 : decode cX12_entry 138 = .ok (.iconst 1, 1) := by decide +kernel
theorem dX12_entry_139 : decode cX12_entry 139 = .ok (.if_icmp .ne 16, 3) := by decide +kernel
theorem dX12_entry_142 : decode cX12_entry 142 = .ok (.aload_n 0, 1) := by decide +kernel
theorem dX12_entry_143 : decode cX12_entry 143 = .ok (.getfield 13, 3) := by decide +kernel
theorem dX12_entry_146 : decode cX12_entry 146 = .ok (.iload 4, 2) := by decide +kernel
theorem dX12_entry_148 : decode cX12_entry 148 = .ok (.iload 6, 2) := by decide +kernel
theorem dX12_entry_150 : decode cX12_entry 150 = .ok (.iadd, 1) := by decide +kernel
theorem dX12_entry_151 : decode cX12_entry 151 = .ok (.iaload, 1) := by decide +kernel
theorem dX12_entry_152 : decode cX12_entry 152 = .ok (.goto 25, 3) := by decide +kernel
theorem dX12_entry_155 : decode cX12_entry 155 = .ok (.iload_n 1, 1) := by decide +kernel
theorem dX12_entry_156 : decode cX12_entry 156 = .ok (.iconst (-1), 1) := by decide +kernel
theorem dX12_entry_157 : decode cX12_entry 157 = .ok (.if_icmp .ne 7, 3) := by decide +kernel
theorem dX12_entry_160 : decode cX12_entry 160 = .ok (.iconst 0, 1) := by decide +kernel
theorem dX12_entry_161 : decode cX12_entry 161 = .ok (.goto 16, 3) := by decide +kernel
theorem dX12_entry_164 : decode cX12_entry 164 = .ok (.aload_n 0, 1) := by decide +kernel
theorem dX12_entry_165 : decode cX12_entry 165 = .ok (.getfield 13, 3) := by decide +kernel
theorem dX12_entry_168 : decode cX12_entry 168 = .ok (.iload 4, 2) := by decide +kernel
theorem dX12_entry_170 : decode cX12_entry 170 = .ok (.bipush 60, 2) := by decide +kernel
theorem dX12_entry_172 : decode cX12_entry 172 = .ok (.iadd, 1) := by decide +kernel
theorem dX12_entry_173 : decode cX12_entry 173 = .ok (.iload 6, 2) := by decide +kernel
theorem dX12_entry_175 : decode cX12_entry 175 = .ok (.iadd, 1) := by decide +kernel
theorem dX12_entry_176 : decode cX12_entry 176 = .ok (.iaload, 1) := by decide +kernel
theorem dX12_entry_177 : decode cX12_entry 177 = .ok (.ireturn, 1) := by decide +kernel
theorem dX12_entry_178 : decode cX12_entry 178 = .ok (.iinc 5 (-1), 3) := by decide +kernel
theorem dX12_entry_181 : decode cX12_entry 181 = .ok (.iinc 6 1, 3) := by decide +kernel
theorem dX12_entry_184 : decode cX12_entry 184 = .ok (.goto (-90), 3) := by decide +kernel
theorem dX12_entry_187 : decode cX12_entry 187 = .ok (.iconst (-1), 1) := by decide +kernel
theorem dX12_entry_188 : decode cX12_entry 188 = .ok (.ireturn, 1) := by decide +kernel
set_option maxHeartbeats 4000000 in
set_option maxRecDepth 100000 in
theorem ct_X12_entry_t1 {E : xE} {z : Nat} {T : Nat → Nat × Int} {F : Nat → Nat → Int} {I : Nat → Int → Int} {P : Nat → Nat → Option Nat} {Y : Nat → Int → Option Nat} {m : Nat} {w : Int → Int} (hw : wM T P m) (hO : wOk w){v kk y : Int} (hv : -2147483648 ≤ v ∧ v < 2147483648) (hkk : -2147483648 ≤ kk ∧ kk < 2147483648) (hy : -2147483648 ≤ y ∧ y < 2147483648) (hb : v ≠ -1 ∧ v ≠ 99 ∧ ¬ (0 ≤ v ∧ v < w 0)) : Ct E 2 mX12_entry 0 0 [.ref m, J v, J kk, J y] (z, T, F, upA I (m + 1) w, P, Y) (xd (some (J 0)) (z, T, upF F m 0 1, upA I (m + 1) (w), P, Y)) := by
  obtain ⟨⟨q0, q1, q2, q3⟩, -⟩ := id hw
  obtain ⟨hR, o0, o1, o2, o3, o4, o5, o6, oc, o13, o14, o16, o17, o18, ov⟩ := id hO
  have hN := wN_i o0.1
  refine Ct.of [some (.ref m), some (J v), some (J kk), some (J y), none, none, none] kt_X12_entry rfl (Nat.le_of_ble_eq_true rfl) rfl (fun d hd => ?_)
  generalize hX : xN E _ _ _ = X
  refine xg_aloadn 1 dX12_entry_0 rfl rfl rfl ?_
  refine xg_iconst 2 dX12_entry_1 rfl ?_
  refine xg_putI 5 kf_RX12_3 dX12_entry_2 rfl (by assumption) ?_
  refine xg_aloadn 6 dX12_entry_5 rfl rfl rfl ?_
  refine xg_iloadn 7 dX12_entry_6 rfl rfl rfl ?_
  refine xg_iconst 8 dX12_entry_7 rfl ?_
  refine xg_iceq 29 11 dX12_entry_8 rfl rfl (by first | omega | exact hR _ | exact ⟨hR _, by omega⟩ | exact ⟨by omega, hR _⟩ | exact ⟨hR _, hR _⟩) (fun hb8 => ?_) (fun hb8 => ?_)
  · first
    | (exfalso; omega)
    | skip
      refine xg_iconst 30 dX12_entry_29 rfl ?_
      refine xg_iconst 31 dX12_entry_30 rfl ?_
      refine xg_callV 34 12 [_, _] _ kv_X12_throwsIf ⟨_, _, rfl⟩ kl_RX12_251 dX12_entry_31 rfl (by assumption) (by omega) rfl rfl (Nat.le_of_ble_eq_true rfl) (by omega) ⟨Nat.le_refl _, Nat.le_refl _⟩ (ct_throwsF hw) rfl ?_
      refine xg_ifne 59 37 dX12_entry_34 rfl rfl (by first | omega | exact hR _ | exact ⟨hR _, by omega⟩ | exact ⟨by omega, hR _⟩ | exact ⟨hR _, hR _⟩) (fun hb34 => ?_) (fun hb34 => ?_)
      · exfalso; omega
      · skip
        refine xg_aloadn 38 dX12_entry_37 rfl rfl rfl ?_
        refine xg_iloadn 39 dX12_entry_38 rfl rfl rfl ?_
        refine xg_iconst 40 dX12_entry_39 rfl ?_
        refine xg_iconst 41 dX12_entry_40 rfl ?_
        refine xg_callS 44 [_, _, _] _ ks_X12_in kl_RX12_70 dX12_entry_41 rfl rfl rfl (Nat.le_of_ble_eq_true rfl) (by omega) ⟨Nat.le_refl _, Nat.le_refl _⟩ (ct_X12_in (by omega)) rfl ?_
        refine xg_dne 51 47 dX12_entry_44 rfl rfl (fun hb44 => ?_) (fun hb44 => ?_)
        · first
          | (exfalso; omega)
          | skip
            refine xg_iconst 52 dX12_entry_51 rfl ?_
            refine xg_iconst 53 dX12_entry_52 rfl ?_
            refine xg_callV 56 12 [_, _] _ kv_X12_throwsIf ⟨_, _, rfl⟩ kl_RX12_251 dX12_entry_53 rfl (by assumption) (by omega) rfl rfl (Nat.le_of_ble_eq_true rfl) (by omega) ⟨Nat.le_refl _, Nat.le_refl _⟩ (ct_throwsF hw) rfl ?_
            refine xg_ifeq 61 59 dX12_entry_56 rfl rfl (by first | omega | exact hR _ | exact ⟨hR _, by omega⟩ | exact ⟨by omega, hR _⟩ | exact ⟨hR _, hR _⟩) (fun hb56 => ?_) (fun hb56 => ?_)
            · skip
              exfalso; omega
            · exfalso; omega
        · first
          | (exfalso; omega)
          | skip
            refine xg_iconst 48 dX12_entry_47 rfl ?_
            refine xg_goto 52 dX12_entry_48 rfl ?_
            refine xg_iconst 53 dX12_entry_52 rfl ?_
            refine xg_callV 56 12 [_, _] _ kv_X12_throwsIf ⟨_, _, rfl⟩ kl_RX12_251 dX12_entry_53 rfl (by assumption) (by omega) rfl rfl (Nat.le_of_ble_eq_true rfl) (by omega) ⟨Nat.le_refl _, Nat.le_refl _⟩ (ct_throwsT hw) rfl ?_
            refine xg_ifeq 61 59 dX12_entry_56 rfl rfl (by first | omega | exact hR _ | exact ⟨hR _, by omega⟩ | exact ⟨by omega, hR _⟩ | exact ⟨hR _, hR _⟩) (fun hb56 => ?_) (fun hb56 => ?_)
            · exfalso; omega
            · skip
              refine xg_iconst 60 dX12_entry_59 rfl ?_
              subst hX
              exact xg_ireturn dX12_entry_60 rfl ⟨Nat.le_refl _, Nat.le_refl _⟩ ⟨rfl, by rw [upF_upF]⟩
  · first
    | (exfalso; omega)
    | skip
      refine xg_iloadn 12 dX12_entry_11 rfl rfl rfl ?_
      refine xg_bipush 14 dX12_entry_12 rfl (by decide) ?_
      refine xg_iceq 29 17 dX12_entry_14 rfl rfl (by first | omega | exact hR _ | exact ⟨hR _, by omega⟩ | exact ⟨by omega, hR _⟩ | exact ⟨hR _, hR _⟩) (fun hb14 => ?_) (fun hb14 => ?_)
      · first
        | (exfalso; omega)
        | skip
          refine xg_iconst 30 dX12_entry_29 rfl ?_
          refine xg_iconst 31 dX12_entry_30 rfl ?_
          refine xg_callV 34 12 [_, _] _ kv_X12_throwsIf ⟨_, _, rfl⟩ kl_RX12_251 dX12_entry_31 rfl (by assumption) (by omega) rfl rfl (Nat.le_of_ble_eq_true rfl) (by omega) ⟨Nat.le_refl _, Nat.le_refl _⟩ (ct_throwsF hw) rfl ?_
          refine xg_ifne 59 37 dX12_entry_34 rfl rfl (by first | omega | exact hR _ | exact ⟨hR _, by omega⟩ | exact ⟨by omega, hR _⟩ | exact ⟨hR _, hR _⟩) (fun hb34 => ?_) (fun hb34 => ?_)
          · exfalso; omega
          · skip
            refine xg_aloadn 38 dX12_entry_37 rfl rfl rfl ?_
            refine xg_iloadn 39 dX12_entry_38 rfl rfl rfl ?_
            refine xg_iconst 40 dX12_entry_39 rfl ?_
            refine xg_iconst 41 dX12_entry_40 rfl ?_
            refine xg_callS 44 [_, _, _] _ ks_X12_in kl_RX12_70 dX12_entry_41 rfl rfl rfl (Nat.le_of_ble_eq_true rfl) (by omega) ⟨Nat.le_refl _, Nat.le_refl _⟩ (ct_X12_in (by omega)) rfl ?_
            refine xg_dne 51 47 dX12_entry_44 rfl rfl (fun hb44 => ?_) (fun hb44 => ?_)
            · first
              | (exfalso; omega)
              | skip
                refine xg_iconst 52 dX12_entry_51 rfl ?_
                refine xg_iconst 53 dX12_entry_52 rfl ?_
                refine xg_callV 56 12 [_, _] _ kv_X12_throwsIf ⟨_, _, rfl⟩ kl_RX12_251 dX12_entry_53 rfl (by assumption) (by omega) rfl rfl (Nat.le_of_ble_eq_true rfl) (by omega) ⟨Nat.le_refl _, Nat.le_refl _⟩ (ct_throwsF hw) rfl ?_
                refine xg_ifeq 61 59 dX12_entry_56 rfl rfl (by first | omega | exact hR _ | exact ⟨hR _, by omega⟩ | exact ⟨by omega, hR _⟩ | exact ⟨hR _, hR _⟩) (fun hb56 => ?_) (fun hb56 => ?_)
                · skip
                  exfalso; omega
                · exfalso; omega
            · first
              | (exfalso; omega)
              | skip
                refine xg_iconst 48 dX12_entry_47 rfl ?_
                refine xg_goto 52 dX12_entry_48 rfl ?_
                refine xg_iconst 53 dX12_entry_52 rfl ?_
                refine xg_callV 56 12 [_, _] _ kv_X12_throwsIf ⟨_, _, rfl⟩ kl_RX12_251 dX12_entry_53 rfl (by assumption) (by omega) rfl rfl (Nat.le_of_ble_eq_true rfl) (by omega) ⟨Nat.le_refl _, Nat.le_refl _⟩ (ct_throwsT hw) rfl ?_
                refine xg_ifeq 61 59 dX12_entry_56 rfl rfl (by first | omega | exact hR _ | exact ⟨hR _, by omega⟩ | exact ⟨by omega, hR _⟩ | exact ⟨hR _, hR _⟩) (fun hb56 => ?_) (fun hb56 => ?_)
                · exfalso; omega
                · skip
                  refine xg_iconst 60 dX12_entry_59 rfl ?_
                  subst hX
                  exact xg_ireturn dX12_entry_60 rfl ⟨Nat.le_refl _, Nat.le_refl _⟩ ⟨rfl, by rw [upF_upF]⟩
      · first
        | (exfalso; omega)
        | skip
          refine xg_aloadn 18 dX12_entry_17 rfl rfl rfl ?_
          refine xg_iloadn 19 dX12_entry_18 rfl rfl rfl ?_
          refine xg_callV 22 12 [_] _ kv_X12_noRun ⟨_, _, rfl⟩ kl_RX12_373 dX12_entry_19 rfl (by assumption) (by omega) rfl rfl (Nat.le_of_ble_eq_true rfl) (by omega) ⟨Nat.le_refl _, Nat.le_refl _⟩ (ct_X12_noRun hw o0 (by omega)) rfl ?_
          refine xg_deq 29 25 dX12_entry_22 rfl rfl (fun hb22 => ?_) (fun hb22 => ?_)
          · first
            | (exfalso; omega)
            | skip
              refine xg_iconst 30 dX12_entry_29 rfl ?_
              refine xg_iconst 31 dX12_entry_30 rfl ?_
              refine xg_callV 34 12 [_, _] _ kv_X12_throwsIf ⟨_, _, rfl⟩ kl_RX12_251 dX12_entry_31 rfl (by assumption) (by omega) rfl rfl (Nat.le_of_ble_eq_true rfl) (by omega) ⟨Nat.le_refl _, Nat.le_refl _⟩ (ct_throwsF hw) rfl ?_
              refine xg_ifne 59 37 dX12_entry_34 rfl rfl (by first | omega | exact hR _ | exact ⟨hR _, by omega⟩ | exact ⟨by omega, hR _⟩ | exact ⟨hR _, hR _⟩) (fun hb34 => ?_) (fun hb34 => ?_)
              · exfalso; omega
              · skip
                refine xg_aloadn 38 dX12_entry_37 rfl rfl rfl ?_
                refine xg_iloadn 39 dX12_entry_38 rfl rfl rfl ?_
                refine xg_iconst 40 dX12_entry_39 rfl ?_
                refine xg_iconst 41 dX12_entry_40 rfl ?_
                refine xg_callS 44 [_, _, _] _ ks_X12_in kl_RX12_70 dX12_entry_41 rfl rfl rfl (Nat.le_of_ble_eq_true rfl) (by omega) ⟨Nat.le_refl _, Nat.le_refl _⟩ (ct_X12_in (by omega)) rfl ?_
                refine xg_dne 51 47 dX12_entry_44 rfl rfl (fun hb44 => ?_) (fun hb44 => ?_)
                · first
                  | (exfalso; omega)
                  | skip
                    refine xg_iconst 52 dX12_entry_51 rfl ?_
                    refine xg_iconst 53 dX12_entry_52 rfl ?_
                    refine xg_callV 56 12 [_, _] _ kv_X12_throwsIf ⟨_, _, rfl⟩ kl_RX12_251 dX12_entry_53 rfl (by assumption) (by omega) rfl rfl (Nat.le_of_ble_eq_true rfl) (by omega) ⟨Nat.le_refl _, Nat.le_refl _⟩ (ct_throwsF hw) rfl ?_
                    refine xg_ifeq 61 59 dX12_entry_56 rfl rfl (by first | omega | exact hR _ | exact ⟨hR _, by omega⟩ | exact ⟨by omega, hR _⟩ | exact ⟨hR _, hR _⟩) (fun hb56 => ?_) (fun hb56 => ?_)
                    · skip
                      exfalso; omega
                    · exfalso; omega
                · first
                  | (exfalso; omega)
                  | skip
                    refine xg_iconst 48 dX12_entry_47 rfl ?_
                    refine xg_goto 52 dX12_entry_48 rfl ?_
                    refine xg_iconst 53 dX12_entry_52 rfl ?_
                    refine xg_callV 56 12 [_, _] _ kv_X12_throwsIf ⟨_, _, rfl⟩ kl_RX12_251 dX12_entry_53 rfl (by assumption) (by omega) rfl rfl (Nat.le_of_ble_eq_true rfl) (by omega) ⟨Nat.le_refl _, Nat.le_refl _⟩ (ct_throwsT hw) rfl ?_
                    refine xg_ifeq 61 59 dX12_entry_56 rfl rfl (by first | omega | exact hR _ | exact ⟨hR _, by omega⟩ | exact ⟨by omega, hR _⟩ | exact ⟨hR _, hR _⟩) (fun hb56 => ?_) (fun hb56 => ?_)
                    · exfalso; omega
                    · skip
                      refine xg_iconst 60 dX12_entry_59 rfl ?_
                      subst hX
                      exact xg_ireturn dX12_entry_60 rfl ⟨Nat.le_refl _, Nat.le_refl _⟩ ⟨rfl, by rw [upF_upF]⟩
          · first
            | (exfalso; omega)
            | skip
              refine xg_iconst 26 dX12_entry_25 rfl ?_
              refine xg_goto 30 dX12_entry_26 rfl ?_
              refine xg_iconst 31 dX12_entry_30 rfl ?_
              refine xg_callV 34 12 [_, _] _ kv_X12_throwsIf ⟨_, _, rfl⟩ kl_RX12_251 dX12_entry_31 rfl (by assumption) (by omega) rfl rfl (Nat.le_of_ble_eq_true rfl) (by omega) ⟨Nat.le_refl _, Nat.le_refl _⟩ (ct_throwsT hw) rfl ?_
              refine xg_ifne 59 37 dX12_entry_34 rfl rfl (by first | omega | exact hR _ | exact ⟨hR _, by omega⟩ | exact ⟨by omega, hR _⟩ | exact ⟨hR _, hR _⟩) (fun hb34 => ?_) (fun hb34 => ?_)
              · skip
                refine xg_iconst 60 dX12_entry_59 rfl ?_
                subst hX
                exact xg_ireturn dX12_entry_60 rfl ⟨Nat.le_refl _, Nat.le_refl _⟩ ⟨rfl, by rw [upF_upF]⟩
              · exfalso; omega

set_option maxHeartbeats 4000000 in
set_option maxRecDepth 100000 in
theorem ct_X12_entry_t2 {E : xE} {z : Nat} {T : Nat → Nat × Int} {F : Nat → Nat → Int} {I : Nat → Int → Int} {P : Nat → Nat → Option Nat} {Y : Nat → Int → Option Nat} {m : Nat} {w : Int → Int} (hw : wM T P m) (hO : wOk w){v kk y : Int} (hv : -2147483648 ≤ v ∧ v < 2147483648) (hkk : -2147483648 ≤ kk ∧ kk < 2147483648) (hy : -2147483648 ≤ y ∧ y < 2147483648) (hb : (v = -1 ∨ v = 99 ∨ (0 ≤ v ∧ v < w 0)) ∧ ¬ (0 ≤ y ∧ y ≤ 2)) : Ct E 2 mX12_entry 0 0 [.ref m, J v, J kk, J y] (z, T, F, upA I (m + 1) w, P, Y) (xd (some (J 0)) (z, T, upF F m 0 2, upA I (m + 1) (w), P, Y)) := by
  obtain ⟨⟨q0, q1, q2, q3⟩, -⟩ := id hw
  obtain ⟨hR, o0, o1, o2, o3, o4, o5, o6, oc, o13, o14, o16, o17, o18, ov⟩ := id hO
  have hN := wN_i o0.1
  refine Ct.of [some (.ref m), some (J v), some (J kk), some (J y), none, none, none] kt_X12_entry rfl (Nat.le_of_ble_eq_true rfl) rfl (fun d hd => ?_)
  generalize hX : xN E _ _ _ = X
  refine xg_aloadn 1 dX12_entry_0 rfl rfl rfl ?_
  refine xg_iconst 2 dX12_entry_1 rfl ?_
  refine xg_putI 5 kf_RX12_3 dX12_entry_2 rfl (by assumption) ?_
  refine xg_aloadn 6 dX12_entry_5 rfl rfl rfl ?_
  refine xg_iloadn 7 dX12_entry_6 rfl rfl rfl ?_
  refine xg_iconst 8 dX12_entry_7 rfl ?_
  refine xg_iceq 29 11 dX12_entry_8 rfl rfl (by first | omega | exact hR _ | exact ⟨hR _, by omega⟩ | exact ⟨by omega, hR _⟩ | exact ⟨hR _, hR _⟩) (fun hb8 => ?_) (fun hb8 => ?_)
  · first
    | (exfalso; omega)
    | skip
      refine xg_iconst 30 dX12_entry_29 rfl ?_
      refine xg_iconst 31 dX12_entry_30 rfl ?_
      refine xg_callV 34 12 [_, _] _ kv_X12_throwsIf ⟨_, _, rfl⟩ kl_RX12_251 dX12_entry_31 rfl (by assumption) (by omega) rfl rfl (Nat.le_of_ble_eq_true rfl) (by omega) ⟨Nat.le_refl _, Nat.le_refl _⟩ (ct_throwsF hw) rfl ?_
      refine xg_ifne 59 37 dX12_entry_34 rfl rfl (by first | omega | exact hR _ | exact ⟨hR _, by omega⟩ | exact ⟨by omega, hR _⟩ | exact ⟨hR _, hR _⟩) (fun hb34 => ?_) (fun hb34 => ?_)
      · exfalso; omega
      · skip
        refine xg_aloadn 38 dX12_entry_37 rfl rfl rfl ?_
        refine xg_iloadn 39 dX12_entry_38 rfl rfl rfl ?_
        refine xg_iconst 40 dX12_entry_39 rfl ?_
        refine xg_iconst 41 dX12_entry_40 rfl ?_
        refine xg_callS 44 [_, _, _] _ ks_X12_in kl_RX12_70 dX12_entry_41 rfl rfl rfl (Nat.le_of_ble_eq_true rfl) (by omega) ⟨Nat.le_refl _, Nat.le_refl _⟩ (ct_X12_in (by omega)) rfl ?_
        refine xg_dne 51 47 dX12_entry_44 rfl rfl (fun hb44 => ?_) (fun hb44 => ?_)
        · first
          | (exfalso; omega)
          | skip
            refine xg_iconst 52 dX12_entry_51 rfl ?_
            refine xg_iconst 53 dX12_entry_52 rfl ?_
            refine xg_callV 56 12 [_, _] _ kv_X12_throwsIf ⟨_, _, rfl⟩ kl_RX12_251 dX12_entry_53 rfl (by assumption) (by omega) rfl rfl (Nat.le_of_ble_eq_true rfl) (by omega) ⟨Nat.le_refl _, Nat.le_refl _⟩ (ct_throwsF hw) rfl ?_
            refine xg_ifeq 61 59 dX12_entry_56 rfl rfl (by first | omega | exact hR _ | exact ⟨hR _, by omega⟩ | exact ⟨by omega, hR _⟩ | exact ⟨hR _, hR _⟩) (fun hb56 => ?_) (fun hb56 => ?_)
            · skip
              exfalso; omega
            · exfalso; omega
        · first
          | (exfalso; omega)
          | skip
            refine xg_iconst 48 dX12_entry_47 rfl ?_
            refine xg_goto 52 dX12_entry_48 rfl ?_
            refine xg_iconst 53 dX12_entry_52 rfl ?_
            refine xg_callV 56 12 [_, _] _ kv_X12_throwsIf ⟨_, _, rfl⟩ kl_RX12_251 dX12_entry_53 rfl (by assumption) (by omega) rfl rfl (Nat.le_of_ble_eq_true rfl) (by omega) ⟨Nat.le_refl _, Nat.le_refl _⟩ (ct_throwsT hw) rfl ?_
            refine xg_ifeq 61 59 dX12_entry_56 rfl rfl (by first | omega | exact hR _ | exact ⟨hR _, by omega⟩ | exact ⟨by omega, hR _⟩ | exact ⟨hR _, hR _⟩) (fun hb56 => ?_) (fun hb56 => ?_)
            · exfalso; omega
            · skip
              refine xg_iconst 60 dX12_entry_59 rfl ?_
              subst hX
              exact xg_ireturn dX12_entry_60 rfl ⟨Nat.le_refl _, Nat.le_refl _⟩ ⟨rfl, by rw [upF_upF]⟩
  · first
    | (exfalso; omega)
    | skip
      refine xg_iloadn 12 dX12_entry_11 rfl rfl rfl ?_
      refine xg_bipush 14 dX12_entry_12 rfl (by decide) ?_
      refine xg_iceq 29 17 dX12_entry_14 rfl rfl (by first | omega | exact hR _ | exact ⟨hR _, by omega⟩ | exact ⟨by omega, hR _⟩ | exact ⟨hR _, hR _⟩) (fun hb14 => ?_) (fun hb14 => ?_)
      · first
        | (exfalso; omega)
        | skip
          refine xg_iconst 30 dX12_entry_29 rfl ?_
          refine xg_iconst 31 dX12_entry_30 rfl ?_
          refine xg_callV 34 12 [_, _] _ kv_X12_throwsIf ⟨_, _, rfl⟩ kl_RX12_251 dX12_entry_31 rfl (by assumption) (by omega) rfl rfl (Nat.le_of_ble_eq_true rfl) (by omega) ⟨Nat.le_refl _, Nat.le_refl _⟩ (ct_throwsF hw) rfl ?_
          refine xg_ifne 59 37 dX12_entry_34 rfl rfl (by first | omega | exact hR _ | exact ⟨hR _, by omega⟩ | exact ⟨by omega, hR _⟩ | exact ⟨hR _, hR _⟩) (fun hb34 => ?_) (fun hb34 => ?_)
          · exfalso; omega
          · skip
            refine xg_aloadn 38 dX12_entry_37 rfl rfl rfl ?_
            refine xg_iloadn 39 dX12_entry_38 rfl rfl rfl ?_
            refine xg_iconst 40 dX12_entry_39 rfl ?_
            refine xg_iconst 41 dX12_entry_40 rfl ?_
            refine xg_callS 44 [_, _, _] _ ks_X12_in kl_RX12_70 dX12_entry_41 rfl rfl rfl (Nat.le_of_ble_eq_true rfl) (by omega) ⟨Nat.le_refl _, Nat.le_refl _⟩ (ct_X12_in (by omega)) rfl ?_
            refine xg_dne 51 47 dX12_entry_44 rfl rfl (fun hb44 => ?_) (fun hb44 => ?_)
            · first
              | (exfalso; omega)
              | skip
                refine xg_iconst 52 dX12_entry_51 rfl ?_
                refine xg_iconst 53 dX12_entry_52 rfl ?_
                refine xg_callV 56 12 [_, _] _ kv_X12_throwsIf ⟨_, _, rfl⟩ kl_RX12_251 dX12_entry_53 rfl (by assumption) (by omega) rfl rfl (Nat.le_of_ble_eq_true rfl) (by omega) ⟨Nat.le_refl _, Nat.le_refl _⟩ (ct_throwsF hw) rfl ?_
                refine xg_ifeq 61 59 dX12_entry_56 rfl rfl (by first | omega | exact hR _ | exact ⟨hR _, by omega⟩ | exact ⟨by omega, hR _⟩ | exact ⟨hR _, hR _⟩) (fun hb56 => ?_) (fun hb56 => ?_)
                · skip
                  exfalso; omega
                · exfalso; omega
            · first
              | (exfalso; omega)
              | skip
                refine xg_iconst 48 dX12_entry_47 rfl ?_
                refine xg_goto 52 dX12_entry_48 rfl ?_
                refine xg_iconst 53 dX12_entry_52 rfl ?_
                refine xg_callV 56 12 [_, _] _ kv_X12_throwsIf ⟨_, _, rfl⟩ kl_RX12_251 dX12_entry_53 rfl (by assumption) (by omega) rfl rfl (Nat.le_of_ble_eq_true rfl) (by omega) ⟨Nat.le_refl _, Nat.le_refl _⟩ (ct_throwsT hw) rfl ?_
                refine xg_ifeq 61 59 dX12_entry_56 rfl rfl (by first | omega | exact hR _ | exact ⟨hR _, by omega⟩ | exact ⟨by omega, hR _⟩ | exact ⟨hR _, hR _⟩) (fun hb56 => ?_) (fun hb56 => ?_)
                · exfalso; omega
                · skip
                  refine xg_iconst 60 dX12_entry_59 rfl ?_
                  subst hX
                  exact xg_ireturn dX12_entry_60 rfl ⟨Nat.le_refl _, Nat.le_refl _⟩ ⟨rfl, by rw [upF_upF]⟩
      · first
        | (exfalso; omega)
        | skip
          refine xg_aloadn 18 dX12_entry_17 rfl rfl rfl ?_
          refine xg_iloadn 19 dX12_entry_18 rfl rfl rfl ?_
          refine xg_callV 22 12 [_] _ kv_X12_noRun ⟨_, _, rfl⟩ kl_RX12_373 dX12_entry_19 rfl (by assumption) (by omega) rfl rfl (Nat.le_of_ble_eq_true rfl) (by omega) ⟨Nat.le_refl _, Nat.le_refl _⟩ (ct_X12_noRun hw o0 (by omega)) rfl ?_
          refine xg_deq 29 25 dX12_entry_22 rfl rfl (fun hb22 => ?_) (fun hb22 => ?_)
          · first
            | (exfalso; omega)
            | skip
              refine xg_iconst 30 dX12_entry_29 rfl ?_
              refine xg_iconst 31 dX12_entry_30 rfl ?_
              refine xg_callV 34 12 [_, _] _ kv_X12_throwsIf ⟨_, _, rfl⟩ kl_RX12_251 dX12_entry_31 rfl (by assumption) (by omega) rfl rfl (Nat.le_of_ble_eq_true rfl) (by omega) ⟨Nat.le_refl _, Nat.le_refl _⟩ (ct_throwsF hw) rfl ?_
              refine xg_ifne 59 37 dX12_entry_34 rfl rfl (by first | omega | exact hR _ | exact ⟨hR _, by omega⟩ | exact ⟨by omega, hR _⟩ | exact ⟨hR _, hR _⟩) (fun hb34 => ?_) (fun hb34 => ?_)
              · exfalso; omega
              · skip
                refine xg_aloadn 38 dX12_entry_37 rfl rfl rfl ?_
                refine xg_iloadn 39 dX12_entry_38 rfl rfl rfl ?_
                refine xg_iconst 40 dX12_entry_39 rfl ?_
                refine xg_iconst 41 dX12_entry_40 rfl ?_
                refine xg_callS 44 [_, _, _] _ ks_X12_in kl_RX12_70 dX12_entry_41 rfl rfl rfl (Nat.le_of_ble_eq_true rfl) (by omega) ⟨Nat.le_refl _, Nat.le_refl _⟩ (ct_X12_in (by omega)) rfl ?_
                refine xg_dne 51 47 dX12_entry_44 rfl rfl (fun hb44 => ?_) (fun hb44 => ?_)
                · first
                  | (exfalso; omega)
                  | skip
                    refine xg_iconst 52 dX12_entry_51 rfl ?_
                    refine xg_iconst 53 dX12_entry_52 rfl ?_
                    refine xg_callV 56 12 [_, _] _ kv_X12_throwsIf ⟨_, _, rfl⟩ kl_RX12_251 dX12_entry_53 rfl (by assumption) (by omega) rfl rfl (Nat.le_of_ble_eq_true rfl) (by omega) ⟨Nat.le_refl _, Nat.le_refl _⟩ (ct_throwsF hw) rfl ?_
                    refine xg_ifeq 61 59 dX12_entry_56 rfl rfl (by first | omega | exact hR _ | exact ⟨hR _, by omega⟩ | exact ⟨by omega, hR _⟩ | exact ⟨hR _, hR _⟩) (fun hb56 => ?_) (fun hb56 => ?_)
                    · skip
                      exfalso; omega
                    · exfalso; omega
                · first
                  | (exfalso; omega)
                  | skip
                    refine xg_iconst 48 dX12_entry_47 rfl ?_
                    refine xg_goto 52 dX12_entry_48 rfl ?_
                    refine xg_iconst 53 dX12_entry_52 rfl ?_
                    refine xg_callV 56 12 [_, _] _ kv_X12_throwsIf ⟨_, _, rfl⟩ kl_RX12_251 dX12_entry_53 rfl (by assumption) (by omega) rfl rfl (Nat.le_of_ble_eq_true rfl) (by omega) ⟨Nat.le_refl _, Nat.le_refl _⟩ (ct_throwsT hw) rfl ?_
                    refine xg_ifeq 61 59 dX12_entry_56 rfl rfl (by first | omega | exact hR _ | exact ⟨hR _, by omega⟩ | exact ⟨by omega, hR _⟩ | exact ⟨hR _, hR _⟩) (fun hb56 => ?_) (fun hb56 => ?_)
                    · exfalso; omega
                    · skip
                      refine xg_iconst 60 dX12_entry_59 rfl ?_
                      subst hX
                      exact xg_ireturn dX12_entry_60 rfl ⟨Nat.le_refl _, Nat.le_refl _⟩ ⟨rfl, by rw [upF_upF]⟩
          · first
            | (exfalso; omega)
            | skip
              refine xg_iconst 26 dX12_entry_25 rfl ?_
              refine xg_goto 30 dX12_entry_26 rfl ?_
              refine xg_iconst 31 dX12_entry_30 rfl ?_
              refine xg_callV 34 12 [_, _] _ kv_X12_throwsIf ⟨_, _, rfl⟩ kl_RX12_251 dX12_entry_31 rfl (by assumption) (by omega) rfl rfl (Nat.le_of_ble_eq_true rfl) (by omega) ⟨Nat.le_refl _, Nat.le_refl _⟩ (ct_throwsT hw) rfl ?_
              refine xg_ifne 59 37 dX12_entry_34 rfl rfl (by first | omega | exact hR _ | exact ⟨hR _, by omega⟩ | exact ⟨by omega, hR _⟩ | exact ⟨hR _, hR _⟩) (fun hb34 => ?_) (fun hb34 => ?_)
              · skip
                refine xg_iconst 60 dX12_entry_59 rfl ?_
                subst hX
                exact xg_ireturn dX12_entry_60 rfl ⟨Nat.le_refl _, Nat.le_refl _⟩ ⟨rfl, by rw [upF_upF]⟩
              · exfalso; omega

set_option maxHeartbeats 4000000 in
set_option maxRecDepth 100000 in
theorem ct_X12_entry {E : xE} {z : Nat} {T : Nat → Nat × Int} {F : Nat → Nat → Int} {I : Nat → Int → Int} {P : Nat → Nat → Option Nat} {Y : Nat → Int → Option Nat} {m : Nat} {w : Int → Int} (hw : wM T P m) (hO : wOk w){v kk y : Int} (hv : -2147483648 ≤ v ∧ v < 2147483648) (hkk : -2147483648 ≤ kk ∧ kk < 2147483648) (hy : -2147483648 ≤ y ∧ y < 2147483648) (hb : (v = -1 ∨ v = 99 ∨ (0 ≤ v ∧ v < w 0)) ∧ 0 ≤ y ∧ y ≤ 2) : Ct E 2 mX12_entry 0 0 [.ref m, J v, J kk, J y] (z, T, F, upA I (m + 1) w, P, Y) (xd (some (J (sEntA w v kk y))) (z, T, upF F m 0 0, upA I (m + 1) (w), P, Y)) := by
  obtain ⟨⟨q0, q1, q2, q3⟩, -⟩ := id hw
  obtain ⟨hR, o0, o1, o2, o3, o4, o5, o6, oc, o13, o14, o16, o17, o18, ov⟩ := id hO
  have hN := wN_i o0.1
  refine Ct.of [some (.ref m), some (J v), some (J kk), some (J y), none, none, none] kt_X12_entry rfl (Nat.le_of_ble_eq_true rfl) rfl (fun d hd => ?_)
  generalize hX : xN E _ _ _ = X
  refine xg_aloadn 1 dX12_entry_0 rfl rfl rfl ?_
  refine xg_iconst 2 dX12_entry_1 rfl ?_
  refine xg_putI 5 kf_RX12_3 dX12_entry_2 rfl (by assumption) ?_
  refine xg_aloadn 6 dX12_entry_5 rfl rfl rfl ?_
  refine xg_iloadn 7 dX12_entry_6 rfl rfl rfl ?_
  refine xg_iconst 8 dX12_entry_7 rfl ?_
  refine xg_iceq 29 11 dX12_entry_8 rfl rfl (by first | omega | exact hR _ | exact ⟨hR _, by omega⟩ | exact ⟨by omega, hR _⟩ | exact ⟨hR _, hR _⟩) (fun hb8 => ?_) (fun hb8 => ?_)
  · first
    | (exfalso; omega)
    | skip
      refine xg_iconst 30 dX12_entry_29 rfl ?_
      refine xg_iconst 31 dX12_entry_30 rfl ?_
      refine xg_callV 34 12 [_, _] _ kv_X12_throwsIf ⟨_, _, rfl⟩ kl_RX12_251 dX12_entry_31 rfl (by assumption) (by omega) rfl rfl (Nat.le_of_ble_eq_true rfl) (by omega) ⟨Nat.le_refl _, Nat.le_refl _⟩ (ct_throwsF hw) rfl ?_
      refine xg_ifne 59 37 dX12_entry_34 rfl rfl (by first | omega | exact hR _ | exact ⟨hR _, by omega⟩ | exact ⟨by omega, hR _⟩ | exact ⟨hR _, hR _⟩) (fun hb34 => ?_) (fun hb34 => ?_)
      · exfalso; omega
      · skip
        refine xg_aloadn 38 dX12_entry_37 rfl rfl rfl ?_
        refine xg_iloadn 39 dX12_entry_38 rfl rfl rfl ?_
        refine xg_iconst 40 dX12_entry_39 rfl ?_
        refine xg_iconst 41 dX12_entry_40 rfl ?_
        refine xg_callS 44 [_, _, _] _ ks_X12_in kl_RX12_70 dX12_entry_41 rfl rfl rfl (Nat.le_of_ble_eq_true rfl) (by omega) ⟨Nat.le_refl _, Nat.le_refl _⟩ (ct_X12_in (by omega)) rfl ?_
        refine xg_dne 51 47 dX12_entry_44 rfl rfl (fun hb44 => ?_) (fun hb44 => ?_)
        · first
          | (exfalso; omega)
          | skip
            refine xg_iconst 52 dX12_entry_51 rfl ?_
            refine xg_iconst 53 dX12_entry_52 rfl ?_
            refine xg_callV 56 12 [_, _] _ kv_X12_throwsIf ⟨_, _, rfl⟩ kl_RX12_251 dX12_entry_53 rfl (by assumption) (by omega) rfl rfl (Nat.le_of_ble_eq_true rfl) (by omega) ⟨Nat.le_refl _, Nat.le_refl _⟩ (ct_throwsF hw) rfl ?_
            refine xg_ifeq 61 59 dX12_entry_56 rfl rfl (by first | omega | exact hR _ | exact ⟨hR _, by omega⟩ | exact ⟨by omega, hR _⟩ | exact ⟨hR _, hR _⟩) (fun hb56 => ?_) (fun hb56 => ?_)
            · skip
              refine xg_iloadn 62 dX12_entry_61 rfl rfl rfl ?_
              refine xg_iconst 63 dX12_entry_62 rfl ?_
              refine xg_join2 86 (fun u => u = sRw v) ?_ ?_
              · intro x hx
                have hx9 : x = sRw v := hx
                subst hx9
                have hrb : 19 ≤ sRw v ∧ sRw v + 120 ≤ 1663 := by unfold sRw; split <;> (try split) <;> omega
                refine xg_istore 88 _ dX12_entry_86 rfl rfl (by decide) (Or.inr rfl) ?_
                refine xg_iloadn 89 dX12_entry_88 rfl rfl rfl ?_
                refine xg_istore 91 _ dX12_entry_89 rfl rfl (by decide) (Or.inr rfl) ?_
                refine xg_iconst 92 dX12_entry_91 rfl ?_
                refine xg_istore 94 _ dX12_entry_92 rfl rfl (by decide) (Or.inr rfl) ?_
                have loop94 : ∀ (mm : Nat) (left key : Int) (j : Nat), (-2147483648 ≤ left ∧ left < 2147483648) → (key + j = 60 ∧ 0 ≤ key) → sKey (fun j => w (sRw v + j)) j key left = sKey (fun j => w (sRw v + j)) 60 0 kk → (j : Int) < (mm : Int) → xG E mX12_entry (xR d 0 0) X 94 [some (.ref m), some (J v), some (J kk), some (J y), some (J (sRw v)), some (J left), some (J key)] [] (z, T, upF F m 0 0, upA I (m + 1) w, P, Y) 0 0 := by
                  intro mm
                  induction mm with
                  | zero => intro left key j hl hj he hm; exfalso; omega
                  | succ mm ih =>
                    intro left key j hl hj he hm
                    refine xg_iload 96 dX12_entry_94 rfl rfl ?_
                    refine xg_bipush 98 dX12_entry_96 rfl (by decide) ?_
                    refine xg_icge 187 101 dX12_entry_98 rfl rfl (by first | omega | exact hR _ | exact ⟨hR _, by omega⟩ | exact ⟨by omega, hR _⟩ | exact ⟨hR _, hR _⟩) (fun hb98 => ?_) (fun hb98 => ?_)
                    · skip
                      refine xg_iconst 188 dX12_entry_187 rfl ?_
                      subst hX
                      refine xg_ireturn dX12_entry_188 rfl ⟨Nat.le_refl _, Nat.le_refl _⟩ ?_
                      refine ⟨?_, rfl⟩
                      have hkf : sKey (fun j => w (sRw v + j)) 60 0 kk = -1 := by
                        rw [← he]
                        cases j with
                        | zero => rfl
                        | succ j => rw [sKey, if_pos (by omega)]
                      unfold sEntA sEntK; rw [hkf, if_pos rfl]
                    · skip
                      refine xg_iload 103 dX12_entry_101 rfl rfl ?_
                      refine xg_iflt 187 106 dX12_entry_103 rfl rfl (by first | omega | exact hR _ | exact ⟨hR _, by omega⟩ | exact ⟨by omega, hR _⟩ | exact ⟨hR _, hR _⟩) (fun hb103 => ?_) (fun hb103 => ?_)
                      · skip
                        refine xg_iconst 188 dX12_entry_187 rfl ?_
                        subst hX
                        refine xg_ireturn dX12_entry_188 rfl ⟨Nat.le_refl _, Nat.le_refl _⟩ ?_
                        refine ⟨?_, rfl⟩
                        have hkf : sKey (fun j => w (sRw v + j)) 60 0 kk = -1 := by
                          rw [← he]
                          cases j with
                          | zero => rfl
                          | succ j => rw [sKey, if_pos (by omega)]
                        unfold sEntA sEntK; rw [hkf, if_pos rfl]
                      · skip
                        refine xg_aloadn 107 dX12_entry_106 rfl rfl rfl ?_
                        refine xg_getP 110 kf_RX12_13 dX12_entry_107 rfl (by assumption) (by assumption) ?_
                        refine xg_iload 112 dX12_entry_110 rfl rfl ?_
                        refine xg_iload 114 dX12_entry_112 rfl rfl ?_
                        refine xg_iadd 115 dX12_entry_114 rfl ?_
                        refine xg_ialdW 116 dX12_entry_115 rfl (by assumption) (by first | omega | exact hR _ | exact ⟨hR _, by omega⟩ | exact ⟨by omega, hR _⟩ | exact ⟨hR _, hR _⟩) ?_
                        refine xg_iconst 117 dX12_entry_116 rfl ?_
                        refine xg_icne 123 120 dX12_entry_117 rfl rfl (by first | omega | exact hR _ | exact ⟨hR _, by omega⟩ | exact ⟨by omega, hR _⟩ | exact ⟨hR _, hR _⟩) (fun hb117 => ?_) (fun hb117 => ?_)
                        · skip
                          refine xg_iload 125 dX12_entry_123 rfl rfl ?_
                          refine xg_ifne 178 128 dX12_entry_125 rfl rfl (by first | omega | exact hR _ | exact ⟨hR _, by omega⟩ | exact ⟨by omega, hR _⟩ | exact ⟨hR _, hR _⟩) (fun hb125 => ?_) (fun hb125 => ?_)
                          · skip
                            refine xg_iinc 181 _ dX12_entry_178 rfl rfl rfl rfl (by decide) (Or.inr rfl) ?_
                            refine xg_iinc 184 _ dX12_entry_181 rfl rfl rfl rfl (by decide) (Or.inr rfl) ?_
                            refine xg_goto 94 dX12_entry_184 rfl ?_
                            obtain ⟨j, rfl⟩ : ∃ j2, j = j2 + 1 := ⟨j - 1, by omega⟩
                            exact xg_weak _ (xle_s rfl (xle_s rfl (xle_s rfl (xle_s rfl (xle_s rfl (xle_s rfl (xle_s rfl xle_0))))))) (ih (left + -1) (key + 1) j (by omega) (by omega) (by rw [← he, sKey, if_neg (by omega), if_neg hb117, if_neg hb125]; rfl) (by omega))
                          · skip
                            refine xg_iloadn 129 dX12_entry_128 rfl rfl rfl ?_
                            refine xg_ifne 137 132 dX12_entry_129 rfl rfl (by first | omega | exact hR _ | exact ⟨hR _, by omega⟩ | exact ⟨by omega, hR _⟩ | exact ⟨hR _, hR _⟩) (fun hb129 => ?_) (fun hb129 => ?_)
                            · skip
                              refine xg_iloadn 138 dX12_entry_137 rfl rfl rfl ?_
                              refine xg_iconst 139 dX12_entry_138 rfl ?_
                              refine xg_icne 155 142 dX12_entry_139 rfl rfl (by first | omega | exact hR _ | exact ⟨hR _, by omega⟩ | exact ⟨by omega, hR _⟩ | exact ⟨hR _, hR _⟩) (fun hb139 => ?_) (fun hb139 => ?_)
                              · skip
                                refine xg_iloadn 156 dX12_entry_155 rfl rfl rfl ?_
                                refine xg_iconst 157 dX12_entry_156 rfl ?_
                                refine xg_icne 164 160 dX12_entry_157 rfl rfl (by first | omega | exact hR _ | exact ⟨hR _, by omega⟩ | exact ⟨by omega, hR _⟩ | exact ⟨hR _, hR _⟩) (fun hb157 => ?_) (fun hb157 => ?_)
                                · skip
                                  refine xg_aloadn 165 dX12_entry_164 rfl rfl rfl ?_
                                  refine xg_getP 168 kf_RX12_13 dX12_entry_165 rfl (by assumption) (by assumption) ?_
                                  refine xg_iload 170 dX12_entry_168 rfl rfl ?_
                                  refine xg_bipush 172 dX12_entry_170 rfl (by decide) ?_
                                  refine xg_iadd 173 dX12_entry_172 rfl ?_
                                  refine xg_iload 175 dX12_entry_173 rfl rfl ?_
                                  refine xg_iadd 176 dX12_entry_175 rfl ?_
                                  refine xg_ialdW 177 dX12_entry_176 rfl (by assumption) (by first | omega | exact hR _ | exact ⟨hR _, by omega⟩ | exact ⟨by omega, hR _⟩ | exact ⟨hR _, hR _⟩) ?_
                                  subst hX
                                  refine xg_ireturn dX12_entry_177 rfl ⟨Nat.le_refl _, Nat.le_refl _⟩ ?_
                                  obtain ⟨j, rfl⟩ : ∃ j2, j = j2 + 1 := ⟨j - 1, by omega⟩
                                  have hkf : sKey (fun j => w (sRw v + j)) 60 0 kk = key := by rw [← he, sKey, if_neg (by omega), if_neg hb117, if_pos hb125]
                                  exact ⟨by unfold sEntA sEntK; rw [hkf, if_neg (by omega), if_neg (by omega), if_neg (by omega), if_neg (by omega)], rfl⟩
                                · skip
                                  refine xg_iconst 161 dX12_entry_160 rfl ?_
                                  refine xg_goto 177 dX12_entry_161 rfl ?_
                                  subst hX
                                  refine xg_ireturn dX12_entry_177 rfl ⟨Nat.le_refl _, Nat.le_refl _⟩ ?_
                                  obtain ⟨j, rfl⟩ : ∃ j2, j = j2 + 1 := ⟨j - 1, by omega⟩
                                  have hkf : sKey (fun j => w (sRw v + j)) 60 0 kk = key := by rw [← he, sKey, if_neg (by omega), if_neg hb117, if_pos hb125]
                                  exact ⟨by unfold sEntA sEntK; rw [hkf, if_neg (by omega), if_neg (by omega), if_neg (by omega), if_pos (by omega)], rfl⟩
                              · skip
                                refine xg_aloadn 143 dX12_entry_142 rfl rfl rfl ?_
                                refine xg_getP 146 kf_RX12_13 dX12_entry_143 rfl (by assumption) (by assumption) ?_
                                refine xg_iload 148 dX12_entry_146 rfl rfl ?_
                                refine xg_iload 150 dX12_entry_148 rfl rfl ?_
                                refine xg_iadd 151 dX12_entry_150 rfl ?_
                                refine xg_ialdW 152 dX12_entry_151 rfl (by assumption) (by first | omega | exact hR _ | exact ⟨hR _, by omega⟩ | exact ⟨by omega, hR _⟩ | exact ⟨hR _, hR _⟩) ?_
                                refine xg_goto 177 dX12_entry_152 rfl ?_
                                subst hX
                                refine xg_ireturn dX12_entry_177 rfl ⟨Nat.le_refl _, Nat.le_refl _⟩ ?_
                                obtain ⟨j, rfl⟩ : ∃ j2, j = j2 + 1 := ⟨j - 1, by omega⟩
                                have hkf : sKey (fun j => w (sRw v + j)) 60 0 kk = key := by rw [← he, sKey, if_neg (by omega), if_neg hb117, if_pos hb125]
                                exact ⟨by unfold sEntA sEntK; rw [hkf, if_neg (by omega), if_neg (by omega), if_pos (by omega)], rfl⟩
                            · skip
                              refine xg_iload 134 dX12_entry_132 rfl rfl ?_
                              refine xg_goto 177 dX12_entry_134 rfl ?_
                              subst hX
                              refine xg_ireturn dX12_entry_177 rfl ⟨Nat.le_refl _, Nat.le_refl _⟩ ?_
                              obtain ⟨j, rfl⟩ : ∃ j2, j = j2 + 1 := ⟨j - 1, by omega⟩
                              have hkf : sKey (fun j => w (sRw v + j)) 60 0 kk = key := by rw [← he, sKey, if_neg (by omega), if_neg hb117, if_pos hb125]
                              exact ⟨by unfold sEntA sEntK; rw [hkf, if_neg (by omega), if_pos (by omega)], rfl⟩
                        · skip
                          refine xg_goto 181 dX12_entry_120 rfl ?_
                          refine xg_iinc 184 _ dX12_entry_181 rfl rfl rfl rfl (by decide) (Or.inr rfl) ?_
                          refine xg_goto 94 dX12_entry_184 rfl ?_
                          obtain ⟨j, rfl⟩ : ∃ j2, j = j2 + 1 := ⟨j - 1, by omega⟩
                          exact xg_weak _ (xle_s rfl (xle_s rfl (xle_s rfl (xle_s rfl (xle_s rfl (xle_s rfl (xle_s rfl xle_0))))))) (ih left (key + 1) j hl (by omega) (by rw [← he, sKey, if_neg (by omega), if_pos (by omega)]) (by omega))
                exact xg_weak _ (xle_s rfl (xle_s rfl (xle_s rfl (xle_s rfl (xle_s rfl (xle_s rfl (xle_s rfl xle_0))))))) (loop94 100 kk 0 60 hkk (by omega) rfl (by omega))
              · intro hj
                refine xg_icne 71 66 dX12_entry_63 rfl rfl (by first | omega | exact hR _ | exact ⟨hR _, by omega⟩ | exact ⟨by omega, hR _⟩ | exact ⟨hR _, hR _⟩) (fun hb63 => ?_) (fun hb63 => ?_)
                · skip
                  refine xg_iloadn 72 dX12_entry_71 rfl rfl rfl ?_
                  refine xg_bipush 74 dX12_entry_72 rfl (by decide) ?_
                  refine xg_icne 82 77 dX12_entry_74 rfl rfl (by first | omega | exact hR _ | exact ⟨hR _, by omega⟩ | exact ⟨by omega, hR _⟩ | exact ⟨hR _, hR _⟩) (fun hb74 => ?_) (fun hb74 => ?_)
                  · skip
                    refine xg_iloadn 83 dX12_entry_82 rfl rfl rfl ?_
                    refine xg_callS 86 [_] _ ks_X12_rowOf kl_RX12_133 dX12_entry_83 rfl rfl rfl (Nat.le_of_ble_eq_true rfl) (by omega) ⟨Nat.le_refl _, Nat.le_refl _⟩ (ct_X12_rowOf) rfl ?_
                    first | (exfalso; omega) | exact hj _ (by unfold sRw; first | rw [if_pos (by omega)] | rw [if_neg (by omega), if_pos (by omega)] | rw [if_neg (by omega), if_neg (by omega)])
                  · skip
                    refine xg_bipush 79 dX12_entry_77 rfl (by decide) ?_
                    refine xg_goto 86 dX12_entry_79 rfl ?_
                    first | (exfalso; omega) | exact hj _ (by unfold sRw; first | rw [if_pos (by omega)] | rw [if_neg (by omega), if_pos (by omega)] | rw [if_neg (by omega), if_neg (by omega)])
                · skip
                  refine xg_bipush 68 dX12_entry_66 rfl (by decide) ?_
                  refine xg_goto 86 dX12_entry_68 rfl ?_
                  first | (exfalso; omega) | exact hj _ (by unfold sRw; first | rw [if_pos (by omega)] | rw [if_neg (by omega), if_pos (by omega)] | rw [if_neg (by omega), if_neg (by omega)])
            · exfalso; omega
        · first
          | (exfalso; omega)
          | skip
            refine xg_iconst 48 dX12_entry_47 rfl ?_
            refine xg_goto 52 dX12_entry_48 rfl ?_
            refine xg_iconst 53 dX12_entry_52 rfl ?_
            refine xg_callV 56 12 [_, _] _ kv_X12_throwsIf ⟨_, _, rfl⟩ kl_RX12_251 dX12_entry_53 rfl (by assumption) (by omega) rfl rfl (Nat.le_of_ble_eq_true rfl) (by omega) ⟨Nat.le_refl _, Nat.le_refl _⟩ (ct_throwsT hw) rfl ?_
            refine xg_ifeq 61 59 dX12_entry_56 rfl rfl (by first | omega | exact hR _ | exact ⟨hR _, by omega⟩ | exact ⟨by omega, hR _⟩ | exact ⟨hR _, hR _⟩) (fun hb56 => ?_) (fun hb56 => ?_)
            · exfalso; omega
            · skip
              exfalso; omega
  · first
    | (exfalso; omega)
    | skip
      refine xg_iloadn 12 dX12_entry_11 rfl rfl rfl ?_
      refine xg_bipush 14 dX12_entry_12 rfl (by decide) ?_
      refine xg_iceq 29 17 dX12_entry_14 rfl rfl (by first | omega | exact hR _ | exact ⟨hR _, by omega⟩ | exact ⟨by omega, hR _⟩ | exact ⟨hR _, hR _⟩) (fun hb14 => ?_) (fun hb14 => ?_)
      · first
        | (exfalso; omega)
        | skip
          refine xg_iconst 30 dX12_entry_29 rfl ?_
          refine xg_iconst 31 dX12_entry_30 rfl ?_
          refine xg_callV 34 12 [_, _] _ kv_X12_throwsIf ⟨_, _, rfl⟩ kl_RX12_251 dX12_entry_31 rfl (by assumption) (by omega) rfl rfl (Nat.le_of_ble_eq_true rfl) (by omega) ⟨Nat.le_refl _, Nat.le_refl _⟩ (ct_throwsF hw) rfl ?_
          refine xg_ifne 59 37 dX12_entry_34 rfl rfl (by first | omega | exact hR _ | exact ⟨hR _, by omega⟩ | exact ⟨by omega, hR _⟩ | exact ⟨hR _, hR _⟩) (fun hb34 => ?_) (fun hb34 => ?_)
          · exfalso; omega
          · skip
            refine xg_aloadn 38 dX12_entry_37 rfl rfl rfl ?_
            refine xg_iloadn 39 dX12_entry_38 rfl rfl rfl ?_
            refine xg_iconst 40 dX12_entry_39 rfl ?_
            refine xg_iconst 41 dX12_entry_40 rfl ?_
            refine xg_callS 44 [_, _, _] _ ks_X12_in kl_RX12_70 dX12_entry_41 rfl rfl rfl (Nat.le_of_ble_eq_true rfl) (by omega) ⟨Nat.le_refl _, Nat.le_refl _⟩ (ct_X12_in (by omega)) rfl ?_
            refine xg_dne 51 47 dX12_entry_44 rfl rfl (fun hb44 => ?_) (fun hb44 => ?_)
            · first
              | (exfalso; omega)
              | skip
                refine xg_iconst 52 dX12_entry_51 rfl ?_
                refine xg_iconst 53 dX12_entry_52 rfl ?_
                refine xg_callV 56 12 [_, _] _ kv_X12_throwsIf ⟨_, _, rfl⟩ kl_RX12_251 dX12_entry_53 rfl (by assumption) (by omega) rfl rfl (Nat.le_of_ble_eq_true rfl) (by omega) ⟨Nat.le_refl _, Nat.le_refl _⟩ (ct_throwsF hw) rfl ?_
                refine xg_ifeq 61 59 dX12_entry_56 rfl rfl (by first | omega | exact hR _ | exact ⟨hR _, by omega⟩ | exact ⟨by omega, hR _⟩ | exact ⟨hR _, hR _⟩) (fun hb56 => ?_) (fun hb56 => ?_)
                · skip
                  refine xg_iloadn 62 dX12_entry_61 rfl rfl rfl ?_
                  refine xg_iconst 63 dX12_entry_62 rfl ?_
                  refine xg_join2 86 (fun u => u = sRw v) ?_ ?_
                  · intro x hx
                    have hx9 : x = sRw v := hx
                    subst hx9
                    have hrb : 19 ≤ sRw v ∧ sRw v + 120 ≤ 1663 := by unfold sRw; split <;> (try split) <;> omega
                    refine xg_istore 88 _ dX12_entry_86 rfl rfl (by decide) (Or.inr rfl) ?_
                    refine xg_iloadn 89 dX12_entry_88 rfl rfl rfl ?_
                    refine xg_istore 91 _ dX12_entry_89 rfl rfl (by decide) (Or.inr rfl) ?_
                    refine xg_iconst 92 dX12_entry_91 rfl ?_
                    refine xg_istore 94 _ dX12_entry_92 rfl rfl (by decide) (Or.inr rfl) ?_
                    have loop94 : ∀ (mm : Nat) (left key : Int) (j : Nat), (-2147483648 ≤ left ∧ left < 2147483648) → (key + j = 60 ∧ 0 ≤ key) → sKey (fun j => w (sRw v + j)) j key left = sKey (fun j => w (sRw v + j)) 60 0 kk → (j : Int) < (mm : Int) → xG E mX12_entry (xR d 0 0) X 94 [some (.ref m), some (J v), some (J kk), some (J y), some (J (sRw v)), some (J left), some (J key)] [] (z, T, upF F m 0 0, upA I (m + 1) w, P, Y) 0 0 := by
                      intro mm
                      induction mm with
                      | zero => intro left key j hl hj he hm; exfalso; omega
                      | succ mm ih =>
                        intro left key j hl hj he hm
                        refine xg_iload 96 dX12_entry_94 rfl rfl ?_
                        refine xg_bipush 98 dX12_entry_96 rfl (by decide) ?_
                        refine xg_icge 187 101 dX12_entry_98 rfl rfl (by first | omega | exact hR _ | exact ⟨hR _, by omega⟩ | exact ⟨by omega, hR _⟩ | exact ⟨hR _, hR _⟩) (fun hb98 => ?_) (fun hb98 => ?_)
                        · skip
                          refine xg_iconst 188 dX12_entry_187 rfl ?_
                          subst hX
                          refine xg_ireturn dX12_entry_188 rfl ⟨Nat.le_refl _, Nat.le_refl _⟩ ?_
                          refine ⟨?_, rfl⟩
                          have hkf : sKey (fun j => w (sRw v + j)) 60 0 kk = -1 := by
                            rw [← he]
                            cases j with
                            | zero => rfl
                            | succ j => rw [sKey, if_pos (by omega)]
                          unfold sEntA sEntK; rw [hkf, if_pos rfl]
                        · skip
                          refine xg_iload 103 dX12_entry_101 rfl rfl ?_
                          refine xg_iflt 187 106 dX12_entry_103 rfl rfl (by first | omega | exact hR _ | exact ⟨hR _, by omega⟩ | exact ⟨by omega, hR _⟩ | exact ⟨hR _, hR _⟩) (fun hb103 => ?_) (fun hb103 => ?_)
                          · skip
                            refine xg_iconst 188 dX12_entry_187 rfl ?_
                            subst hX
                            refine xg_ireturn dX12_entry_188 rfl ⟨Nat.le_refl _, Nat.le_refl _⟩ ?_
                            refine ⟨?_, rfl⟩
                            have hkf : sKey (fun j => w (sRw v + j)) 60 0 kk = -1 := by
                              rw [← he]
                              cases j with
                              | zero => rfl
                              | succ j => rw [sKey, if_pos (by omega)]
                            unfold sEntA sEntK; rw [hkf, if_pos rfl]
                          · skip
                            refine xg_aloadn 107 dX12_entry_106 rfl rfl rfl ?_
                            refine xg_getP 110 kf_RX12_13 dX12_entry_107 rfl (by assumption) (by assumption) ?_
                            refine xg_iload 112 dX12_entry_110 rfl rfl ?_
                            refine xg_iload 114 dX12_entry_112 rfl rfl ?_
                            refine xg_iadd 115 dX12_entry_114 rfl ?_
                            refine xg_ialdW 116 dX12_entry_115 rfl (by assumption) (by first | omega | exact hR _ | exact ⟨hR _, by omega⟩ | exact ⟨by omega, hR _⟩ | exact ⟨hR _, hR _⟩) ?_
                            refine xg_iconst 117 dX12_entry_116 rfl ?_
                            refine xg_icne 123 120 dX12_entry_117 rfl rfl (by first | omega | exact hR _ | exact ⟨hR _, by omega⟩ | exact ⟨by omega, hR _⟩ | exact ⟨hR _, hR _⟩) (fun hb117 => ?_) (fun hb117 => ?_)
                            · skip
                              refine xg_iload 125 dX12_entry_123 rfl rfl ?_
                              refine xg_ifne 178 128 dX12_entry_125 rfl rfl (by first | omega | exact hR _ | exact ⟨hR _, by omega⟩ | exact ⟨by omega, hR _⟩ | exact ⟨hR _, hR _⟩) (fun hb125 => ?_) (fun hb125 => ?_)
                              · skip
                                refine xg_iinc 181 _ dX12_entry_178 rfl rfl rfl rfl (by decide) (Or.inr rfl) ?_
                                refine xg_iinc 184 _ dX12_entry_181 rfl rfl rfl rfl (by decide) (Or.inr rfl) ?_
                                refine xg_goto 94 dX12_entry_184 rfl ?_
                                obtain ⟨j, rfl⟩ : ∃ j2, j = j2 + 1 := ⟨j - 1, by omega⟩
                                exact xg_weak _ (xle_s rfl (xle_s rfl (xle_s rfl (xle_s rfl (xle_s rfl (xle_s rfl (xle_s rfl xle_0))))))) (ih (left + -1) (key + 1) j (by omega) (by omega) (by rw [← he, sKey, if_neg (by omega), if_neg hb117, if_neg hb125]; rfl) (by omega))
                              · skip
                                refine xg_iloadn 129 dX12_entry_128 rfl rfl rfl ?_
                                refine xg_ifne 137 132 dX12_entry_129 rfl rfl (by first | omega | exact hR _ | exact ⟨hR _, by omega⟩ | exact ⟨by omega, hR _⟩ | exact ⟨hR _, hR _⟩) (fun hb129 => ?_) (fun hb129 => ?_)
                                · skip
                                  refine xg_iloadn 138 dX12_entry_137 rfl rfl rfl ?_
                                  refine xg_iconst 139 dX12_entry_138 rfl ?_
                                  refine xg_icne 155 142 dX12_entry_139 rfl rfl (by first | omega | exact hR _ | exact ⟨hR _, by omega⟩ | exact ⟨by omega, hR _⟩ | exact ⟨hR _, hR _⟩) (fun hb139 => ?_) (fun hb139 => ?_)
                                  · skip
                                    refine xg_iloadn 156 dX12_entry_155 rfl rfl rfl ?_
                                    refine xg_iconst 157 dX12_entry_156 rfl ?_
                                    refine xg_icne 164 160 dX12_entry_157 rfl rfl (by first | omega | exact hR _ | exact ⟨hR _, by omega⟩ | exact ⟨by omega, hR _⟩ | exact ⟨hR _, hR _⟩) (fun hb157 => ?_) (fun hb157 => ?_)
                                    · skip
                                      refine xg_aloadn 165 dX12_entry_164 rfl rfl rfl ?_
                                      refine xg_getP 168 kf_RX12_13 dX12_entry_165 rfl (by assumption) (by assumption) ?_
                                      refine xg_iload 170 dX12_entry_168 rfl rfl ?_
                                      refine xg_bipush 172 dX12_entry_170 rfl (by decide) ?_
                                      refine xg_iadd 173 dX12_entry_172 rfl ?_
                                      refine xg_iload 175 dX12_entry_173 rfl rfl ?_
                                      refine xg_iadd 176 dX12_entry_175 rfl ?_
                                      refine xg_ialdW 177 dX12_entry_176 rfl (by assumption) (by first | omega | exact hR _ | exact ⟨hR _, by omega⟩ | exact ⟨by omega, hR _⟩ | exact ⟨hR _, hR _⟩) ?_
                                      subst hX
                                      refine xg_ireturn dX12_entry_177 rfl ⟨Nat.le_refl _, Nat.le_refl _⟩ ?_
                                      obtain ⟨j, rfl⟩ : ∃ j2, j = j2 + 1 := ⟨j - 1, by omega⟩
                                      have hkf : sKey (fun j => w (sRw v + j)) 60 0 kk = key := by rw [← he, sKey, if_neg (by omega), if_neg hb117, if_pos hb125]
                                      exact ⟨by unfold sEntA sEntK; rw [hkf, if_neg (by omega), if_neg (by omega), if_neg (by omega), if_neg (by omega)], rfl⟩
                                    · skip
                                      refine xg_iconst 161 dX12_entry_160 rfl ?_
                                      refine xg_goto 177 dX12_entry_161 rfl ?_
                                      subst hX
                                      refine xg_ireturn dX12_entry_177 rfl ⟨Nat.le_refl _, Nat.le_refl _⟩ ?_
                                      obtain ⟨j, rfl⟩ : ∃ j2, j = j2 + 1 := ⟨j - 1, by omega⟩
                                      have hkf : sKey (fun j => w (sRw v + j)) 60 0 kk = key := by rw [← he, sKey, if_neg (by omega), if_neg hb117, if_pos hb125]
                                      exact ⟨by unfold sEntA sEntK; rw [hkf, if_neg (by omega), if_neg (by omega), if_neg (by omega), if_pos (by omega)], rfl⟩
                                  · skip
                                    refine xg_aloadn 143 dX12_entry_142 rfl rfl rfl ?_
                                    refine xg_getP 146 kf_RX12_13 dX12_entry_143 rfl (by assumption) (by assumption) ?_
                                    refine xg_iload 148 dX12_entry_146 rfl rfl ?_
                                    refine xg_iload 150 dX12_entry_148 rfl rfl ?_
                                    refine xg_iadd 151 dX12_entry_150 rfl ?_
                                    refine xg_ialdW 152 dX12_entry_151 rfl (by assumption) (by first | omega | exact hR _ | exact ⟨hR _, by omega⟩ | exact ⟨by omega, hR _⟩ | exact ⟨hR _, hR _⟩) ?_
                                    refine xg_goto 177 dX12_entry_152 rfl ?_
                                    subst hX
                                    refine xg_ireturn dX12_entry_177 rfl ⟨Nat.le_refl _, Nat.le_refl _⟩ ?_
                                    obtain ⟨j, rfl⟩ : ∃ j2, j = j2 + 1 := ⟨j - 1, by omega⟩
                                    have hkf : sKey (fun j => w (sRw v + j)) 60 0 kk = key := by rw [← he, sKey, if_neg (by omega), if_neg hb117, if_pos hb125]
                                    exact ⟨by unfold sEntA sEntK; rw [hkf, if_neg (by omega), if_neg (by omega), if_pos (by omega)], rfl⟩
                                · skip
                                  refine xg_iload 134 dX12_entry_132 rfl rfl ?_
                                  refine xg_goto 177 dX12_entry_134 rfl ?_
                                  subst hX
                                  refine xg_ireturn dX12_entry_177 rfl ⟨Nat.le_refl _, Nat.le_refl _⟩ ?_
                                  obtain ⟨j, rfl⟩ : ∃ j2, j = j2 + 1 := ⟨j - 1, by omega⟩
                                  have hkf : sKey (fun j => w (sRw v + j)) 60 0 kk = key := by rw [← he, sKey, if_neg (by omega), if_neg hb117, if_pos hb125]
                                  exact ⟨by unfold sEntA sEntK; rw [hkf, if_neg (by omega), if_pos (by omega)], rfl⟩
                            · skip
                              refine xg_goto 181 dX12_entry_120 rfl ?_
                              refine xg_iinc 184 _ dX12_entry_181 rfl rfl rfl rfl (by decide) (Or.inr rfl) ?_
                              refine xg_goto 94 dX12_entry_184 rfl ?_
                              obtain ⟨j, rfl⟩ : ∃ j2, j = j2 + 1 := ⟨j - 1, by omega⟩
                              exact xg_weak _ (xle_s rfl (xle_s rfl (xle_s rfl (xle_s rfl (xle_s rfl (xle_s rfl (xle_s rfl xle_0))))))) (ih left (key + 1) j hl (by omega) (by rw [← he, sKey, if_neg (by omega), if_pos (by omega)]) (by omega))
                    exact xg_weak _ (xle_s rfl (xle_s rfl (xle_s rfl (xle_s rfl (xle_s rfl (xle_s rfl (xle_s rfl xle_0))))))) (loop94 100 kk 0 60 hkk (by omega) rfl (by omega))
                  · intro hj
                    refine xg_icne 71 66 dX12_entry_63 rfl rfl (by first | omega | exact hR _ | exact ⟨hR _, by omega⟩ | exact ⟨by omega, hR _⟩ | exact ⟨hR _, hR _⟩) (fun hb63 => ?_) (fun hb63 => ?_)
                    · skip
                      refine xg_iloadn 72 dX12_entry_71 rfl rfl rfl ?_
                      refine xg_bipush 74 dX12_entry_72 rfl (by decide) ?_
                      refine xg_icne 82 77 dX12_entry_74 rfl rfl (by first | omega | exact hR _ | exact ⟨hR _, by omega⟩ | exact ⟨by omega, hR _⟩ | exact ⟨hR _, hR _⟩) (fun hb74 => ?_) (fun hb74 => ?_)
                      · skip
                        refine xg_iloadn 83 dX12_entry_82 rfl rfl rfl ?_
                        refine xg_callS 86 [_] _ ks_X12_rowOf kl_RX12_133 dX12_entry_83 rfl rfl rfl (Nat.le_of_ble_eq_true rfl) (by omega) ⟨Nat.le_refl _, Nat.le_refl _⟩ (ct_X12_rowOf) rfl ?_
                        first | (exfalso; omega) | exact hj _ (by unfold sRw; first | rw [if_pos (by omega)] | rw [if_neg (by omega), if_pos (by omega)] | rw [if_neg (by omega), if_neg (by omega)])
                      · skip
                        refine xg_bipush 79 dX12_entry_77 rfl (by decide) ?_
                        refine xg_goto 86 dX12_entry_79 rfl ?_
                        first | (exfalso; omega) | exact hj _ (by unfold sRw; first | rw [if_pos (by omega)] | rw [if_neg (by omega), if_pos (by omega)] | rw [if_neg (by omega), if_neg (by omega)])
                    · skip
                      refine xg_bipush 68 dX12_entry_66 rfl (by decide) ?_
                      refine xg_goto 86 dX12_entry_68 rfl ?_
                      first | (exfalso; omega) | exact hj _ (by unfold sRw; first | rw [if_pos (by omega)] | rw [if_neg (by omega), if_pos (by omega)] | rw [if_neg (by omega), if_neg (by omega)])
                · exfalso; omega
            · first
              | (exfalso; omega)
              | skip
                refine xg_iconst 48 dX12_entry_47 rfl ?_
                refine xg_goto 52 dX12_entry_48 rfl ?_
                refine xg_iconst 53 dX12_entry_52 rfl ?_
                refine xg_callV 56 12 [_, _] _ kv_X12_throwsIf ⟨_, _, rfl⟩ kl_RX12_251 dX12_entry_53 rfl (by assumption) (by omega) rfl rfl (Nat.le_of_ble_eq_true rfl) (by omega) ⟨Nat.le_refl _, Nat.le_refl _⟩ (ct_throwsT hw) rfl ?_
                refine xg_ifeq 61 59 dX12_entry_56 rfl rfl (by first | omega | exact hR _ | exact ⟨hR _, by omega⟩ | exact ⟨by omega, hR _⟩ | exact ⟨hR _, hR _⟩) (fun hb56 => ?_) (fun hb56 => ?_)
                · exfalso; omega
                · skip
                  exfalso; omega
      · first
        | (exfalso; omega)
        | skip
          refine xg_aloadn 18 dX12_entry_17 rfl rfl rfl ?_
          refine xg_iloadn 19 dX12_entry_18 rfl rfl rfl ?_
          refine xg_callV 22 12 [_] _ kv_X12_noRun ⟨_, _, rfl⟩ kl_RX12_373 dX12_entry_19 rfl (by assumption) (by omega) rfl rfl (Nat.le_of_ble_eq_true rfl) (by omega) ⟨Nat.le_refl _, Nat.le_refl _⟩ (ct_X12_noRun hw o0 (by omega)) rfl ?_
          refine xg_deq 29 25 dX12_entry_22 rfl rfl (fun hb22 => ?_) (fun hb22 => ?_)
          · first
            | (exfalso; omega)
            | skip
              refine xg_iconst 30 dX12_entry_29 rfl ?_
              refine xg_iconst 31 dX12_entry_30 rfl ?_
              refine xg_callV 34 12 [_, _] _ kv_X12_throwsIf ⟨_, _, rfl⟩ kl_RX12_251 dX12_entry_31 rfl (by assumption) (by omega) rfl rfl (Nat.le_of_ble_eq_true rfl) (by omega) ⟨Nat.le_refl _, Nat.le_refl _⟩ (ct_throwsF hw) rfl ?_
              refine xg_ifne 59 37 dX12_entry_34 rfl rfl (by first | omega | exact hR _ | exact ⟨hR _, by omega⟩ | exact ⟨by omega, hR _⟩ | exact ⟨hR _, hR _⟩) (fun hb34 => ?_) (fun hb34 => ?_)
              · exfalso; omega
              · skip
                refine xg_aloadn 38 dX12_entry_37 rfl rfl rfl ?_
                refine xg_iloadn 39 dX12_entry_38 rfl rfl rfl ?_
                refine xg_iconst 40 dX12_entry_39 rfl ?_
                refine xg_iconst 41 dX12_entry_40 rfl ?_
                refine xg_callS 44 [_, _, _] _ ks_X12_in kl_RX12_70 dX12_entry_41 rfl rfl rfl (Nat.le_of_ble_eq_true rfl) (by omega) ⟨Nat.le_refl _, Nat.le_refl _⟩ (ct_X12_in (by omega)) rfl ?_
                refine xg_dne 51 47 dX12_entry_44 rfl rfl (fun hb44 => ?_) (fun hb44 => ?_)
                · first
                  | (exfalso; omega)
                  | skip
                    refine xg_iconst 52 dX12_entry_51 rfl ?_
                    refine xg_iconst 53 dX12_entry_52 rfl ?_
                    refine xg_callV 56 12 [_, _] _ kv_X12_throwsIf ⟨_, _, rfl⟩ kl_RX12_251 dX12_entry_53 rfl (by assumption) (by omega) rfl rfl (Nat.le_of_ble_eq_true rfl) (by omega) ⟨Nat.le_refl _, Nat.le_refl _⟩ (ct_throwsF hw) rfl ?_
                    refine xg_ifeq 61 59 dX12_entry_56 rfl rfl (by first | omega | exact hR _ | exact ⟨hR _, by omega⟩ | exact ⟨by omega, hR _⟩ | exact ⟨hR _, hR _⟩) (fun hb56 => ?_) (fun hb56 => ?_)
                    · skip
                      refine xg_iloadn 62 dX12_entry_61 rfl rfl rfl ?_
                      refine xg_iconst 63 dX12_entry_62 rfl ?_
                      refine xg_join2 86 (fun u => u = sRw v) ?_ ?_
                      · intro x hx
                        have hx9 : x = sRw v := hx
                        subst hx9
                        have hrb : 19 ≤ sRw v ∧ sRw v + 120 ≤ 1663 := by unfold sRw; split <;> (try split) <;> omega
                        refine xg_istore 88 _ dX12_entry_86 rfl rfl (by decide) (Or.inr rfl) ?_
                        refine xg_iloadn 89 dX12_entry_88 rfl rfl rfl ?_
                        refine xg_istore 91 _ dX12_entry_89 rfl rfl (by decide) (Or.inr rfl) ?_
                        refine xg_iconst 92 dX12_entry_91 rfl ?_
                        refine xg_istore 94 _ dX12_entry_92 rfl rfl (by decide) (Or.inr rfl) ?_
                        have loop94 : ∀ (mm : Nat) (left key : Int) (j : Nat), (-2147483648 ≤ left ∧ left < 2147483648) → (key + j = 60 ∧ 0 ≤ key) → sKey (fun j => w (sRw v + j)) j key left = sKey (fun j => w (sRw v + j)) 60 0 kk → (j : Int) < (mm : Int) → xG E mX12_entry (xR d 0 0) X 94 [some (.ref m), some (J v), some (J kk), some (J y), some (J (sRw v)), some (J left), some (J key)] [] (z, T, upF F m 0 0, upA I (m + 1) w, P, Y) 0 0 := by
                          intro mm
                          induction mm with
                          | zero => intro left key j hl hj he hm; exfalso; omega
                          | succ mm ih =>
                            intro left key j hl hj he hm
                            refine xg_iload 96 dX12_entry_94 rfl rfl ?_
                            refine xg_bipush 98 dX12_entry_96 rfl (by decide) ?_
                            refine xg_icge 187 101 dX12_entry_98 rfl rfl (by first | omega | exact hR _ | exact ⟨hR _, by omega⟩ | exact ⟨by omega, hR _⟩ | exact ⟨hR _, hR _⟩) (fun hb98 => ?_) (fun hb98 => ?_)
                            · skip
                              refine xg_iconst 188 dX12_entry_187 rfl ?_
                              subst hX
                              refine xg_ireturn dX12_entry_188 rfl ⟨Nat.le_refl _, Nat.le_refl _⟩ ?_
                              refine ⟨?_, rfl⟩
                              have hkf : sKey (fun j => w (sRw v + j)) 60 0 kk = -1 := by
                                rw [← he]
                                cases j with
                                | zero => rfl
                                | succ j => rw [sKey, if_pos (by omega)]
                              unfold sEntA sEntK; rw [hkf, if_pos rfl]
                            · skip
                              refine xg_iload 103 dX12_entry_101 rfl rfl ?_
                              refine xg_iflt 187 106 dX12_entry_103 rfl rfl (by first | omega | exact hR _ | exact ⟨hR _, by omega⟩ | exact ⟨by omega, hR _⟩ | exact ⟨hR _, hR _⟩) (fun hb103 => ?_) (fun hb103 => ?_)
                              · skip
                                refine xg_iconst 188 dX12_entry_187 rfl ?_
                                subst hX
                                refine xg_ireturn dX12_entry_188 rfl ⟨Nat.le_refl _, Nat.le_refl _⟩ ?_
                                refine ⟨?_, rfl⟩
                                have hkf : sKey (fun j => w (sRw v + j)) 60 0 kk = -1 := by
                                  rw [← he]
                                  cases j with
                                  | zero => rfl
                                  | succ j => rw [sKey, if_pos (by omega)]
                                unfold sEntA sEntK; rw [hkf, if_pos rfl]
                              · skip
                                refine xg_aloadn 107 dX12_entry_106 rfl rfl rfl ?_
                                refine xg_getP 110 kf_RX12_13 dX12_entry_107 rfl (by assumption) (by assumption) ?_
                                refine xg_iload 112 dX12_entry_110 rfl rfl ?_
                                refine xg_iload 114 dX12_entry_112 rfl rfl ?_
                                refine xg_iadd 115 dX12_entry_114 rfl ?_
                                refine xg_ialdW 116 dX12_entry_115 rfl (by assumption) (by first | omega | exact hR _ | exact ⟨hR _, by omega⟩ | exact ⟨by omega, hR _⟩ | exact ⟨hR _, hR _⟩) ?_
                                refine xg_iconst 117 dX12_entry_116 rfl ?_
                                refine xg_icne 123 120 dX12_entry_117 rfl rfl (by first | omega | exact hR _ | exact ⟨hR _, by omega⟩ | exact ⟨by omega, hR _⟩ | exact ⟨hR _, hR _⟩) (fun hb117 => ?_) (fun hb117 => ?_)
                                · skip
                                  refine xg_iload 125 dX12_entry_123 rfl rfl ?_
                                  refine xg_ifne 178 128 dX12_entry_125 rfl rfl (by first | omega | exact hR _ | exact ⟨hR _, by omega⟩ | exact ⟨by omega, hR _⟩ | exact ⟨hR _, hR _⟩) (fun hb125 => ?_) (fun hb125 => ?_)
                                  · skip
                                    refine xg_iinc 181 _ dX12_entry_178 rfl rfl rfl rfl (by decide) (Or.inr rfl) ?_
                                    refine xg_iinc 184 _ dX12_entry_181 rfl rfl rfl rfl (by decide) (Or.inr rfl) ?_
                                    refine xg_goto 94 dX12_entry_184 rfl ?_
                                    obtain ⟨j, rfl⟩ : ∃ j2, j = j2 + 1 := ⟨j - 1, by omega⟩
                                    exact xg_weak _ (xle_s rfl (xle_s rfl (xle_s rfl (xle_s rfl (xle_s rfl (xle_s rfl (xle_s rfl xle_0))))))) (ih (left + -1) (key + 1) j (by omega) (by omega) (by rw [← he, sKey, if_neg (by omega), if_neg hb117, if_neg hb125]; rfl) (by omega))
                                  · skip
                                    refine xg_iloadn 129 dX12_entry_128 rfl rfl rfl ?_
                                    refine xg_ifne 137 132 dX12_entry_129 rfl rfl (by first | omega | exact hR _ | exact ⟨hR _, by omega⟩ | exact ⟨by omega, hR _⟩ | exact ⟨hR _, hR _⟩) (fun hb129 => ?_) (fun hb129 => ?_)
                                    · skip
                                      refine xg_iloadn 138 dX12_entry_137 rfl rfl rfl ?_
                                      refine xg_iconst 139 dX12_entry_138 rfl ?_
                                      refine xg_icne 155 142 dX12_entry_139 rfl rfl (by first | omega | exact hR _ | exact ⟨hR _, by omega⟩ | exact ⟨by omega, hR _⟩ | exact ⟨hR _, hR _⟩) (fun hb139 => ?_) (fun hb139 => ?_)
                                      · skip
                                        refine xg_iloadn 156 dX12_entry_155 rfl rfl rfl ?_
                                        refine xg_iconst 157 dX12_entry_156 rfl ?_
                                        refine xg_icne 164 160 dX12_entry_157 rfl rfl (by first | omega | exact hR _ | exact ⟨hR _, by omega⟩ | exact ⟨by omega, hR _⟩ | exact ⟨hR _, hR _⟩) (fun hb157 => ?_) (fun hb157 => ?_)
                                        · skip
                                          refine xg_aloadn 165 dX12_entry_164 rfl rfl rfl ?_
                                          refine xg_getP 168 kf_RX12_13 dX12_entry_165 rfl (by assumption) (by assumption) ?_
                                          refine xg_iload 170 dX12_entry_168 rfl rfl ?_
                                          refine xg_bipush 172 dX12_entry_170 rfl (by decide) ?_
                                          refine xg_iadd 173 dX12_entry_172 rfl ?_
                                          refine xg_iload 175 dX12_entry_173 rfl rfl ?_
                                          refine xg_iadd 176 dX12_entry_175 rfl ?_
                                          refine xg_ialdW 177 dX12_entry_176 rfl (by assumption) (by first | omega | exact hR _ | exact ⟨hR _, by omega⟩ | exact ⟨by omega, hR _⟩ | exact ⟨hR _, hR _⟩) ?_
                                          subst hX
                                          refine xg_ireturn dX12_entry_177 rfl ⟨Nat.le_refl _, Nat.le_refl _⟩ ?_
                                          obtain ⟨j, rfl⟩ : ∃ j2, j = j2 + 1 := ⟨j - 1, by omega⟩
                                          have hkf : sKey (fun j => w (sRw v + j)) 60 0 kk = key := by rw [← he, sKey, if_neg (by omega), if_neg hb117, if_pos hb125]
                                          exact ⟨by unfold sEntA sEntK; rw [hkf, if_neg (by omega), if_neg (by omega), if_neg (by omega), if_neg (by omega)], rfl⟩
                                        · skip
                                          refine xg_iconst 161 dX12_entry_160 rfl ?_
                                          refine xg_goto 177 dX12_entry_161 rfl ?_
                                          subst hX
                                          refine xg_ireturn dX12_entry_177 rfl ⟨Nat.le_refl _, Nat.le_refl _⟩ ?_
                                          obtain ⟨j, rfl⟩ : ∃ j2, j = j2 + 1 := ⟨j - 1, by omega⟩
                                          have hkf : sKey (fun j => w (sRw v + j)) 60 0 kk = key := by rw [← he, sKey, if_neg (by omega), if_neg hb117, if_pos hb125]
                                          exact ⟨by unfold sEntA sEntK; rw [hkf, if_neg (by omega), if_neg (by omega), if_neg (by omega), if_pos (by omega)], rfl⟩
                                      · skip
                                        refine xg_aloadn 143 dX12_entry_142 rfl rfl rfl ?_
                                        refine xg_getP 146 kf_RX12_13 dX12_entry_143 rfl (by assumption) (by assumption) ?_
                                        refine xg_iload 148 dX12_entry_146 rfl rfl ?_
                                        refine xg_iload 150 dX12_entry_148 rfl rfl ?_
                                        refine xg_iadd 151 dX12_entry_150 rfl ?_
                                        refine xg_ialdW 152 dX12_entry_151 rfl (by assumption) (by first | omega | exact hR _ | exact ⟨hR _, by omega⟩ | exact ⟨by omega, hR _⟩ | exact ⟨hR _, hR _⟩) ?_
                                        refine xg_goto 177 dX12_entry_152 rfl ?_
                                        subst hX
                                        refine xg_ireturn dX12_entry_177 rfl ⟨Nat.le_refl _, Nat.le_refl _⟩ ?_
                                        obtain ⟨j, rfl⟩ : ∃ j2, j = j2 + 1 := ⟨j - 1, by omega⟩
                                        have hkf : sKey (fun j => w (sRw v + j)) 60 0 kk = key := by rw [← he, sKey, if_neg (by omega), if_neg hb117, if_pos hb125]
                                        exact ⟨by unfold sEntA sEntK; rw [hkf, if_neg (by omega), if_neg (by omega), if_pos (by omega)], rfl⟩
                                    · skip
                                      refine xg_iload 134 dX12_entry_132 rfl rfl ?_
                                      refine xg_goto 177 dX12_entry_134 rfl ?_
                                      subst hX
                                      refine xg_ireturn dX12_entry_177 rfl ⟨Nat.le_refl _, Nat.le_refl _⟩ ?_
                                      obtain ⟨j, rfl⟩ : ∃ j2, j = j2 + 1 := ⟨j - 1, by omega⟩
                                      have hkf : sKey (fun j => w (sRw v + j)) 60 0 kk = key := by rw [← he, sKey, if_neg (by omega), if_neg hb117, if_pos hb125]
                                      exact ⟨by unfold sEntA sEntK; rw [hkf, if_neg (by omega), if_pos (by omega)], rfl⟩
                                · skip
                                  refine xg_goto 181 dX12_entry_120 rfl ?_
                                  refine xg_iinc 184 _ dX12_entry_181 rfl rfl rfl rfl (by decide) (Or.inr rfl) ?_
                                  refine xg_goto 94 dX12_entry_184 rfl ?_
                                  obtain ⟨j, rfl⟩ : ∃ j2, j = j2 + 1 := ⟨j - 1, by omega⟩
                                  exact xg_weak _ (xle_s rfl (xle_s rfl (xle_s rfl (xle_s rfl (xle_s rfl (xle_s rfl (xle_s rfl xle_0))))))) (ih left (key + 1) j hl (by omega) (by rw [← he, sKey, if_neg (by omega), if_pos (by omega)]) (by omega))
                        exact xg_weak _ (xle_s rfl (xle_s rfl (xle_s rfl (xle_s rfl (xle_s rfl (xle_s rfl (xle_s rfl xle_0))))))) (loop94 100 kk 0 60 hkk (by omega) rfl (by omega))
                      · intro hj
                        refine xg_icne 71 66 dX12_entry_63 rfl rfl (by first | omega | exact hR _ | exact ⟨hR _, by omega⟩ | exact ⟨by omega, hR _⟩ | exact ⟨hR _, hR _⟩) (fun hb63 => ?_) (fun hb63 => ?_)
                        · skip
                          refine xg_iloadn 72 dX12_entry_71 rfl rfl rfl ?_
                          refine xg_bipush 74 dX12_entry_72 rfl (by decide) ?_
                          refine xg_icne 82 77 dX12_entry_74 rfl rfl (by first | omega | exact hR _ | exact ⟨hR _, by omega⟩ | exact ⟨by omega, hR _⟩ | exact ⟨hR _, hR _⟩) (fun hb74 => ?_) (fun hb74 => ?_)
                          · skip
                            refine xg_iloadn 83 dX12_entry_82 rfl rfl rfl ?_
                            refine xg_callS 86 [_] _ ks_X12_rowOf kl_RX12_133 dX12_entry_83 rfl rfl rfl (Nat.le_of_ble_eq_true rfl) (by omega) ⟨Nat.le_refl _, Nat.le_refl _⟩ (ct_X12_rowOf) rfl ?_
                            first | (exfalso; omega) | exact hj _ (by unfold sRw; first | rw [if_pos (by omega)] | rw [if_neg (by omega), if_pos (by omega)] | rw [if_neg (by omega), if_neg (by omega)])
                          · skip
                            refine xg_bipush 79 dX12_entry_77 rfl (by decide) ?_
                            refine xg_goto 86 dX12_entry_79 rfl ?_
                            first | (exfalso; omega) | exact hj _ (by unfold sRw; first | rw [if_pos (by omega)] | rw [if_neg (by omega), if_pos (by omega)] | rw [if_neg (by omega), if_neg (by omega)])
                        · skip
                          refine xg_bipush 68 dX12_entry_66 rfl (by decide) ?_
                          refine xg_goto 86 dX12_entry_68 rfl ?_
                          first | (exfalso; omega) | exact hj _ (by unfold sRw; first | rw [if_pos (by omega)] | rw [if_neg (by omega), if_pos (by omega)] | rw [if_neg (by omega), if_neg (by omega)])
                    · exfalso; omega
                · first
                  | (exfalso; omega)
                  | skip
                    refine xg_iconst 48 dX12_entry_47 rfl ?_
                    refine xg_goto 52 dX12_entry_48 rfl ?_
                    refine xg_iconst 53 dX12_entry_52 rfl ?_
                    refine xg_callV 56 12 [_, _] _ kv_X12_throwsIf ⟨_, _, rfl⟩ kl_RX12_251 dX12_entry_53 rfl (by assumption) (by omega) rfl rfl (Nat.le_of_ble_eq_true rfl) (by omega) ⟨Nat.le_refl _, Nat.le_refl _⟩ (ct_throwsT hw) rfl ?_
                    refine xg_ifeq 61 59 dX12_entry_56 rfl rfl (by first | omega | exact hR _ | exact ⟨hR _, by omega⟩ | exact ⟨by omega, hR _⟩ | exact ⟨hR _, hR _⟩) (fun hb56 => ?_) (fun hb56 => ?_)
                    · exfalso; omega
                    · skip
                      exfalso; omega
          · first
            | (exfalso; omega)
            | skip
              refine xg_iconst 26 dX12_entry_25 rfl ?_
              refine xg_goto 30 dX12_entry_26 rfl ?_
              refine xg_iconst 31 dX12_entry_30 rfl ?_
              refine xg_callV 34 12 [_, _] _ kv_X12_throwsIf ⟨_, _, rfl⟩ kl_RX12_251 dX12_entry_31 rfl (by assumption) (by omega) rfl rfl (Nat.le_of_ble_eq_true rfl) (by omega) ⟨Nat.le_refl _, Nat.le_refl _⟩ (ct_throwsT hw) rfl ?_
              refine xg_ifne 59 37 dX12_entry_34 rfl rfl (by first | omega | exact hR _ | exact ⟨hR _, by omega⟩ | exact ⟨by omega, hR _⟩ | exact ⟨hR _, hR _⟩) (fun hb34 => ?_) (fun hb34 => ?_)
              · skip
                exfalso; omega
              · exfalso; omega

theorem dX11_entry_0 : decode cX11_entry 0 = .ok (.iload_n 1, 1) := by decide +kernel
theorem dX11_entry_1 : decode cX11_entry 1 = .ok (.iconst (-1), 1) := by decide +kernel
theorem dX11_entry_2 : decode cX11_entry 2 = .ok (.if_icmp .eq 28, 3) := by decide +kernel
theorem dX11_entry_5 : decode cX11_entry 5 = .ok (.iload_n 1, 1) := by decide +kernel
theorem dX11_entry_6 : decode cX11_entry 6 = .ok (.bipush 99, 2) := by decide +kernel
theorem dX11_entry_8 : decode cX11_entry 8 = .ok (.if_icmp .eq 22, 3) := by decide +kernel
theorem dX11_entry_11 : decode cX11_entry 11 = .ok (.aload_n 0, 1) := by decide +kernel
theorem dX11_entry_12 : decode cX11_entry 12 = .ok (.getfield 23, 3) := by decide +kernel
theorem dX11_entry_15 : decode cX11_entry 15 = .ok (.iload_n 1, 1) := by decide +kernel
theorem dX11_entry_16 : decode cX11_entry 16 = .ok (.invokevirtual 121, 3) := by decide +kernel
theorem dX11_entry_19 : decode cX11_entry 19 = .ok (.ifCond .ne 11, 3) := by decide +kernel
theorem dX11_entry_22 : decode cX11_entry 22 = .ok (.new 125, 3) := by decide +kernel
theorem dX11_entry_25 : decode cX11_entry 25 = .ok (.dup, 1) := by decide +kernel
theorem dX11_entry_26 : decode cX11_entry 26 = .ok (.invokespecial 127, 3) := by decide +kernel
theorem dX11_entry_29 : decode cX11_entry 29 = .ok (.athrow, 1) := by decide +kernel
theorem dX11_entry_30 : decode cX11_entry 30 = .ok (.iload_n 3, 1) := by decide +kernel
theorem dX11_entry_31 : decode cX11_entry 31 = .ok (.ifCond .lt 8, 3) := by decide +kernel
theorem dX11_entry_34 : decode cX11_entry 34 = .ok (.iload_n 3, 1) := by decide +kernel
theorem dX11_entry_35 : decode cX11_entry 35 = .ok (.iconst 2, 1) := by decide +kernel
theorem dX11_entry_36 : decode cX11_entry 36 = .ok (.if_icmp .le 11, 3) := by decide +kernel
theorem dX11_entry_39 : decode cX11_entry 39 = .ok (.new 155, 3) := by decide +kernel
theorem dX11_entry_42 : decode cX11_entry 42 = .ok (.dup, 1) := by decide +kernel
theorem dX11_entry_43 : decode cX11_entry 43 = .ok (.invokespecial 157, 3) := by decide +kernel
theorem dX11_entry_46 : decode cX11_entry 46 = .ok (.athrow, 1) := by decide +kernel
theorem dX11_entry_47 : decode cX11_entry 47 = .ok (.aload_n 0, 1) := by decide +kernel
theorem dX11_entry_48 : decode cX11_entry 48 = .ok (.getfield 23, 3) := by decide +kernel
theorem dX11_entry_51 : decode cX11_entry 51 = .ok (.iload_n 1, 1) := by decide +kernel
theorem dX11_entry_52 : decode cX11_entry 52 = .ok (.invokevirtual 158, 3) := by decide +kernel
theorem dX11_entry_55 : decode cX11_entry 55 = .ok (.astore 4, 2) := by decide +kernel
theorem dX11_entry_57 : decode cX11_entry 57 = .ok (.aload 4, 2) := by decide +kernel
theorem dX11_entry_59 : decode cX11_entry 59 = .ok (.iload_n 2, 1) := by decide +kernel
theorem dX11_entry_60 : decode cX11_entry 60 = .ok (.invokevirtual 162, 3) := by decide +kernel
theorem dX11_entry_63 : decode cX11_entry 63 = .ok (.istore 5, 2) := by decide +kernel
theorem dX11_entry_65 : decode cX11_entry 65 = .ok (.iload 5, 2) := by decide +kernel
theorem dX11_entry_67 : decode cX11_entry 67 = .ok (.iconst (-1), 1) := by decide +kernel
theorem dX11_entry_68 : decode cX11_entry 68 = .ok (.if_icmp .eq 7, 3) := by decide +kernel
theorem dX11_entry_71 : decode cX11_entry 71 = .ok (.iload_n 3, 1) := by decide +kernel
theorem dX11_entry_72 : decode cX11_entry 72 = .ok (.ifCond .ne 6, 3) := by decide +kernel
theorem dX11_entry_75 : decode cX11_entry 75 = .ok (.iload 5, 2) := by decide +kernel
theorem dX11_entry_77 : decode cX11_entry 77 = .ok (.ireturn, 1) := by decide +kernel
theorem dX11_entry_78 : decode cX11_entry 78 = .ok (.iload_n 3, 1) := by decide +kernel
theorem dX11_entry_79 : decode cX11_entry 79 = .ok (.iconst 1, 1) := by decide +kernel
theorem dX11_entry_80 : decode cX11_entry 80 = .ok (.if_icmp .ne 13, 3) := by decide +kernel
theorem dX11_entry_83 : decode cX11_entry 83 = .ok (.aload 4, 2) := by decide +kernel
theorem dX11_entry_85 : decode cX11_entry 85 = .ok (.iload 5, 2) := by decide +kernel
theorem dX11_entry_87 : decode cX11_entry 87 = .ok (.invokevirtual 166, 3) := by decide +kernel
theorem dX11_entry_90 : decode cX11_entry 90 = .ok (.goto 10, 3) := by decide +kernel
theorem dX11_entry_93 : decode cX11_entry 93 = .ok (.aload 4, 2) := by decide +kernel
theorem dX11_entry_95 : decode cX11_entry 95 = .ok (.iload 5, 2) := by decide +kernel
theorem dX11_entry_97 : decode cX11_entry 97 = .ok (.invokevirtual 169, 3) := by decide +kernel
theorem dX11_entry_100 : decode cX11_entry 100 = .ok (.ireturn, 1) := by decide +kernel
set_option maxHeartbeats 4000000 in
set_option maxRecDepth 100000 in
theorem ct_X11_entry {E : xE} {z : Nat} {T : Nat → Nat × Int} {F : Nat → Nat → Int} {I : Nat → Int → Int} {P : Nat → Nat → Option Nat} {Y : Nat → Int → Option Nat} {o a : Nat} {w : Int → Int} (h1 : (T o).1 = 12) (h3 : P o 3 = some a) (hS : SR T F I P Y a w) {v kk y : Int} (hv : -2147483648 ≤ v ∧ v < 2147483648) (hkk : -2147483648 ≤ kk ∧ kk < 2147483648) (hy : -2147483648 ≤ y ∧ y < 2147483648) (hb9 : (v = -1 ∨ v = 99 ∨ (0 ≤ v ∧ v < w 0)) ∧ 0 ≤ y ∧ y ≤ 2) : Ct E 2 mX11_entry 0 0 [.ref o, J v, J kk, J y] (z, T, F, I, P, Y) (xd (some (J (sEntA w v kk y))) (z, T, F, I, P, Y)) := by
  have hO := hS.1.1
  have o0 := hO.2.1
  obtain ⟨hGd, hLw, ⟨π, ⟨hSt, hPm⟩, ⟨hSc, hTl, hJb⟩, hRun, hTab, hOut, hJo⟩, hLv, hLf⟩ := id hS
  obtain ⟨⟨st9, s0, s01, s02⟩, hRows, ⟨s4, s44⟩, ⟨s5, l9, ⟨l0, l1, l2, l3⟩, ⟨l01, l02⟩, ⟨l11, l12⟩, ⟨l21, l22⟩, l31, l32⟩, ⟨s6, s50⟩, ⟨s7, hJou⟩, -⟩ := id hSt
  have p5 : ∀ j : Nat, j < 14 → π j < 14 := hPm.2.2.2.1
  have hw0 : F a 1 = w 0 := hSc.1
  refine Ct.of [some (.ref o), some (J v), some (J kk), some (J y), none, none] kt_X11_entry rfl (Nat.le_of_ble_eq_true rfl) rfl (fun d hd => ?_)
  generalize hX : xN E _ _ _ = X
  refine xg_iloadn 1 dX11_entry_0 rfl rfl rfl ?_
  refine xg_iconst 2 dX11_entry_1 rfl ?_
  refine xg_iceq 30 5 dX11_entry_2 rfl rfl (by omega) (fun hb2 => ?_) (fun hb2 => ?_)
  · skip
    refine xg_iloadn 31 dX11_entry_30 rfl rfl rfl ?_
    refine xg_iflt 39 34 dX11_entry_31 rfl rfl (by omega) (fun hb31 => ?_) (fun hb31 => ?_)
    · exfalso; omega
    · skip
      refine xg_iloadn 35 dX11_entry_34 rfl rfl rfl ?_
      refine xg_iconst 36 dX11_entry_35 rfl ?_
      refine xg_icle 47 39 dX11_entry_36 rfl rfl (by omega) (fun hb36 => ?_) (fun hb36 => ?_)
      · skip
        refine xg_aloadn 48 dX11_entry_47 rfl rfl rfl ?_
        refine xg_getP 51 kf_RX11_23 dX11_entry_48 rfl h1 h3 ?_
        refine xg_iloadn 52 dX11_entry_51 rfl rfl rfl ?_
        refine xg_callV 55 8 [_] _ kv_X8_rowNamed ⟨_, _, rfl⟩ kl_RX11_158 dX11_entry_52 rfl st9 (by omega) rfl rfl (Nat.le_of_ble_eq_true rfl) (by omega) ⟨Nat.le_refl _, Nat.le_refl _⟩ (ct_X8_rowNamed hSt hPm (by omega) hv) rfl ?_
        obtain ⟨i9, hi9, hie, hv9⟩ := entry_row (v := v) hw0 o0 hRun hTab hOut hb9.1
        rw [hie]
        have hb : wRow T P (a + 2 + 3 * π i9) := hRows _ (p5 i9 hi9)
        refine xg_astore 57 _ dX11_entry_55 rfl rfl (by decide) (Or.inr rfl) ?_
        refine xg_aload 59 dX11_entry_57 rfl rfl ?_
        refine xg_iloadn 60 dX11_entry_59 rfl rfl rfl ?_
        refine xg_callV 63 6 [_] _ kv_X6_keyAt ⟨_, _, rfl⟩ kl_RX11_162 dX11_entry_60 rfl hb.1 (by omega) rfl rfl (Nat.le_of_ble_eq_true rfl) (by omega) ⟨Nat.le_refl _, Nat.le_refl _⟩ (ct_X6_keyAt hb hkk (fun j j0 j1 => by rw [(hv9 j j0 j1).1]; exact hO.1 _)) rfl ?_
        rw [sKey_cg (g := (fun j => w (sRw v + j))) 60 0 kk (by omega) (by omega) (fun j j0 j1 => (hv9 j j0 j1).1)]
        have hin := sKey_in (f := (fun j => w (sRw v + j))) 60 0 kk (by omega) (by omega)
        have hea : sEntA w v kk y = sEntK w v y (sKey (fun j => w (sRw v + j)) 60 0 kk) := rfl
        generalize sKey (fun j => w (sRw v + j)) 60 0 kk = key at *
        refine xg_istore 65 _ dX11_entry_63 rfl rfl (by decide) (Or.inr rfl) ?_
        refine xg_iload 67 dX11_entry_65 rfl rfl ?_
        refine xg_iconst 68 dX11_entry_67 rfl ?_
        refine xg_iceq 75 71 dX11_entry_68 rfl rfl (by omega) (fun hb68 => ?_) (fun hb68 => ?_)
        · skip
          refine xg_iload 77 dX11_entry_75 rfl rfl ?_
          subst hX
          exact xg_ireturn dX11_entry_77 rfl ⟨Nat.le_refl _, Nat.le_refl _⟩ ⟨by rw [hea]; unfold sEntK; rw [if_pos (by omega)]; exact congrArg (fun v => some (J v)) (by omega), rfl⟩
        · skip
          refine xg_iloadn 72 dX11_entry_71 rfl rfl rfl ?_
          refine xg_ifne 78 75 dX11_entry_72 rfl rfl (by omega) (fun hb72 => ?_) (fun hb72 => ?_)
          · skip
            refine xg_iloadn 79 dX11_entry_78 rfl rfl rfl ?_
            refine xg_iconst 80 dX11_entry_79 rfl ?_
            refine xg_icne 93 83 dX11_entry_80 rfl rfl (by omega) (fun hb80 => ?_) (fun hb80 => ?_)
            · skip
              refine xg_aload 95 dX11_entry_93 rfl rfl ?_
              refine xg_iload 97 dX11_entry_95 rfl rfl ?_
              refine xg_callV 100 6 [_] _ kv_X6_rewritesOf ⟨_, _, rfl⟩ kl_RX11_169 dX11_entry_97 rfl hb.1 (by omega) rfl rfl (Nat.le_of_ble_eq_true rfl) (by omega) ⟨Nat.le_refl _, Nat.le_refl _⟩ (ct_X6_rewritesOf hb (by omega)) rfl ?_
              subst hX
              exact xg_ireturn dX11_entry_100 rfl ⟨Nat.le_refl _, Nat.le_refl _⟩ ⟨by rw [hea, if_pos (show 0 ≤ key ∧ key < 60 by omega)]; unfold sEntK; rw [if_neg (by omega), if_neg (by omega), if_neg (by omega), (hv9 key (by omega) (by omega)).2 (by have h9 : (0 ≤ key ∧ key < 60) ∧ w (sRw v + key) ≠ -1 := hin.resolve_left (by omega); exact h9.2)], rfl⟩
            · skip
              refine xg_aload 85 dX11_entry_83 rfl rfl ?_
              refine xg_iload 87 dX11_entry_85 rfl rfl ?_
              refine xg_callV 90 6 [_] _ kv_X6_valueOf ⟨_, _, rfl⟩ kl_RX11_166 dX11_entry_87 rfl hb.1 (by omega) rfl rfl (Nat.le_of_ble_eq_true rfl) (by omega) ⟨Nat.le_refl _, Nat.le_refl _⟩ (ct_X6_valueOf hb (by omega)) rfl ?_
              refine xg_goto 100 dX11_entry_90 rfl ?_
              subst hX
              exact xg_ireturn dX11_entry_100 rfl ⟨Nat.le_refl _, Nat.le_refl _⟩ ⟨by rw [hea, if_pos (show 0 ≤ key ∧ key < 60 by omega)]; unfold sEntK; rw [if_neg (by omega), if_neg (by omega), if_pos (by omega), (hv9 key (by omega) (by omega)).1], rfl⟩
          · skip
            refine xg_iload 77 dX11_entry_75 rfl rfl ?_
            subst hX
            exact xg_ireturn dX11_entry_77 rfl ⟨Nat.le_refl _, Nat.le_refl _⟩ ⟨by rw [hea]; unfold sEntK; rw [if_neg (by omega), if_pos (by omega)], rfl⟩
      · exfalso; omega
  · skip
    refine xg_iloadn 6 dX11_entry_5 rfl rfl rfl ?_
    refine xg_bipush 8 dX11_entry_6 rfl (by decide) ?_
    refine xg_iceq 30 11 dX11_entry_8 rfl rfl (by omega) (fun hb8 => ?_) (fun hb8 => ?_)
    · skip
      refine xg_iloadn 31 dX11_entry_30 rfl rfl rfl ?_
      refine xg_iflt 39 34 dX11_entry_31 rfl rfl (by omega) (fun hb31 => ?_) (fun hb31 => ?_)
      · exfalso; omega
      · skip
        refine xg_iloadn 35 dX11_entry_34 rfl rfl rfl ?_
        refine xg_iconst 36 dX11_entry_35 rfl ?_
        refine xg_icle 47 39 dX11_entry_36 rfl rfl (by omega) (fun hb36 => ?_) (fun hb36 => ?_)
        · skip
          refine xg_aloadn 48 dX11_entry_47 rfl rfl rfl ?_
          refine xg_getP 51 kf_RX11_23 dX11_entry_48 rfl h1 h3 ?_
          refine xg_iloadn 52 dX11_entry_51 rfl rfl rfl ?_
          refine xg_callV 55 8 [_] _ kv_X8_rowNamed ⟨_, _, rfl⟩ kl_RX11_158 dX11_entry_52 rfl st9 (by omega) rfl rfl (Nat.le_of_ble_eq_true rfl) (by omega) ⟨Nat.le_refl _, Nat.le_refl _⟩ (ct_X8_rowNamed hSt hPm (by omega) hv) rfl ?_
          obtain ⟨i9, hi9, hie, hv9⟩ := entry_row (v := v) hw0 o0 hRun hTab hOut hb9.1
          rw [hie]
          have hb : wRow T P (a + 2 + 3 * π i9) := hRows _ (p5 i9 hi9)
          refine xg_astore 57 _ dX11_entry_55 rfl rfl (by decide) (Or.inr rfl) ?_
          refine xg_aload 59 dX11_entry_57 rfl rfl ?_
          refine xg_iloadn 60 dX11_entry_59 rfl rfl rfl ?_
          refine xg_callV 63 6 [_] _ kv_X6_keyAt ⟨_, _, rfl⟩ kl_RX11_162 dX11_entry_60 rfl hb.1 (by omega) rfl rfl (Nat.le_of_ble_eq_true rfl) (by omega) ⟨Nat.le_refl _, Nat.le_refl _⟩ (ct_X6_keyAt hb hkk (fun j j0 j1 => by rw [(hv9 j j0 j1).1]; exact hO.1 _)) rfl ?_
          rw [sKey_cg (g := (fun j => w (sRw v + j))) 60 0 kk (by omega) (by omega) (fun j j0 j1 => (hv9 j j0 j1).1)]
          have hin := sKey_in (f := (fun j => w (sRw v + j))) 60 0 kk (by omega) (by omega)
          have hea : sEntA w v kk y = sEntK w v y (sKey (fun j => w (sRw v + j)) 60 0 kk) := rfl
          generalize sKey (fun j => w (sRw v + j)) 60 0 kk = key at *
          refine xg_istore 65 _ dX11_entry_63 rfl rfl (by decide) (Or.inr rfl) ?_
          refine xg_iload 67 dX11_entry_65 rfl rfl ?_
          refine xg_iconst 68 dX11_entry_67 rfl ?_
          refine xg_iceq 75 71 dX11_entry_68 rfl rfl (by omega) (fun hb68 => ?_) (fun hb68 => ?_)
          · skip
            refine xg_iload 77 dX11_entry_75 rfl rfl ?_
            subst hX
            exact xg_ireturn dX11_entry_77 rfl ⟨Nat.le_refl _, Nat.le_refl _⟩ ⟨by rw [hea]; unfold sEntK; rw [if_pos (by omega)]; exact congrArg (fun v => some (J v)) (by omega), rfl⟩
          · skip
            refine xg_iloadn 72 dX11_entry_71 rfl rfl rfl ?_
            refine xg_ifne 78 75 dX11_entry_72 rfl rfl (by omega) (fun hb72 => ?_) (fun hb72 => ?_)
            · skip
              refine xg_iloadn 79 dX11_entry_78 rfl rfl rfl ?_
              refine xg_iconst 80 dX11_entry_79 rfl ?_
              refine xg_icne 93 83 dX11_entry_80 rfl rfl (by omega) (fun hb80 => ?_) (fun hb80 => ?_)
              · skip
                refine xg_aload 95 dX11_entry_93 rfl rfl ?_
                refine xg_iload 97 dX11_entry_95 rfl rfl ?_
                refine xg_callV 100 6 [_] _ kv_X6_rewritesOf ⟨_, _, rfl⟩ kl_RX11_169 dX11_entry_97 rfl hb.1 (by omega) rfl rfl (Nat.le_of_ble_eq_true rfl) (by omega) ⟨Nat.le_refl _, Nat.le_refl _⟩ (ct_X6_rewritesOf hb (by omega)) rfl ?_
                subst hX
                exact xg_ireturn dX11_entry_100 rfl ⟨Nat.le_refl _, Nat.le_refl _⟩ ⟨by rw [hea, if_pos (show 0 ≤ key ∧ key < 60 by omega)]; unfold sEntK; rw [if_neg (by omega), if_neg (by omega), if_neg (by omega), (hv9 key (by omega) (by omega)).2 (by have h9 : (0 ≤ key ∧ key < 60) ∧ w (sRw v + key) ≠ -1 := hin.resolve_left (by omega); exact h9.2)], rfl⟩
              · skip
                refine xg_aload 85 dX11_entry_83 rfl rfl ?_
                refine xg_iload 87 dX11_entry_85 rfl rfl ?_
                refine xg_callV 90 6 [_] _ kv_X6_valueOf ⟨_, _, rfl⟩ kl_RX11_166 dX11_entry_87 rfl hb.1 (by omega) rfl rfl (Nat.le_of_ble_eq_true rfl) (by omega) ⟨Nat.le_refl _, Nat.le_refl _⟩ (ct_X6_valueOf hb (by omega)) rfl ?_
                refine xg_goto 100 dX11_entry_90 rfl ?_
                subst hX
                exact xg_ireturn dX11_entry_100 rfl ⟨Nat.le_refl _, Nat.le_refl _⟩ ⟨by rw [hea, if_pos (show 0 ≤ key ∧ key < 60 by omega)]; unfold sEntK; rw [if_neg (by omega), if_neg (by omega), if_pos (by omega), (hv9 key (by omega) (by omega)).1], rfl⟩
            · skip
              refine xg_iload 77 dX11_entry_75 rfl rfl ?_
              subst hX
              exact xg_ireturn dX11_entry_77 rfl ⟨Nat.le_refl _, Nat.le_refl _⟩ ⟨by rw [hea]; unfold sEntK; rw [if_neg (by omega), if_pos (by omega)], rfl⟩
        · exfalso; omega
    · skip
      refine xg_aloadn 12 dX11_entry_11 rfl rfl rfl ?_
      refine xg_getP 15 kf_RX11_23 dX11_entry_12 rfl h1 h3 ?_
      refine xg_iloadn 16 dX11_entry_15 rfl rfl rfl ?_
      refine xg_callV 19 8 [_] _ kv_X8_hasRun ⟨_, _, rfl⟩ kl_RX11_121 dX11_entry_16 rfl st9 (by omega) rfl rfl (Nat.le_of_ble_eq_true rfl) (by omega) ⟨Nat.le_refl _, Nat.le_refl _⟩ (ct_X8_hasRun st9 (by omega) (by omega)) rfl ?_
      rw [hw0]
      refine xg_dne 30 22 dX11_entry_19 rfl rfl (fun hb19 => ?_) (fun hb19 => ?_)
      · skip
        refine xg_iloadn 31 dX11_entry_30 rfl rfl rfl ?_
        refine xg_iflt 39 34 dX11_entry_31 rfl rfl (by omega) (fun hb31 => ?_) (fun hb31 => ?_)
        · exfalso; omega
        · skip
          refine xg_iloadn 35 dX11_entry_34 rfl rfl rfl ?_
          refine xg_iconst 36 dX11_entry_35 rfl ?_
          refine xg_icle 47 39 dX11_entry_36 rfl rfl (by omega) (fun hb36 => ?_) (fun hb36 => ?_)
          · skip
            refine xg_aloadn 48 dX11_entry_47 rfl rfl rfl ?_
            refine xg_getP 51 kf_RX11_23 dX11_entry_48 rfl h1 h3 ?_
            refine xg_iloadn 52 dX11_entry_51 rfl rfl rfl ?_
            refine xg_callV 55 8 [_] _ kv_X8_rowNamed ⟨_, _, rfl⟩ kl_RX11_158 dX11_entry_52 rfl st9 (by omega) rfl rfl (Nat.le_of_ble_eq_true rfl) (by omega) ⟨Nat.le_refl _, Nat.le_refl _⟩ (ct_X8_rowNamed hSt hPm (by omega) hv) rfl ?_
            obtain ⟨i9, hi9, hie, hv9⟩ := entry_row (v := v) hw0 o0 hRun hTab hOut hb9.1
            rw [hie]
            have hb : wRow T P (a + 2 + 3 * π i9) := hRows _ (p5 i9 hi9)
            refine xg_astore 57 _ dX11_entry_55 rfl rfl (by decide) (Or.inr rfl) ?_
            refine xg_aload 59 dX11_entry_57 rfl rfl ?_
            refine xg_iloadn 60 dX11_entry_59 rfl rfl rfl ?_
            refine xg_callV 63 6 [_] _ kv_X6_keyAt ⟨_, _, rfl⟩ kl_RX11_162 dX11_entry_60 rfl hb.1 (by omega) rfl rfl (Nat.le_of_ble_eq_true rfl) (by omega) ⟨Nat.le_refl _, Nat.le_refl _⟩ (ct_X6_keyAt hb hkk (fun j j0 j1 => by rw [(hv9 j j0 j1).1]; exact hO.1 _)) rfl ?_
            rw [sKey_cg (g := (fun j => w (sRw v + j))) 60 0 kk (by omega) (by omega) (fun j j0 j1 => (hv9 j j0 j1).1)]
            have hin := sKey_in (f := (fun j => w (sRw v + j))) 60 0 kk (by omega) (by omega)
            have hea : sEntA w v kk y = sEntK w v y (sKey (fun j => w (sRw v + j)) 60 0 kk) := rfl
            generalize sKey (fun j => w (sRw v + j)) 60 0 kk = key at *
            refine xg_istore 65 _ dX11_entry_63 rfl rfl (by decide) (Or.inr rfl) ?_
            refine xg_iload 67 dX11_entry_65 rfl rfl ?_
            refine xg_iconst 68 dX11_entry_67 rfl ?_
            refine xg_iceq 75 71 dX11_entry_68 rfl rfl (by omega) (fun hb68 => ?_) (fun hb68 => ?_)
            · skip
              refine xg_iload 77 dX11_entry_75 rfl rfl ?_
              subst hX
              exact xg_ireturn dX11_entry_77 rfl ⟨Nat.le_refl _, Nat.le_refl _⟩ ⟨by rw [hea]; unfold sEntK; rw [if_pos (by omega)]; exact congrArg (fun v => some (J v)) (by omega), rfl⟩
            · skip
              refine xg_iloadn 72 dX11_entry_71 rfl rfl rfl ?_
              refine xg_ifne 78 75 dX11_entry_72 rfl rfl (by omega) (fun hb72 => ?_) (fun hb72 => ?_)
              · skip
                refine xg_iloadn 79 dX11_entry_78 rfl rfl rfl ?_
                refine xg_iconst 80 dX11_entry_79 rfl ?_
                refine xg_icne 93 83 dX11_entry_80 rfl rfl (by omega) (fun hb80 => ?_) (fun hb80 => ?_)
                · skip
                  refine xg_aload 95 dX11_entry_93 rfl rfl ?_
                  refine xg_iload 97 dX11_entry_95 rfl rfl ?_
                  refine xg_callV 100 6 [_] _ kv_X6_rewritesOf ⟨_, _, rfl⟩ kl_RX11_169 dX11_entry_97 rfl hb.1 (by omega) rfl rfl (Nat.le_of_ble_eq_true rfl) (by omega) ⟨Nat.le_refl _, Nat.le_refl _⟩ (ct_X6_rewritesOf hb (by omega)) rfl ?_
                  subst hX
                  exact xg_ireturn dX11_entry_100 rfl ⟨Nat.le_refl _, Nat.le_refl _⟩ ⟨by rw [hea, if_pos (show 0 ≤ key ∧ key < 60 by omega)]; unfold sEntK; rw [if_neg (by omega), if_neg (by omega), if_neg (by omega), (hv9 key (by omega) (by omega)).2 (by have h9 : (0 ≤ key ∧ key < 60) ∧ w (sRw v + key) ≠ -1 := hin.resolve_left (by omega); exact h9.2)], rfl⟩
                · skip
                  refine xg_aload 85 dX11_entry_83 rfl rfl ?_
                  refine xg_iload 87 dX11_entry_85 rfl rfl ?_
                  refine xg_callV 90 6 [_] _ kv_X6_valueOf ⟨_, _, rfl⟩ kl_RX11_166 dX11_entry_87 rfl hb.1 (by omega) rfl rfl (Nat.le_of_ble_eq_true rfl) (by omega) ⟨Nat.le_refl _, Nat.le_refl _⟩ (ct_X6_valueOf hb (by omega)) rfl ?_
                  refine xg_goto 100 dX11_entry_90 rfl ?_
                  subst hX
                  exact xg_ireturn dX11_entry_100 rfl ⟨Nat.le_refl _, Nat.le_refl _⟩ ⟨by rw [hea, if_pos (show 0 ≤ key ∧ key < 60 by omega)]; unfold sEntK; rw [if_neg (by omega), if_neg (by omega), if_pos (by omega), (hv9 key (by omega) (by omega)).1], rfl⟩
              · skip
                refine xg_iload 77 dX11_entry_75 rfl rfl ?_
                subst hX
                exact xg_ireturn dX11_entry_77 rfl ⟨Nat.le_refl _, Nat.le_refl _⟩ ⟨by rw [hea]; unfold sEntK; rw [if_neg (by omega), if_pos (by omega)], rfl⟩
          · exfalso; omega
      · exfalso; omega

