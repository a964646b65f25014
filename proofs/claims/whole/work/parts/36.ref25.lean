theorem sTb_eq {w : Int → Int} {n s : Nat} (h0 : 0 < s) : ∀ {N : Nat}, N ≤ 256 → s < N → sTb w n N s = sPx w (sTb w n N) s (n + 1) := by
  intro N
  induction N with
  | zero => intro _ h; omega
  | succ N ih =>
    intro hN hs
    have hc : ∀ y, y < s → sTb w n N y = sTb w n (N + 1) y := fun y hy => by rw [sTb, if_neg (by omega)]
    rw [← sPx_cg (by omega) hc (n + 1)]
    by_cases e : s = N
    · subst e; rw [sTb, if_pos rfl, if_neg (by omega)]
    · rw [sTb, if_neg e]
      exact ih (by omega) (by omega)
theorem sPx_ex {w : Int → Int} {t : Nat → Int} {s : Nat} (h : 0 < s ∧ s < 256) (ht : ∀ x, x < s → 0 ≤ t x ∧ t x ≤ 60 * x) : ∀ n : Nat, ∃ j, j < n + 1 ∧ sPb w t s ((j : Int) - 1) = sPx w t s (n + 1)
  | 0 => by
    refine ⟨0, by omega, ?_⟩
    have h1 : 0 ≤ sPb w t s (((0 : Nat) : Int) - 1) := by
      unfold sPb
      rw [if_pos (by omega)]
      exact (ht _ (nF_e h).2.2.2).1
    rw [sPx, sPx]; omega
  | n + 1 => by
    obtain ⟨j, h1, h2⟩ := sPx_ex (w := w) h ht n
    rw [sPx]
    by_cases e : sPx w t s (n + 1) ≤ sPb w t s (((n + 1 : Nat) : Int) - 1)
    · exact ⟨n + 1, by omega, by omega⟩
    · exact ⟨j, by omega, by omega⟩
def nP (w : Int → Int) : Nat := min 8 (wN w)
def sPrs (w : Int → Int) : Nat → Int := sTb w (nP w) (2 ^ nP w)
/-- who is paired with the first of a set (one more than the run; 0 of nobody) -/
def sPp (w : Int → Int) (s : Nat) : Nat := sFst (fun j => sPb w (sPrs w) s ((j : Int) - 1)) (sPrs w s) (nP w + 1)
/-- the partner of r -/
def sPar (w : Int → Int) (r : Nat) : Nat → Nat → Int
  | 0, _ => -1
  | k + 1, s => if nF s = r then (sPp w s : Int) - 1 else if sPp w s = r + 1 then (nF s : Int) else sPar w r k (if sPp w s = 0 then nDel s (nF s) else nDel (nDel s (nF s)) (sPp w s - 1))
theorem sPp_ex {w : Int → Int} {s : Nat} (h : 0 < s ∧ s < 2 ^ nP w) (hN : 2 ^ nP w ≤ 256) : ∃ j, j < nP w + 1 ∧ sPb w (sPrs w) s ((j : Int) - 1) = sPrs w s := by
  unfold sPrs
  rw [sTb_eq h.1 hN h.2]
  exact sPx_ex ⟨h.1, by omega⟩ (fun x hx => sTb_bd _ hN x) (nP w)
theorem n2_tb {r n : Nat} (h : r < n) : (2 ^ n - 1).testBit r = true := by
  rw [Nat.testBit_two_pow_sub_one]; exact decide_eq_true h
theorem nDel_b {s r q : Nat} (hs : s < 256) (hr : r < 8) (hq : q < 8) (h : r ≠ q) : (nDel s r).testBit q = s.testBit q := nDel_b0 ⟨s, hs⟩ ⟨r, hr⟩ ⟨q, hq⟩ (fun e => h (congrArg Fin.val e))
theorem tb_pos {s r : Nat} (h : s.testBit r = true) : 0 < s := by
  cases s with
  | zero => rw [Nat.zero_testBit] at h; cases h
  | succ s => omega
theorem dX12_pairs_0 : decode cX12_pairs 0 = .ok (.aload_n 0, 1) := by decide +kernel
theorem dX12_pairs_1 : decode cX12_pairs 1 = .ok (.iconst 0, 1) := by decide +kernel
theorem dX12_pairs_2 : decode cX12_pairs 2 = .ok (.putfield 3, 3) := by decide +kernel
theorem dX12_pairs_5 : decode cX12_pairs 5 = .ok (.aload_n 0, 1) := by decide +kernel
theorem dX12_pairs_6 : decode cX12_pairs 6 = .ok (.iload_n 1, 1) := by decide +kernel
theorem dX12_pairs_7 : decode cX12_pairs 7 = .ok (.iconst (-1), 1) := by decide +kernel
theorem dX12_pairs_8 : decode cX12_pairs 8 = .ok (.if_icmp .eq 15, 3) := by decide +kernel
theorem dX12_pairs_11 : decode cX12_pairs 11 = .ok (.aload_n 0, 1) := by decide +kernel
theorem dX12_pairs_12 : decode cX12_pairs 12 = .ok (.iload_n 1, 1) := by decide +kernel
theorem dX12_pairs_13 : decode cX12_pairs 13 = .ok (.invokevirtual 373, 3) := by decide +kernel
theorem dX12_pairs_16 : decode cX12_pairs 16 = .ok (.ifCond .eq 7, 3) := by decide +kernel
theorem dX12_pairs_19 : decode cX12_pairs 19 = .ok (.iconst 1, 1) := by decide +kernel
theorem dX12_pairs_20 : decode cX12_pairs 20 = .ok (.goto 4, 3) := by decide +kernel
theorem dX12_pairs_23 : decode cX12_pairs 23 = .ok (.iconst 0, 1) := by decide +kernel
theorem dX12_pairs_24 : decode cX12_pairs 24 = .ok (.iconst 1, 1) := by decide +kernel
theorem dX12_pairs_25 : decode cX12_pairs 25 = .ok (.invokevirtual 251, 3) := by decide +kernel
theorem dX12_pairs_28 : decode cX12_pairs 28 = .ok (.ifCond .eq 5, 3) := by decide +kernel
theorem dX12_pairs_31 : decode cX12_pairs 31 = .ok (.iconst 0, 1) := by decide +kernel
theorem dX12_pairs_32 : decode cX12_pairs 32 = .ok (.ireturn, 1) := by decide +kernel
theorem dX12_pairs_33 : decode cX12_pairs 33 = .ok (.iload_n 1, 1) := by decide +kernel
theorem dX12_pairs_34 : decode cX12_pairs 34 = .ok (.bipush 8, 2) := by decide +kernel
theorem dX12_pairs_36 : decode cX12_pairs 36 = .ok (.if_icmp .lt 5, 3) := by decide +kernel
theorem dX12_pairs_39 : decode cX12_pairs 39 = .ok (.iconst (-1), 1) := by decide +kernel
theorem dX12_pairs_40 : decode cX12_pairs 40 = .ok (.ireturn, 1) := by decide +kernel
theorem dX12_pairs_41 : decode cX12_pairs 41 = .ok (.bipush 8, 2) := by decide +kernel
theorem dX12_pairs_43 : decode cX12_pairs 43 = .ok (.aload_n 0, 1) := by decide +kernel
theorem dX12_pairs_44 : decode cX12_pairs 44 = .ok (.invokevirtual 66, 3) := by decide +kernel
theorem dX12_pairs_47 : decode cX12_pairs 47 = .ok (.invokestatic 74, 3) := by decide +kernel
theorem dX12_pairs_50 : decode cX12_pairs 50 = .ok (.istore_n 2, 1) := by decide +kernel
theorem dX12_pairs_51 : decode cX12_pairs 51 = .ok (.aload_n 0, 1) := by decide +kernel
theorem dX12_pairs_52 : decode cX12_pairs 52 = .ok (.iload_n 2, 1) := by decide +kernel
theorem dX12_pairs_53 : decode cX12_pairs 53 = .ok (.invokevirtual 452, 3) := by decide +kernel
theorem dX12_pairs_56 : decode cX12_pairs 56 = .ok (.iconst 1, 1) := by decide +kernel
theorem dX12_pairs_57 : decode cX12_pairs 57 = .ok (.iload_n 2, 1) := by decide +kernel
theorem dX12_pairs_58 : decode cX12_pairs 58 = .ok (.ishl, 1) := by decide +kernel
theorem dX12_pairs_59 : decode cX12_pairs 59 = .ok (.iconst 1, 1) := by decide +kernel
theorem dX12_pairs_60 : decode cX12_pairs 60 = .ok (.isub, 1) := by decide +kernel
theorem dX12_pairs_61 : decode cX12_pairs 61 = .ok (.istore_n 3, 1) := by decide +kernel
theorem dX12_pairs_62 : decode cX12_pairs 62 = .ok (.iload_n 1, 1) := by decide +kernel
theorem dX12_pairs_63 : decode cX12_pairs 63 = .ok (.iconst (-1), 1) := by decide +kernel
theorem dX12_pairs_64 : decode cX12_pairs 64 = .ok (.if_icmp .ne 10, 3) := by decide +kernel
theorem dX12_pairs_67 : decode cX12_pairs 67 = .ok (.aload_n 0, 1) := by decide +kernel
theorem dX12_pairs_68 : decode cX12_pairs 68 = .ok (.getfield 48, 3) := by decide +kernel
theorem dX12_pairs_71 : decode cX12_pairs 71 = .ok (.iload_n 3, 1) := by decide +kernel
theorem dX12_pairs_72 : decode cX12_pairs 72 = .ok (.iaload, 1) := by decide +kernel
theorem dX12_pairs_73 : decode cX12_pairs 73 = .ok (.ireturn, 1) := by decide +kernel
theorem dX12_pairs_74 : decode cX12_pairs 74 = .ok (.iconst (-1), 1) := by decide +kernel
theorem dX12_pairs_75 : decode cX12_pairs 75 = .ok (.istore 4, 2) := by decide +kernel
theorem dX12_pairs_77 : decode cX12_pairs 77 = .ok (.iconst 0, 1) := by decide +kernel
theorem dX12_pairs_78 : decode cX12_pairs 78 = .ok (.istore 5, 2) := by decide +kernel
theorem dX12_pairs_80 : decode cX12_pairs 80 = .ok (.iload 5, 2) := by decide +kernel
theorem dX12_pairs_82 : decode cX12_pairs 82 = .ok (.ifCond .ne 99, 3) := by decide +kernel
theorem dX12_pairs_85 : decode cX12_pairs 85 = .ok (.iload_n 3, 1) := by decide +kernel
theorem dX12_pairs_86 : decode cX12_pairs 86 = .ok (.invokestatic 428, 3) := by decide +kernel
theorem dX12_pairs_89 : decode cX12_pairs 89 = .ok (.istore 6, 2) := by decide +kernel
theorem dX12_pairs_91 : decode cX12_pairs 91 = .ok (.iconst (-1), 1) := by decide +kernel
theorem dX12_pairs_92 : decode cX12_pairs 92 = .ok (.istore 7, 2) := by decide +kernel
theorem dX12_pairs_94 : decode cX12_pairs 94 = .ok (.aload_n 0, 1) := by decide +kernel
theorem dX12_pairs_95 : decode cX12_pairs 95 = .ok (.iload_n 3, 1) := by decide +kernel
theorem dX12_pairs_96 : decode cX12_pairs 96 = .ok (.iload 7, 2) := by decide +kernel
theorem dX12_pairs_98 : decode cX12_pairs 98 = .ok (.invokevirtual 449, 3) := by decide +kernel
theorem dX12_pairs_101 : decode cX12_pairs 101 = .ok (.aload_n 0, 1) := by decide +kernel
theorem dX12_pairs_102 : decode cX12_pairs 102 = .ok (.getfield 48, 3) := by decide +kernel
theorem dX12_pairs_105 : decode cX12_pairs 105 = .ok (.iload_n 3, 1) := by decide +kernel
theorem dX12_pairs_106 : decode cX12_pairs 106 = .ok (.iaload, 1) := by decide +kernel
theorem dX12_pairs_107 : decode cX12_pairs 107 = .ok (.if_icmp .eq 9, 3) := by decide +kernel
theorem dX12_pairs_110 : decode cX12_pairs 110 = .ok (.iinc 7 1, 3) := by decide +kernel
theorem dX12_pairs_113 : decode cX12_pairs 113 = .ok (.goto (-19), 3) := by decide +kernel
theorem dX12_pairs_116 : decode cX12_pairs 116 = .ok (.iload 6, 2) := by decide +kernel
theorem dX12_pairs_118 : decode cX12_pairs 118 = .ok (.iload_n 1, 1) := by decide +kernel
theorem dX12_pairs_119 : decode cX12_pairs 119 = .ok (.if_icmp .eq 9, 3) := by decide +kernel
theorem dX12_pairs_122 : decode cX12_pairs 122 = .ok (.iload 7, 2) := by decide +kernel
theorem dX12_pairs_124 : decode cX12_pairs 124 = .ok (.iload_n 1, 1) := by decide +kernel
theorem dX12_pairs_125 : decode cX12_pairs 125 = .ok (.if_icmp .ne 7, 3) := by decide +kernel
theorem dX12_pairs_128 : decode cX12_pairs 128 = .ok (.iconst 1, 1) := by decide +kernel
theorem dX12_pairs_129 : decode cX12_pairs 129 = .ok (.goto 4, 3) := by decide +kernel
theorem dX12_pairs_132 : decode cX12_pairs 132 = .ok (.iconst 0, 1) := by decide +kernel
theorem dX12_pairs_133 : decode cX12_pairs 133 = .ok (.istore 5, 2) := by decide +kernel
theorem dX12_pairs_135 : decode cX12_pairs 135 = .ok (.iload 6, 2) := by decide +kernel
theorem dX12_pairs_137 : decode cX12_pairs 137 = .ok (.iload_n 1, 1) := by decide +kernel
theorem dX12_pairs_138 : decode cX12_pairs 138 = .ok (.if_icmp .ne 8, 3) := by decide +kernel
theorem dX12_pairs_141 : decode cX12_pairs 141 = .ok (.iload 7, 2) := by decide +kernel
theorem dX12_pairs_143 : decode cX12_pairs 143 = .ok (.goto 5, 3) := by decide +kernel
theorem dX12_pairs_146 : decode cX12_pairs 146 = .ok (.iload 6, 2) := by decide +kernel
theorem dX12_pairs_148 : decode cX12_pairs 148 = .ok (.istore 4, 2) := by decide +kernel
theorem dX12_pairs_150 : decode cX12_pairs 150 = .ok (.iload_n 3, 1) := by decide +kernel
theorem dX12_pairs_151 : decode cX12_pairs 151 = .ok (.iconst 1, 1) := by decide +kernel
theorem dX12_pairs_152 : decode cX12_pairs 152 = .ok (.iload 6, 2) := by decide +kernel
theorem dX12_pairs_154 : decode cX12_pairs 154 = .ok (.ishl, 1) := by decide +kernel
theorem dX12_pairs_155 : decode cX12_pairs 155 = .ok (.iconst (-1), 1) := by decide +kernel
theorem dX12_pairs_156 : decode cX12_pairs 156 = .ok (.ixor, 1) := by decide +kernel
theorem dX12_pairs_157 : decode cX12_pairs 157 = .ok (.iand, 1) := by decide +kernel
theorem dX12_pairs_158 : decode cX12_pairs 158 = .ok (.istore_n 3, 1) := by decide +kernel
theorem dX12_pairs_159 : decode cX12_pairs 159 = .ok (.iload 7, 2) := by decide +kernel
theorem dX12_pairs_161 : decode cX12_pairs 161 = .ok (.iconst (-1), 1) := by decide +kernel
theorem dX12_pairs_162 : decode cX12_pairs 162 = .ok (.if_icmp .ne 7, 3) := by decide +kernel
theorem dX12_pairs_165 : decode cX12_pairs 165 = .ok (.iload_n 3, 1) := by decide +kernel
theorem dX12_pairs_166 : decode cX12_pairs 166 = .ok (.goto 11, 3) := by decide +kernel
theorem dX12_pairs_169 : decode cX12_pairs 169 = .ok (.iload_n 3, 1) := by decide +kernel
theorem dX12_pairs_170 : decode cX12_pairs 170 = .ok (.iconst 1, 1) := by decide +kernel
theorem dX12_pairs_171 : decode cX12_pairs 171 = .ok (.iload 7, 2) := by decide +kernel
theorem dX12_pairs_173 : decode cX12_pairs 173 = .ok (.ishl, 1) := by decide +kernel
theorem dX12_pairs_174 : decode cX12_pairs 174 = .ok (.iconst (-1), 1) := by decide +kernel
theorem dX12_pairs_175 : decode cX12_pairs 175 = .ok (.ixor, 1) := by decide +kernel
theorem dX12_pairs_176 : decode cX12_pairs 176 = .ok (.iand, 1) := by decide +kernel
theorem dX12_pairs_177 : decode cX12_pairs 177 = .ok (.istore_n 3, 1) := by decide +kernel
theorem dX12_pairs_178 : decode cX12_pairs 178 = .ok (.goto (-98), 3) := by decide +kernel
theorem dX12_pairs_181 : decode cX12_pairs 181 = .ok (.iload 4, 2) := by decide +kernel
theorem dX12_pairs_183 : decode cX12_pairs 183 = .ok (.ireturn, 1) := by decide +kernel
set_option maxHeartbeats 4000000 in
set_option maxRecDepth 100000 in
theorem ct_X12_pairs_t1 {E : xE} {z : Nat} {T : Nat → Nat × Int} {F : Nat → Nat → Int} {I : Nat → Int → Int} {P : Nat → Nat → Option Nat} {Y : Nat → Int → Option Nat} {m : Nat} {w : Int → Int} (hw : wM T P m) (hO : wOk w){v : Int} (hv : -2147483648 ≤ v ∧ v < 2147483648) (hb : v ≠ -1 ∧ ¬ (0 ≤ v ∧ v < w 0)) : Ct E 2 mX12_pairs 0 0 [.ref m, J v] (z, T, F, upA I (m + 1) w, P, Y) (xd (some (J 0)) (z, T, upF F m 0 1, upA I (m + 1) (w), P, Y)) := by
  obtain ⟨⟨q0, q1, q2, q3⟩, -⟩ := id hw
  obtain ⟨hR, o0, o1, o2, o3, o4, o5, o6, oc, o13, o14, o16, o17, o18, ov⟩ := id hO
  have hN := wN_i o0.1
  refine Ct.of [some (.ref m), some (J v), none, none, none, none, none, none] kt_X12_pairs rfl (Nat.le_of_ble_eq_true rfl) rfl (fun d hd => ?_)
  generalize hX : xN E _ _ _ = X
  refine xg_aloadn 1 dX12_pairs_0 rfl rfl rfl ?_
  refine xg_iconst 2 dX12_pairs_1 rfl ?_
  refine xg_putI 5 kf_RX12_3 dX12_pairs_2 rfl (by assumption) ?_
  refine xg_aloadn 6 dX12_pairs_5 rfl rfl rfl ?_
  refine xg_iloadn 7 dX12_pairs_6 rfl rfl rfl ?_
  refine xg_iconst 8 dX12_pairs_7 rfl ?_
  refine xg_iceq 23 11 dX12_pairs_8 rfl rfl (by first | omega | exact hR _ | exact ⟨hR _, by omega⟩ | exact ⟨by omega, hR _⟩ | exact ⟨hR _, hR _⟩) (fun hb8 => ?_) (fun hb8 => ?_)
  · exfalso; omega
  · skip
    refine xg_aloadn 12 dX12_pairs_11 rfl rfl rfl ?_
    refine xg_iloadn 13 dX12_pairs_12 rfl rfl rfl ?_
    refine xg_callV 16 12 [_] _ kv_X12_noRun ⟨_, _, rfl⟩ kl_RX12_373 dX12_pairs_13 rfl (by assumption) (by omega) rfl rfl (Nat.le_of_ble_eq_true rfl) (by omega) ⟨Nat.le_refl _, Nat.le_refl _⟩ (ct_X12_noRun hw o0 (by omega)) rfl ?_
    refine xg_deq 23 19 dX12_pairs_16 rfl rfl (fun hb16 => ?_) (fun hb16 => ?_)
    · exfalso; omega
    · skip
      refine xg_iconst 20 dX12_pairs_19 rfl ?_
      refine xg_goto 24 dX12_pairs_20 rfl ?_
      refine xg_iconst 25 dX12_pairs_24 rfl ?_
      refine xg_callV 28 12 [_, _] _ kv_X12_throwsIf ⟨_, _, rfl⟩ kl_RX12_251 dX12_pairs_25 rfl (by assumption) (by omega) rfl rfl (Nat.le_of_ble_eq_true rfl) (by omega) ⟨Nat.le_refl _, Nat.le_refl _⟩ (ct_throwsT hw) rfl ?_
      refine xg_ifeq 33 31 dX12_pairs_28 rfl rfl (by first | omega | exact hR _ | exact ⟨hR _, by omega⟩ | exact ⟨by omega, hR _⟩ | exact ⟨hR _, hR _⟩) (fun hb28 => ?_) (fun hb28 => ?_)
      · exfalso; omega
      · skip
        refine xg_iconst 32 dX12_pairs_31 rfl ?_
        subst hX
        exact xg_ireturn dX12_pairs_32 rfl ⟨Nat.le_refl _, Nat.le_refl _⟩ ⟨rfl, by rw [upF_upF]⟩

set_option maxHeartbeats 4000000 in
set_option maxRecDepth 100000 in
theorem ct_X12_pairs_far {E : xE} {z : Nat} {T : Nat → Nat × Int} {F : Nat → Nat → Int} {I : Nat → Int → Int} {P : Nat → Nat → Option Nat} {Y : Nat → Int → Option Nat} {m : Nat} {w : Int → Int} (hw : wM T P m) (hO : wOk w){v : Int} (hv : -2147483648 ≤ v ∧ v < 2147483648) (hb : 8 ≤ v ∧ v < w 0) : Ct E 2 mX12_pairs 0 0 [.ref m, J v] (z, T, F, upA I (m + 1) w, P, Y) (xd (some (J (-1))) (z, T, upF F m 0 0, upA I (m + 1) (w), P, Y)) := by
  obtain ⟨⟨q0, q1, q2, q3⟩, -⟩ := id hw
  obtain ⟨hR, o0, o1, o2, o3, o4, o5, o6, oc, o13, o14, o16, o17, o18, ov⟩ := id hO
  have hN := wN_i o0.1
  refine Ct.of [some (.ref m), some (J v), none, none, none, none, none, none] kt_X12_pairs rfl (Nat.le_of_ble_eq_true rfl) rfl (fun d hd => ?_)
  generalize hX : xN E _ _ _ = X
  refine xg_aloadn 1 dX12_pairs_0 rfl rfl rfl ?_
  refine xg_iconst 2 dX12_pairs_1 rfl ?_
  refine xg_putI 5 kf_RX12_3 dX12_pairs_2 rfl (by assumption) ?_
  refine xg_aloadn 6 dX12_pairs_5 rfl rfl rfl ?_
  refine xg_iloadn 7 dX12_pairs_6 rfl rfl rfl ?_
  refine xg_iconst 8 dX12_pairs_7 rfl ?_
  refine xg_iceq 23 11 dX12_pairs_8 rfl rfl (by first | omega | exact hR _ | exact ⟨hR _, by omega⟩ | exact ⟨by omega, hR _⟩ | exact ⟨hR _, hR _⟩) (fun hb8 => ?_) (fun hb8 => ?_)
  · exfalso; omega
  · skip
    refine xg_aloadn 12 dX12_pairs_11 rfl rfl rfl ?_
    refine xg_iloadn 13 dX12_pairs_12 rfl rfl rfl ?_
    refine xg_callV 16 12 [_] _ kv_X12_noRun ⟨_, _, rfl⟩ kl_RX12_373 dX12_pairs_13 rfl (by assumption) (by omega) rfl rfl (Nat.le_of_ble_eq_true rfl) (by omega) ⟨Nat.le_refl _, Nat.le_refl _⟩ (ct_X12_noRun hw o0 (by omega)) rfl ?_
    refine xg_deq 23 19 dX12_pairs_16 rfl rfl (fun hb16 => ?_) (fun hb16 => ?_)
    · skip
      refine xg_iconst 24 dX12_pairs_23 rfl ?_
      refine xg_iconst 25 dX12_pairs_24 rfl ?_
      refine xg_callV 28 12 [_, _] _ kv_X12_throwsIf ⟨_, _, rfl⟩ kl_RX12_251 dX12_pairs_25 rfl (by assumption) (by omega) rfl rfl (Nat.le_of_ble_eq_true rfl) (by omega) ⟨Nat.le_refl _, Nat.le_refl _⟩ (ct_throwsF hw) rfl ?_
      refine xg_ifeq 33 31 dX12_pairs_28 rfl rfl (by first | omega | exact hR _ | exact ⟨hR _, by omega⟩ | exact ⟨by omega, hR _⟩ | exact ⟨hR _, hR _⟩) (fun hb28 => ?_) (fun hb28 => ?_)
      · skip
        refine xg_iloadn 34 dX12_pairs_33 rfl rfl rfl ?_
        refine xg_bipush 36 dX12_pairs_34 rfl (by decide) ?_
        refine xg_iclt 41 39 dX12_pairs_36 rfl rfl (by first | omega | exact hR _ | exact ⟨hR _, by omega⟩ | exact ⟨by omega, hR _⟩ | exact ⟨hR _, hR _⟩) (fun hb36 => ?_) (fun hb36 => ?_)
        · exfalso; omega
        · skip
          refine xg_iconst 40 dX12_pairs_39 rfl ?_
          subst hX
          exact xg_ireturn dX12_pairs_40 rfl ⟨Nat.le_refl _, Nat.le_refl _⟩ ⟨rfl, rfl⟩
      · exfalso; omega
    · exfalso; omega

set_option maxHeartbeats 4000000 in
set_option maxRecDepth 100000 in
theorem ct_X12_pairs_all {E : xE} {z : Nat} {T : Nat → Nat × Int} {F : Nat → Nat → Int} {I : Nat → Int → Int} {P : Nat → Nat → Option Nat} {Y : Nat → Int → Option Nat} {m : Nat} {w : Int → Int} (hw : wM T P m) (hO : wOk w) : Ct E 5 mX12_pairs 0 0 [.ref m, J (-1)] (z, T, F, upA I (m + 1) w, P, Y) (xs m (some (J (sPrs w (2 ^ nP w - 1)))) z T (upF F m 0 0) I w P Y) := by
  obtain ⟨⟨q0, q1, q2, q3⟩, -, -, -, -, -, -, -, -, -, ⟨v1, v2, v3⟩⟩ := id hw
  have v4 : m + 11 ≠ m + 1 := by omega
  obtain ⟨hR, o0, o1, o2, o3, o4, o5, o6, oc, o13, o14, o16, o17, o18, ov⟩ := id hO
  have hN := wN_i o0.1
  have hn8 : min 8 (w 0) = ((nP w : Nat) : Int) := by unfold nP; omega
  have hn7 : nP w ≤ 8 := by unfold nP; omega
  have hn9 : 2 ^ nP w ≤ 256 := Nat.le_trans (Nat.pow_le_pow_right (by omega) hn7) (by decide)
  have hn0 : 0 < 2 ^ nP w := Nat.pow_pos (by omega)
  refine Ct.of [some (.ref m), some (J (-1)), none, none, none, none, none, none] kt_X12_pairs rfl (Nat.le_of_ble_eq_true rfl) rfl (fun d hd => ?_)
  generalize hX : xN E _ _ _ = X
  refine xg_aloadn 1 dX12_pairs_0 rfl rfl rfl ?_
  refine xg_iconst 2 dX12_pairs_1 rfl ?_
  refine xg_putI 5 kf_RX12_3 dX12_pairs_2 rfl (by assumption) ?_
  refine xg_aloadn 6 dX12_pairs_5 rfl rfl rfl ?_
  refine xg_iloadn 7 dX12_pairs_6 rfl rfl rfl ?_
  refine xg_iconst 8 dX12_pairs_7 rfl ?_
  refine xg_iceq 23 11 dX12_pairs_8 rfl rfl (by first | omega | exact hR _ | exact ⟨hR _, by omega⟩ | exact ⟨by omega, hR _⟩ | exact ⟨hR _, hR _⟩) (fun hb8 => ?_) (fun hb8 => ?_)
  · skip
    refine xg_iconst 24 dX12_pairs_23 rfl ?_
    refine xg_iconst 25 dX12_pairs_24 rfl ?_
    refine xg_callV 28 12 [_, _] _ kv_X12_throwsIf ⟨_, _, rfl⟩ kl_RX12_251 dX12_pairs_25 rfl (by assumption) (by omega) rfl rfl (Nat.le_of_ble_eq_true rfl) (by omega) ⟨Nat.le_refl _, Nat.le_refl _⟩ (ct_throwsF hw) rfl ?_
    refine xg_ifeq 33 31 dX12_pairs_28 rfl rfl (by first | omega | exact hR _ | exact ⟨hR _, by omega⟩ | exact ⟨by omega, hR _⟩ | exact ⟨hR _, hR _⟩) (fun hb28 => ?_) (fun hb28 => ?_)
    · skip
      refine xg_iloadn 34 dX12_pairs_33 rfl rfl rfl ?_
      refine xg_bipush 36 dX12_pairs_34 rfl (by decide) ?_
      refine xg_iclt 41 39 dX12_pairs_36 rfl rfl (by first | omega | exact hR _ | exact ⟨hR _, by omega⟩ | exact ⟨by omega, hR _⟩ | exact ⟨hR _, hR _⟩) (fun hb36 => ?_) (fun hb36 => ?_)
      · skip
        refine xg_bipush 43 dX12_pairs_41 rfl (by decide) ?_
        refine xg_aloadn 44 dX12_pairs_43 rfl rfl rfl ?_
        refine xg_callV 47 12 [] _ kv_X12_runs ⟨_, _, rfl⟩ kl_RX12_66 dX12_pairs_44 rfl (by assumption) (by omega) rfl rfl (Nat.le_of_ble_eq_true rfl) (by omega) ⟨Nat.le_refl _, Nat.le_refl _⟩ (ct_X12_runs hw) rfl ?_
        refine xg_mmin 50 kl_RX12_74 dX12_pairs_47 rfl (by first | omega | exact hR _ | exact ⟨hR _, by omega⟩ | exact ⟨by omega, hR _⟩ | exact ⟨hR _, hR _⟩) (Nat.le_of_ble_eq_true rfl) (by omega) ⟨Nat.le_refl _, Nat.le_refl _⟩ ?_
        rw [hn8]
        refine xg_istoren 51 _ dX12_pairs_50 rfl rfl rfl (by decide) (Or.inr rfl) ?_
        refine xg_aloadn 52 dX12_pairs_51 rfl rfl rfl ?_
        refine xg_iloadn 53 dX12_pairs_52 rfl rfl rfl ?_
        refine xg_callV0 (As := [J ((nP w : Nat) : Int)]) 56 kv_X12_laysPairs ⟨_, _, rfl⟩ kl_RX12_452 dX12_pairs_53 rfl (by assumption) (by omega) rfl rfl (Nat.le_of_ble_eq_true rfl) (by omega) ⟨Nat.le_refl _, Nat.le_refl _⟩ (ct_X12_laysPairs hw hO hn7) (fun v h9 e => ?_)
        obtain ⟨rfl, u, hp, rfl⟩ := e
        have hpb := pPr_bd hp hn9
        refine xG_00 ?_
        refine xg_iconst 57 dX12_pairs_56 rfl ?_
        refine xg_iloadn 58 dX12_pairs_57 rfl rfl rfl ?_
        refine xg_ishl 59 dX12_pairs_58 rfl ?_
        rw [xshl1' (by omega)]
        refine xg_iconst 60 dX12_pairs_59 rfl ?_
        refine xg_isub 61 dX12_pairs_60 rfl ?_
        rw [show ((2 ^ nP w : Nat) : Int) - 1 = ((2 ^ nP w - 1 : Nat) : Int) by omega]
        refine xg_istoren 62 _ dX12_pairs_61 rfl rfl rfl (by decide) (Or.inr rfl) ?_
        refine xg_iloadn 63 dX12_pairs_62 rfl rfl rfl ?_
        refine xg_iconst 64 dX12_pairs_63 rfl ?_
        refine xg_icne 74 67 dX12_pairs_64 rfl rfl (by first | omega | exact hR _ | exact ⟨hR _, by omega⟩ | exact ⟨by omega, hR _⟩ | exact ⟨hR _, hR _⟩) (fun hb64 => ?_) (fun hb64 => ?_)
        · exfalso; omega
        · skip
          refine xg_aloadn 68 dX12_pairs_67 rfl rfl rfl ?_
          refine xg_getP 71 kf_RX12_48 dX12_pairs_68 rfl (by assumption) (by assumption) ?_
          refine xg_iloadn 72 dX12_pairs_71 rfl rfl rfl ?_
          refine xg_ialdU 73 dX12_pairs_72 rfl ⟨v2, v4⟩ (by first | omega | exact hR _ | exact ⟨hR _, by omega⟩ | exact ⟨by omega, hR _⟩ | exact ⟨hR _, hR _⟩) ?_
          rw [hp (2 ^ nP w - 1) (by omega)]
          subst hX
          exact xg_ireturn dX12_pairs_73 rfl ⟨Nat.le_refl _, Nat.le_refl _⟩ ⟨rfl, upA I (m + 11) u, xScr.rf.up (by omega) u, rfl⟩
      · exfalso; omega
    · exfalso; omega
  · exfalso; omega

set_option maxHeartbeats 4000000 in
set_option maxRecDepth 100000 in
theorem ct_X12_pairs {E : xE} {z : Nat} {T : Nat → Nat × Int} {F : Nat → Nat → Int} {I : Nat → Int → Int} {P : Nat → Nat → Option Nat} {Y : Nat → Int → Option Nat} {m : Nat} {w : Int → Int} (hw : wM T P m) (hO : wOk w){r : Nat} (hr : r < 8 ∧ (r : Int) < w 0) : Ct E 5 mX12_pairs 0 0 [.ref m, J (r : Int)] (z, T, F, upA I (m + 1) w, P, Y) (xs m (some (J (sPar w r (2 ^ nP w) (2 ^ nP w - 1)))) z T (upF F m 0 0) I w P Y) := by
  obtain ⟨⟨q0, q1, q2, q3⟩, -, -, -, -, -, -, -, -, -, ⟨v1, v2, v3⟩⟩ := id hw
  have v4 : m + 11 ≠ m + 1 := by omega
  obtain ⟨hR, o0, o1, o2, o3, o4, o5, o6, oc, o13, o14, o16, o17, o18, ov⟩ := id hO
  have hN := wN_i o0.1
  have hn8 : min 8 (w 0) = ((nP w : Nat) : Int) := by unfold nP; omega
  have hn7 : nP w ≤ 8 := by unfold nP; omega
  have hn9 : 2 ^ nP w ≤ 256 := Nat.le_trans (Nat.pow_le_pow_right (by omega) hn7) (by decide)
  have hn0 : 0 < 2 ^ nP w := Nat.pow_pos (by omega)
  refine Ct.of [some (.ref m), some (J (r : Int)), none, none, none, none, none, none] kt_X12_pairs rfl (Nat.le_of_ble_eq_true rfl) rfl (fun d hd => ?_)
  generalize hX : xN E _ _ _ = X
  refine xg_aloadn 1 dX12_pairs_0 rfl rfl rfl ?_
  refine xg_iconst 2 dX12_pairs_1 rfl ?_
  refine xg_putI 5 kf_RX12_3 dX12_pairs_2 rfl (by assumption) ?_
  refine xg_aloadn 6 dX12_pairs_5 rfl rfl rfl ?_
  refine xg_iloadn 7 dX12_pairs_6 rfl rfl rfl ?_
  refine xg_iconst 8 dX12_pairs_7 rfl ?_
  refine xg_iceq 23 11 dX12_pairs_8 rfl rfl (by first | omega | exact hR _ | exact ⟨hR _, by omega⟩ | exact ⟨by omega, hR _⟩ | exact ⟨hR _, hR _⟩) (fun hb8 => ?_) (fun hb8 => ?_)
  · exfalso; omega
  · skip
    refine xg_aloadn 12 dX12_pairs_11 rfl rfl rfl ?_
    refine xg_iloadn 13 dX12_pairs_12 rfl rfl rfl ?_
    refine xg_callV 16 12 [_] _ kv_X12_noRun ⟨_, _, rfl⟩ kl_RX12_373 dX12_pairs_13 rfl (by assumption) (by omega) rfl rfl (Nat.le_of_ble_eq_true rfl) (by omega) ⟨Nat.le_refl _, Nat.le_refl _⟩ (ct_X12_noRun hw o0 (by omega)) rfl ?_
    refine xg_deq 23 19 dX12_pairs_16 rfl rfl (fun hb16 => ?_) (fun hb16 => ?_)
    · skip
      refine xg_iconst 24 dX12_pairs_23 rfl ?_
      refine xg_iconst 25 dX12_pairs_24 rfl ?_
      refine xg_callV 28 12 [_, _] _ kv_X12_throwsIf ⟨_, _, rfl⟩ kl_RX12_251 dX12_pairs_25 rfl (by assumption) (by omega) rfl rfl (Nat.le_of_ble_eq_true rfl) (by omega) ⟨Nat.le_refl _, Nat.le_refl _⟩ (ct_throwsF hw) rfl ?_
      refine xg_ifeq 33 31 dX12_pairs_28 rfl rfl (by first | omega | exact hR _ | exact ⟨hR _, by omega⟩ | exact ⟨by omega, hR _⟩ | exact ⟨hR _, hR _⟩) (fun hb28 => ?_) (fun hb28 => ?_)
      · skip
        refine xg_iloadn 34 dX12_pairs_33 rfl rfl rfl ?_
        refine xg_bipush 36 dX12_pairs_34 rfl (by decide) ?_
        refine xg_iclt 41 39 dX12_pairs_36 rfl rfl (by first | omega | exact hR _ | exact ⟨hR _, by omega⟩ | exact ⟨by omega, hR _⟩ | exact ⟨hR _, hR _⟩) (fun hb36 => ?_) (fun hb36 => ?_)
        · skip
          refine xg_bipush 43 dX12_pairs_41 rfl (by decide) ?_
          refine xg_aloadn 44 dX12_pairs_43 rfl rfl rfl ?_
          refine xg_callV 47 12 [] _ kv_X12_runs ⟨_, _, rfl⟩ kl_RX12_66 dX12_pairs_44 rfl (by assumption) (by omega) rfl rfl (Nat.le_of_ble_eq_true rfl) (by omega) ⟨Nat.le_refl _, Nat.le_refl _⟩ (ct_X12_runs hw) rfl ?_
          refine xg_mmin 50 kl_RX12_74 dX12_pairs_47 rfl (by first | omega | exact hR _ | exact ⟨hR _, by omega⟩ | exact ⟨by omega, hR _⟩ | exact ⟨hR _, hR _⟩) (Nat.le_of_ble_eq_true rfl) (by omega) ⟨Nat.le_refl _, Nat.le_refl _⟩ ?_
          rw [hn8]
          refine xg_istoren 51 _ dX12_pairs_50 rfl rfl rfl (by decide) (Or.inr rfl) ?_
          refine xg_aloadn 52 dX12_pairs_51 rfl rfl rfl ?_
          refine xg_iloadn 53 dX12_pairs_52 rfl rfl rfl ?_
          refine xg_callV0 (As := [J ((nP w : Nat) : Int)]) 56 kv_X12_laysPairs ⟨_, _, rfl⟩ kl_RX12_452 dX12_pairs_53 rfl (by assumption) (by omega) rfl rfl (Nat.le_of_ble_eq_true rfl) (by omega) ⟨Nat.le_refl _, Nat.le_refl _⟩ (ct_X12_laysPairs hw hO hn7) (fun v h9 e => ?_)
          obtain ⟨rfl, u, hp, rfl⟩ := e
          have hpb := pPr_bd hp hn9
          refine xG_00 ?_
          refine xg_iconst 57 dX12_pairs_56 rfl ?_
          refine xg_iloadn 58 dX12_pairs_57 rfl rfl rfl ?_
          refine xg_ishl 59 dX12_pairs_58 rfl ?_
          rw [xshl1' (by omega)]
          refine xg_iconst 60 dX12_pairs_59 rfl ?_
          refine xg_isub 61 dX12_pairs_60 rfl ?_
          rw [show ((2 ^ nP w : Nat) : Int) - 1 = ((2 ^ nP w - 1 : Nat) : Int) by omega]
          refine xg_istoren 62 _ dX12_pairs_61 rfl rfl rfl (by decide) (Or.inr rfl) ?_
          refine xg_iloadn 63 dX12_pairs_62 rfl rfl rfl ?_
          refine xg_iconst 64 dX12_pairs_63 rfl ?_
          refine xg_icne 74 67 dX12_pairs_64 rfl rfl (by first | omega | exact hR _ | exact ⟨hR _, by omega⟩ | exact ⟨by omega, hR _⟩ | exact ⟨hR _, hR _⟩) (fun hb64 => ?_) (fun hb64 => ?_)
          · skip
            refine xg_iconst 75 dX12_pairs_74 rfl ?_
            refine xg_istore 77 _ dX12_pairs_75 rfl rfl (by decide) (Or.inr rfl) ?_
            refine xg_iconst 78 dX12_pairs_77 rfl ?_
            refine xg_istore 80 _ dX12_pairs_78 rfl rfl (by decide) (Or.inr rfl) ?_
            have loop80 : ∀ (mm : Nat) (s : Nat) (pt dn : Int) (k : Nat), ((dn = 1 ∧ pt = sPar w r (2 ^ nP w) (2 ^ nP w - 1)) ∨ (dn = 0 ∧ 0 < s ∧ s < 2 ^ nP w ∧ s ≤ k ∧ s.testBit r = true ∧ sPar w r k s = sPar w r (2 ^ nP w) (2 ^ nP w - 1))) → (s : Int) < (mm : Int) → xG E mX12_pairs (xR d 0 0) X 80 [some (.ref m), some (J (r : Int)), some (J ((nP w : Nat) : Int)), some (J (s : Int)), some (J pt), some (J dn), none, none] [] (z, T, upF F m 0 0, upA (upA I (m + 11) u) (m + 1) w, P, Y) 0 0 := by
              intro mm
              induction mm with
              | zero => intro s pt dn k hs hm; exfalso; omega
              | succ mm ih =>
                intro s pt dn k hs hm
                have hdn : dn = 0 ∨ dn = 1 := by rcases hs with q | q; exact Or.inr q.1; exact Or.inl q.1
                refine xg_iload 82 dX12_pairs_80 rfl rfl ?_
                refine xg_ifne 181 85 dX12_pairs_82 rfl rfl (by first | omega | exact hR _ | exact ⟨hR _, by omega⟩ | exact ⟨by omega, hR _⟩ | exact ⟨hR _, hR _⟩) (fun hb82 => ?_) (fun hb82 => ?_)
                · skip
                  refine xg_iload 183 dX12_pairs_181 rfl rfl ?_
                  subst hX
                  exact xg_ireturn dX12_pairs_183 rfl ⟨Nat.le_refl _, Nat.le_refl _⟩ ⟨by rw [show pt = sPar w r (2 ^ nP w) (2 ^ nP w - 1) from by rcases hs with q | q; exact q.2; exact absurd q.1 hb82], upA I (m + 11) u, xScr.rf.up (by omega) u, rfl⟩
                · skip
                  obtain ⟨-, hs1, hs2, hs3, hs4, hs5⟩ := hs.resolve_left (by omega)
                  obtain ⟨k, rfl⟩ : ∃ k9, k = k9 + 1 := ⟨k - 1, by omega⟩
                  have nf := nF_e (s := s) ⟨hs1, by omega⟩
                  refine xg_iloadn 86 dX12_pairs_85 rfl rfl rfl ?_
                  refine xg_callS 89 [_] _ ks_X12_firstOf kl_RX12_428 dX12_pairs_86 rfl rfl rfl (Nat.le_of_ble_eq_true rfl) (by omega) ⟨Nat.le_refl _, Nat.le_refl _⟩ (ct_X12_firstOf (by omega)) rfl ?_
                  rw [nf.1]
                  refine xg_istore 91 _ dX12_pairs_89 rfl rfl (by decide) (Or.inr rfl) ?_
                  refine xg_iconst 92 dX12_pairs_91 rfl ?_
                  refine xg_istore 94 _ dX12_pairs_92 rfl rfl (by decide) (Or.inr rfl) ?_
                  have loop94 : ∀ (mm : Nat) (j : Nat), (j < nP w + 1 ∧ ∀ i, i < j → sPb w (sPrs w) s ((i : Int) - 1) ≠ sPrs w s) → (nP w : Int) + 1 - j < (mm : Int) → xG E mX12_pairs (xR d 0 0) X 94 [some (.ref m), some (J (r : Int)), some (J ((nP w : Nat) : Int)), some (J (s : Int)), some (J pt), some (J dn), some (J ((nF s : Nat) : Int)), some (J ((j : Int) - 1))] [] (z, T, upF F m 0 0, upA (upA I (m + 11) u) (m + 1) w, P, Y) 0 0 := by
                    intro mm
                    induction mm with
                    | zero => intro j hj hm; exfalso; omega
                    | succ mm ih2 =>
                      intro j hj hm
                      refine xg_aloadn 95 dX12_pairs_94 rfl rfl rfl ?_
                      refine xg_iloadn 96 dX12_pairs_95 rfl rfl rfl ?_
                      refine xg_iload 98 dX12_pairs_96 rfl rfl ?_
                      refine xg_callV 101 12 [_, _] _ kv_X12_pairedBy ⟨_, _, rfl⟩ kl_RX12_449 dX12_pairs_98 rfl (by assumption) (by omega) rfl rfl (Nat.le_of_ble_eq_true rfl) (by omega) ⟨Nat.le_refl _, Nat.le_refl _⟩ (ct_X12_pairedBy hw hO ⟨hs1, by omega⟩ (by omega)) rfl ?_
                      rw [upA_at, sPb_cg (t' := sPrs w) ⟨hs1, by omega⟩ (fun x hx => hp x (by omega))]
                      have hb9 := sPb_bd (w := w) (t := sPrs w) (s := s) ⟨hs1, by omega⟩ (fun x _ => sTb_bd _ hn9 x) ((j : Int) - 1)
                      refine xg_aloadn 102 dX12_pairs_101 rfl rfl rfl ?_
                      refine xg_getP 105 kf_RX12_48 dX12_pairs_102 rfl (by assumption) (by assumption) ?_
                      refine xg_iloadn 106 dX12_pairs_105 rfl rfl rfl ?_
                      refine xg_ialdU 107 dX12_pairs_106 rfl ⟨v2, v4⟩ (by first | omega | exact hR _ | exact ⟨hR _, by omega⟩ | exact ⟨by omega, hR _⟩ | exact ⟨hR _, hR _⟩) ?_
                      rw [show u (s : Int) = sPrs w s from hp s hs2]
                      have hb10 : 0 ≤ sPrs w s ∧ sPrs w s ≤ 60 * s := sTb_bd _ hn9 s
                      refine xg_iceq 116 110 dX12_pairs_107 rfl rfl (by first | omega | exact hR _ | exact ⟨hR _, by omega⟩ | exact ⟨by omega, hR _⟩ | exact ⟨hR _, hR _⟩) (fun hb107 => ?_) (fun hb107 => ?_)
                      · skip
                        refine xg_iload 118 dX12_pairs_116 rfl rfl ?_
                        refine xg_iloadn 119 dX12_pairs_118 rfl rfl rfl ?_
                        refine xg_iceq 128 122 dX12_pairs_119 rfl rfl (by first | omega | exact hR _ | exact ⟨hR _, by omega⟩ | exact ⟨by omega, hR _⟩ | exact ⟨hR _, hR _⟩) (fun hb119 => ?_) (fun hb119 => ?_)
                        · skip
                          refine xg_iconst 129 dX12_pairs_128 rfl ?_
                          refine xg_goto 133 dX12_pairs_129 rfl ?_
                          refine xg_istore 135 _ dX12_pairs_133 rfl rfl (by decide) (Or.inr rfl) ?_
                          refine xg_iload 137 dX12_pairs_135 rfl rfl ?_
                          refine xg_iloadn 138 dX12_pairs_137 rfl rfl rfl ?_
                          refine xg_icne 146 141 dX12_pairs_138 rfl rfl (by first | omega | exact hR _ | exact ⟨hR _, by omega⟩ | exact ⟨by omega, hR _⟩ | exact ⟨hR _, hR _⟩) (fun hb138 => ?_) (fun hb138 => ?_)
                          · first
                            | (exfalso; omega)
                            | skip
                              refine xg_iload 148 dX12_pairs_146 rfl rfl ?_
                              refine xg_istore 150 _ dX12_pairs_148 rfl rfl (by decide) (Or.inr rfl) ?_
                              refine xg_iloadn 151 dX12_pairs_150 rfl rfl rfl ?_
                              refine xg_iconst 152 dX12_pairs_151 rfl ?_
                              refine xg_iload 154 dX12_pairs_152 rfl rfl ?_
                              refine xg_ishl 155 dX12_pairs_154 rfl ?_
                              refine xg_iconst 156 dX12_pairs_155 rfl ?_
                              refine xg_ixor 157 dX12_pairs_156 rfl ?_
                              refine xg_iand 158 dX12_pairs_157 rfl ?_
                              rw [nDel_e (by omega) (by omega)]
                              refine xg_istoren 159 _ dX12_pairs_158 rfl rfl rfl (by decide) (Or.inr rfl) ?_
                              refine xg_iload 161 dX12_pairs_159 rfl rfl ?_
                              refine xg_iconst 162 dX12_pairs_161 rfl ?_
                              refine xg_icne 169 165 dX12_pairs_162 rfl rfl (by first | omega | exact hR _ | exact ⟨hR _, by omega⟩ | exact ⟨by omega, hR _⟩ | exact ⟨hR _, hR _⟩) (fun hb162 => ?_) (fun hb162 => ?_)
                              · skip
                                refine xg_iloadn 170 dX12_pairs_169 rfl rfl rfl ?_
                                refine xg_iconst 171 dX12_pairs_170 rfl ?_
                                have nd1 := nDel_le (nDel s (nF s)) (j - 1)
                                rw [show (j : Int) - 1 = ((j - 1 : Nat) : Int) by omega]
                                refine xg_iload 173 dX12_pairs_171 rfl rfl ?_
                                refine xg_ishl 174 dX12_pairs_173 rfl ?_
                                refine xg_iconst 175 dX12_pairs_174 rfl ?_
                                refine xg_ixor 176 dX12_pairs_175 rfl ?_
                                refine xg_iand 177 dX12_pairs_176 rfl ?_
                                rw [nDel_e (by omega) (by omega)]
                                refine xg_istoren 178 _ dX12_pairs_177 rfl rfl rfl (by decide) (Or.inr rfl) ?_
                                refine xg_goto 80 dX12_pairs_178 rfl ?_
                                exfalso; omega
                              · skip
                                refine xg_iloadn 166 dX12_pairs_165 rfl rfl rfl ?_
                                refine xg_goto 177 dX12_pairs_166 rfl ?_
                                skip
                                refine xg_istoren 178 _ dX12_pairs_177 rfl rfl rfl (by decide) (Or.inr rfl) ?_
                                refine xg_goto 80 dX12_pairs_178 rfl ?_
                                exfalso; omega
                          · first
                            | (exfalso; omega)
                            | skip
                              refine xg_iload 143 dX12_pairs_141 rfl rfl ?_
                              refine xg_goto 148 dX12_pairs_143 rfl ?_
                              refine xg_istore 150 _ dX12_pairs_148 rfl rfl (by decide) (Or.inr rfl) ?_
                              refine xg_iloadn 151 dX12_pairs_150 rfl rfl rfl ?_
                              refine xg_iconst 152 dX12_pairs_151 rfl ?_
                              refine xg_iload 154 dX12_pairs_152 rfl rfl ?_
                              refine xg_ishl 155 dX12_pairs_154 rfl ?_
                              refine xg_iconst 156 dX12_pairs_155 rfl ?_
                              refine xg_ixor 157 dX12_pairs_156 rfl ?_
                              refine xg_iand 158 dX12_pairs_157 rfl ?_
                              rw [nDel_e (by omega) (by omega)]
                              refine xg_istoren 159 _ dX12_pairs_158 rfl rfl rfl (by decide) (Or.inr rfl) ?_
                              refine xg_iload 161 dX12_pairs_159 rfl rfl ?_
                              refine xg_iconst 162 dX12_pairs_161 rfl ?_
                              refine xg_icne 169 165 dX12_pairs_162 rfl rfl (by first | omega | exact hR _ | exact ⟨hR _, by omega⟩ | exact ⟨by omega, hR _⟩ | exact ⟨hR _, hR _⟩) (fun hb162 => ?_) (fun hb162 => ?_)
                              · skip
                                refine xg_iloadn 170 dX12_pairs_169 rfl rfl rfl ?_
                                refine xg_iconst 171 dX12_pairs_170 rfl ?_
                                have nd1 := nDel_le (nDel s (nF s)) (j - 1)
                                rw [show (j : Int) - 1 = ((j - 1 : Nat) : Int) by omega]
                                refine xg_iload 173 dX12_pairs_171 rfl rfl ?_
                                refine xg_ishl 174 dX12_pairs_173 rfl ?_
                                refine xg_iconst 175 dX12_pairs_174 rfl ?_
                                refine xg_ixor 176 dX12_pairs_175 rfl ?_
                                refine xg_iand 177 dX12_pairs_176 rfl ?_
                                rw [nDel_e (by omega) (by omega)]
                                refine xg_istoren 178 _ dX12_pairs_177 rfl rfl rfl (by decide) (Or.inr rfl) ?_
                                refine xg_goto 80 dX12_pairs_178 rfl ?_
                                have hj7 : sPp w s = j := sFst_at hj.2 hb107 hj.1
                                exact xg_weak _ (xle_s rfl (xle_s rfl (xle_s rfl (xle_s rfl (xle_s rfl (xle_s rfl (xle_n (xle_n xle_0)))))))) (ih _ _ _ 0 (Or.inl ⟨rfl, by rw [← hs5, sPar, if_pos (by omega), hj7] <;> omega⟩) (by omega))
                              · skip
                                refine xg_iloadn 166 dX12_pairs_165 rfl rfl rfl ?_
                                refine xg_goto 177 dX12_pairs_166 rfl ?_
                                skip
                                refine xg_istoren 178 _ dX12_pairs_177 rfl rfl rfl (by decide) (Or.inr rfl) ?_
                                refine xg_goto 80 dX12_pairs_178 rfl ?_
                                have hj7 : sPp w s = j := sFst_at hj.2 hb107 hj.1
                                exact xg_weak _ (xle_s rfl (xle_s rfl (xle_s rfl (xle_s rfl (xle_s rfl (xle_s rfl (xle_n (xle_n xle_0)))))))) (ih _ _ _ 0 (Or.inl ⟨rfl, by rw [← hs5, sPar, if_pos (by omega), hj7] <;> omega⟩) (by omega))
                        · skip
                          refine xg_iload 124 dX12_pairs_122 rfl rfl ?_
                          refine xg_iloadn 125 dX12_pairs_124 rfl rfl rfl ?_
                          refine xg_icne 132 128 dX12_pairs_125 rfl rfl (by first | omega | exact hR _ | exact ⟨hR _, by omega⟩ | exact ⟨by omega, hR _⟩ | exact ⟨hR _, hR _⟩) (fun hb125 => ?_) (fun hb125 => ?_)
                          · skip
                            refine xg_iconst 133 dX12_pairs_132 rfl ?_
                            refine xg_istore 135 _ dX12_pairs_133 rfl rfl (by decide) (Or.inr rfl) ?_
                            refine xg_iload 137 dX12_pairs_135 rfl rfl ?_
                            refine xg_iloadn 138 dX12_pairs_137 rfl rfl rfl ?_
                            refine xg_icne 146 141 dX12_pairs_138 rfl rfl (by first | omega | exact hR _ | exact ⟨hR _, by omega⟩ | exact ⟨by omega, hR _⟩ | exact ⟨hR _, hR _⟩) (fun hb138 => ?_) (fun hb138 => ?_)
                            · first
                              | (exfalso; omega)
                              | skip
                                refine xg_iload 148 dX12_pairs_146 rfl rfl ?_
                                refine xg_istore 150 _ dX12_pairs_148 rfl rfl (by decide) (Or.inr rfl) ?_
                                refine xg_iloadn 151 dX12_pairs_150 rfl rfl rfl ?_
                                refine xg_iconst 152 dX12_pairs_151 rfl ?_
                                refine xg_iload 154 dX12_pairs_152 rfl rfl ?_
                                refine xg_ishl 155 dX12_pairs_154 rfl ?_
                                refine xg_iconst 156 dX12_pairs_155 rfl ?_
                                refine xg_ixor 157 dX12_pairs_156 rfl ?_
                                refine xg_iand 158 dX12_pairs_157 rfl ?_
                                rw [nDel_e (by omega) (by omega)]
                                refine xg_istoren 159 _ dX12_pairs_158 rfl rfl rfl (by decide) (Or.inr rfl) ?_
                                refine xg_iload 161 dX12_pairs_159 rfl rfl ?_
                                refine xg_iconst 162 dX12_pairs_161 rfl ?_
                                refine xg_icne 169 165 dX12_pairs_162 rfl rfl (by first | omega | exact hR _ | exact ⟨hR _, by omega⟩ | exact ⟨by omega, hR _⟩ | exact ⟨hR _, hR _⟩) (fun hb162 => ?_) (fun hb162 => ?_)
                                · skip
                                  refine xg_iloadn 170 dX12_pairs_169 rfl rfl rfl ?_
                                  refine xg_iconst 171 dX12_pairs_170 rfl ?_
                                  have nd1 := nDel_le (nDel s (nF s)) (j - 1)
                                  rw [show (j : Int) - 1 = ((j - 1 : Nat) : Int) by omega]
                                  refine xg_iload 173 dX12_pairs_171 rfl rfl ?_
                                  refine xg_ishl 174 dX12_pairs_173 rfl ?_
                                  refine xg_iconst 175 dX12_pairs_174 rfl ?_
                                  refine xg_ixor 176 dX12_pairs_175 rfl ?_
                                  refine xg_iand 177 dX12_pairs_176 rfl ?_
                                  rw [nDel_e (by omega) (by omega)]
                                  refine xg_istoren 178 _ dX12_pairs_177 rfl rfl rfl (by decide) (Or.inr rfl) ?_
                                  refine xg_goto 80 dX12_pairs_178 rfl ?_
                                  have hj7 : sPp w s = j := sFst_at hj.2 hb107 hj.1
                                  have ht9 : (nDel (nDel s (nF s)) (j - 1)).testBit r = true := by rw [nDel_b (by omega) (by omega) (by omega) (by omega), nDel_b (by omega) (by omega) (by omega) (by omega)]; exact hs4
                                  have hp9 := tb_pos ht9
                                  exact xg_weak _ (xle_s rfl (xle_s rfl (xle_s rfl (xle_s rfl (xle_s rfl (xle_s rfl (xle_n (xle_n xle_0)))))))) (ih _ _ _ k (Or.inr ⟨rfl, hp9, by omega, by omega, ht9, by rw [← hs5, sPar, if_neg (by omega), if_neg (by omega), hj7, if_neg (by omega)]⟩) (by omega))
                                · skip
                                  refine xg_iloadn 166 dX12_pairs_165 rfl rfl rfl ?_
                                  refine xg_goto 177 dX12_pairs_166 rfl ?_
                                  skip
                                  refine xg_istoren 178 _ dX12_pairs_177 rfl rfl rfl (by decide) (Or.inr rfl) ?_
                                  refine xg_goto 80 dX12_pairs_178 rfl ?_
                                  have hj7 : sPp w s = j := sFst_at hj.2 hb107 hj.1
                                  have ht9 : (nDel s (nF s)).testBit r = true := by rw [nDel_b (by omega) (by omega) (by omega) (by omega)]; exact hs4
                                  have hp9 := tb_pos ht9
                                  exact xg_weak _ (xle_s rfl (xle_s rfl (xle_s rfl (xle_s rfl (xle_s rfl (xle_s rfl (xle_n (xle_n xle_0)))))))) (ih _ _ _ k (Or.inr ⟨rfl, hp9, by omega, by omega, ht9, by rw [← hs5, sPar, if_neg (by omega), if_neg (by omega), hj7, if_pos (by omega)]⟩) (by omega))
                            · first
                              | (exfalso; omega)
                              | skip
                                refine xg_iload 143 dX12_pairs_141 rfl rfl ?_
                                refine xg_goto 148 dX12_pairs_143 rfl ?_
                                refine xg_istore 150 _ dX12_pairs_148 rfl rfl (by decide) (Or.inr rfl) ?_
                                refine xg_iloadn 151 dX12_pairs_150 rfl rfl rfl ?_
                                refine xg_iconst 152 dX12_pairs_151 rfl ?_
                                refine xg_iload 154 dX12_pairs_152 rfl rfl ?_
                                refine xg_ishl 155 dX12_pairs_154 rfl ?_
                                refine xg_iconst 156 dX12_pairs_155 rfl ?_
                                refine xg_ixor 157 dX12_pairs_156 rfl ?_
                                refine xg_iand 158 dX12_pairs_157 rfl ?_
                                rw [nDel_e (by omega) (by omega)]
                                refine xg_istoren 159 _ dX12_pairs_158 rfl rfl rfl (by decide) (Or.inr rfl) ?_
                                refine xg_iload 161 dX12_pairs_159 rfl rfl ?_
                                refine xg_iconst 162 dX12_pairs_161 rfl ?_
                                refine xg_icne 169 165 dX12_pairs_162 rfl rfl (by first | omega | exact hR _ | exact ⟨hR _, by omega⟩ | exact ⟨by omega, hR _⟩ | exact ⟨hR _, hR _⟩) (fun hb162 => ?_) (fun hb162 => ?_)
                                · skip
                                  refine xg_iloadn 170 dX12_pairs_169 rfl rfl rfl ?_
                                  refine xg_iconst 171 dX12_pairs_170 rfl ?_
                                  have nd1 := nDel_le (nDel s (nF s)) (j - 1)
                                  rw [show (j : Int) - 1 = ((j - 1 : Nat) : Int) by omega]
                                  refine xg_iload 173 dX12_pairs_171 rfl rfl ?_
                                  refine xg_ishl 174 dX12_pairs_173 rfl ?_
                                  refine xg_iconst 175 dX12_pairs_174 rfl ?_
                                  refine xg_ixor 176 dX12_pairs_175 rfl ?_
                                  refine xg_iand 177 dX12_pairs_176 rfl ?_
                                  rw [nDel_e (by omega) (by omega)]
                                  refine xg_istoren 178 _ dX12_pairs_177 rfl rfl rfl (by decide) (Or.inr rfl) ?_
                                  refine xg_goto 80 dX12_pairs_178 rfl ?_
                                  exfalso; omega
                                · skip
                                  refine xg_iloadn 166 dX12_pairs_165 rfl rfl rfl ?_
                                  refine xg_goto 177 dX12_pairs_166 rfl ?_
                                  skip
                                  refine xg_istoren 178 _ dX12_pairs_177 rfl rfl rfl (by decide) (Or.inr rfl) ?_
                                  refine xg_goto 80 dX12_pairs_178 rfl ?_
                                  exfalso; omega
                          · skip
                            refine xg_iconst 129 dX12_pairs_128 rfl ?_
                            refine xg_goto 133 dX12_pairs_129 rfl ?_
                            refine xg_istore 135 _ dX12_pairs_133 rfl rfl (by decide) (Or.inr rfl) ?_
                            refine xg_iload 137 dX12_pairs_135 rfl rfl ?_
                            refine xg_iloadn 138 dX12_pairs_137 rfl rfl rfl ?_
                            refine xg_icne 146 141 dX12_pairs_138 rfl rfl (by first | omega | exact hR _ | exact ⟨hR _, by omega⟩ | exact ⟨by omega, hR _⟩ | exact ⟨hR _, hR _⟩) (fun hb138 => ?_) (fun hb138 => ?_)
                            · first
                              | (exfalso; omega)
                              | skip
                                refine xg_iload 148 dX12_pairs_146 rfl rfl ?_
                                refine xg_istore 150 _ dX12_pairs_148 rfl rfl (by decide) (Or.inr rfl) ?_
                                refine xg_iloadn 151 dX12_pairs_150 rfl rfl rfl ?_
                                refine xg_iconst 152 dX12_pairs_151 rfl ?_
                                refine xg_iload 154 dX12_pairs_152 rfl rfl ?_
                                refine xg_ishl 155 dX12_pairs_154 rfl ?_
                                refine xg_iconst 156 dX12_pairs_155 rfl ?_
                                refine xg_ixor 157 dX12_pairs_156 rfl ?_
                                refine xg_iand 158 dX12_pairs_157 rfl ?_
                                rw [nDel_e (by omega) (by omega)]
                                refine xg_istoren 159 _ dX12_pairs_158 rfl rfl rfl (by decide) (Or.inr rfl) ?_
                                refine xg_iload 161 dX12_pairs_159 rfl rfl ?_
                                refine xg_iconst 162 dX12_pairs_161 rfl ?_
                                refine xg_icne 169 165 dX12_pairs_162 rfl rfl (by first | omega | exact hR _ | exact ⟨hR _, by omega⟩ | exact ⟨by omega, hR _⟩ | exact ⟨hR _, hR _⟩) (fun hb162 => ?_) (fun hb162 => ?_)
                                · skip
                                  refine xg_iloadn 170 dX12_pairs_169 rfl rfl rfl ?_
                                  refine xg_iconst 171 dX12_pairs_170 rfl ?_
                                  have nd1 := nDel_le (nDel s (nF s)) (j - 1)
                                  rw [show (j : Int) - 1 = ((j - 1 : Nat) : Int) by omega]
                                  refine xg_iload 173 dX12_pairs_171 rfl rfl ?_
                                  refine xg_ishl 174 dX12_pairs_173 rfl ?_
                                  refine xg_iconst 175 dX12_pairs_174 rfl ?_
                                  refine xg_ixor 176 dX12_pairs_175 rfl ?_
                                  refine xg_iand 177 dX12_pairs_176 rfl ?_
                                  rw [nDel_e (by omega) (by omega)]
                                  refine xg_istoren 178 _ dX12_pairs_177 rfl rfl rfl (by decide) (Or.inr rfl) ?_
                                  refine xg_goto 80 dX12_pairs_178 rfl ?_
                                  have hj7 : sPp w s = j := sFst_at hj.2 hb107 hj.1
                                  exact xg_weak _ (xle_s rfl (xle_s rfl (xle_s rfl (xle_s rfl (xle_s rfl (xle_s rfl (xle_n (xle_n xle_0)))))))) (ih _ _ _ 0 (Or.inl ⟨rfl, by rw [← hs5, sPar, if_neg (by omega), if_pos (by omega)]⟩) (by omega))
                                · skip
                                  refine xg_iloadn 166 dX12_pairs_165 rfl rfl rfl ?_
                                  refine xg_goto 177 dX12_pairs_166 rfl ?_
                                  skip
                                  refine xg_istoren 178 _ dX12_pairs_177 rfl rfl rfl (by decide) (Or.inr rfl) ?_
                                  refine xg_goto 80 dX12_pairs_178 rfl ?_
                                  have hj7 : sPp w s = j := sFst_at hj.2 hb107 hj.1
                                  exact xg_weak _ (xle_s rfl (xle_s rfl (xle_s rfl (xle_s rfl (xle_s rfl (xle_s rfl (xle_n (xle_n xle_0)))))))) (ih _ _ _ 0 (Or.inl ⟨rfl, by rw [← hs5, sPar, if_neg (by omega), if_pos (by omega)]⟩) (by omega))
                            · first
                              | (exfalso; omega)
                              | skip
                                refine xg_iload 143 dX12_pairs_141 rfl rfl ?_
                                refine xg_goto 148 dX12_pairs_143 rfl ?_
                                refine xg_istore 150 _ dX12_pairs_148 rfl rfl (by decide) (Or.inr rfl) ?_
                                refine xg_iloadn 151 dX12_pairs_150 rfl rfl rfl ?_
                                refine xg_iconst 152 dX12_pairs_151 rfl ?_
                                refine xg_iload 154 dX12_pairs_152 rfl rfl ?_
                                refine xg_ishl 155 dX12_pairs_154 rfl ?_
                                refine xg_iconst 156 dX12_pairs_155 rfl ?_
                                refine xg_ixor 157 dX12_pairs_156 rfl ?_
                                refine xg_iand 158 dX12_pairs_157 rfl ?_
                                rw [nDel_e (by omega) (by omega)]
                                refine xg_istoren 159 _ dX12_pairs_158 rfl rfl rfl (by decide) (Or.inr rfl) ?_
                                refine xg_iload 161 dX12_pairs_159 rfl rfl ?_
                                refine xg_iconst 162 dX12_pairs_161 rfl ?_
                                refine xg_icne 169 165 dX12_pairs_162 rfl rfl (by first | omega | exact hR _ | exact ⟨hR _, by omega⟩ | exact ⟨by omega, hR _⟩ | exact ⟨hR _, hR _⟩) (fun hb162 => ?_) (fun hb162 => ?_)
                                · skip
                                  refine xg_iloadn 170 dX12_pairs_169 rfl rfl rfl ?_
                                  refine xg_iconst 171 dX12_pairs_170 rfl ?_
                                  have nd1 := nDel_le (nDel s (nF s)) (j - 1)
                                  rw [show (j : Int) - 1 = ((j - 1 : Nat) : Int) by omega]
                                  refine xg_iload 173 dX12_pairs_171 rfl rfl ?_
                                  refine xg_ishl 174 dX12_pairs_173 rfl ?_
                                  refine xg_iconst 175 dX12_pairs_174 rfl ?_
                                  refine xg_ixor 176 dX12_pairs_175 rfl ?_
                                  refine xg_iand 177 dX12_pairs_176 rfl ?_
                                  rw [nDel_e (by omega) (by omega)]
                                  refine xg_istoren 178 _ dX12_pairs_177 rfl rfl rfl (by decide) (Or.inr rfl) ?_
                                  refine xg_goto 80 dX12_pairs_178 rfl ?_
                                  exfalso; omega
                                · skip
                                  refine xg_iloadn 166 dX12_pairs_165 rfl rfl rfl ?_
                                  refine xg_goto 177 dX12_pairs_166 rfl ?_
                                  skip
                                  refine xg_istoren 178 _ dX12_pairs_177 rfl rfl rfl (by decide) (Or.inr rfl) ?_
                                  refine xg_goto 80 dX12_pairs_178 rfl ?_
                                  exfalso; omega
                      · skip
                        refine xg_iinc 113 _ dX12_pairs_110 rfl rfl rfl rfl (by decide) (Or.inr rfl) ?_
                        refine xg_goto 94 dX12_pairs_113 rfl ?_
                        exact xg_weak _ (xle_s rfl (xle_s rfl (xle_s rfl (xle_s rfl (xle_s rfl (xle_s rfl (xle_s rfl (xle_s (by rw [show (j : Int) - 1 + 1 = ((j + 1 : Nat) : Int) - 1 by omega]) xle_0)))))))) (ih2 (j + 1) ⟨by obtain ⟨j9, h8, h9⟩ := sPp_ex (w := w) (s := s) ⟨hs1, hs2⟩ hn9; have h7 : ¬ j9 < j := (fun q => hj.2 j9 q h9); have h6 : j9 ≠ j := (fun q => hb107 (by rw [← q]; exact h9)); omega, fun i hi => by by_cases e : i = j; (subst e; exact hb107); exact hj.2 i (by omega)⟩ (by omega))
                  exact xg_weak _ (xle_s rfl (xle_s rfl (xle_s rfl (xle_s rfl (xle_s rfl (xle_s rfl (xle_s rfl (xle_s (by rw [show (((0 : Nat) : Int) - 1) = -1 by omega]) xle_0)))))))) (loop94 20 0 ⟨by omega, fun i hi => absurd hi (Nat.not_lt_zero _)⟩ (by omega))
            have ht9 := n2_tb (r := r) (n := nP w) (by unfold nP; omega)
            have hp9 := tb_pos ht9
            exact xg_weak _ (xle_s rfl (xle_s rfl (xle_s rfl (xle_s rfl (xle_s rfl (xle_s rfl (xle_n (xle_n xle_0)))))))) (loop80 300 (2 ^ nP w - 1) (-1) 0 (2 ^ nP w) (Or.inr ⟨rfl, hp9, by omega, by omega, ht9, rfl⟩) (by omega))
          · exfalso; omega
        · exfalso; omega
      · exfalso; omega
    · exfalso; omega

