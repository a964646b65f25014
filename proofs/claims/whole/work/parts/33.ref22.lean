/-- the runs from f to t, as a set -/
def nIv (f t : Nat) : Nat := 2 ^ (t + 1) - 2 ^ f
theorem xshl2 : ∀ r : Fin 29, xshl 2 ((r.val : Nat) : Int) = ((2 ^ (r.val + 1) : Nat) : Int) := by decide +kernel
theorem nIv_i {f t : Nat} (ht : t < 28) (hf : f ≤ t) : xshl 2 (t : Int) - xshl 1 (f : Int) = ((nIv f t : Nat) : Int) := by
  have h : 2 ^ f ≤ 2 ^ (t + 1) := Nat.pow_le_pow_right (by omega) (by omega)
  rw [xshl2 ⟨t, by omega⟩, xshl1' (by omega)]
  unfold nIv
  show ((2 ^ (t + 1) : Nat) : Int) - ((2 ^ f : Nat) : Int) = _
  omega
theorem nIv_lt {f t : Nat} (ht : t < 28) : nIv f t < 2147483648 := by
  have h : 2 ^ (t + 1) ≤ 2 ^ 28 := Nat.pow_le_pow_right (by omega) (by omega)
  unfold nIv
  exact Nat.lt_of_le_of_lt (Nat.sub_le _ _) (by omega)
def sStr (w : Int → Int) (f t : Nat) : Int := sEntIn w (nIv f t)
def pMin (g : Nat → Int) (init : Int) : Nat → Int
  | 0 => init
  | j + 1 => min (pMin g init j) (g j)
/-- what merging the k + 1 runs from f on costs at least, k up to the given one -/
def sMg (w : Int → Int) : Nat → Nat → Nat → Int
  | 0, _, _ => 0
  | K + 1, k, f => if k = K + 1 then pMin (fun j => sMg w K j f + sMg w K (K - j) (f + j + 1) + sStr w f (f + K + 1)) 1000000 (K + 1) else sMg w K k f
theorem pMin_bd {g : Nat → Int} {i B : Int} (hi : 0 ≤ i ∧ i ≤ B) : ∀ n : Nat, (∀ j, j < n → 0 ≤ g j) → 0 ≤ pMin g i n ∧ pMin g i n ≤ B
  | 0, _ => hi
  | n + 1, h => by
    have h1 := pMin_bd (g := g) hi n (fun j hj => h j (by omega))
    have h2 := h n (by omega)
    rw [pMin]; omega
theorem sMg_bd {w : Int → Int} (h : w 0 ≤ 12) : ∀ K k f : Nat, 0 ≤ sMg w K k f ∧ sMg w K k f ≤ 1000000
  | 0, _, _ => by simp [sMg]
  | K + 1, k, f => by
    rw [sMg]
    split
    · refine pMin_bd (by omega) _ (fun j _ => ?_)
      have h1 := sMg_bd h K j f
      have h2 := sMg_bd h K (K - j) (f + j + 1)
      have h3 := sEntIn_bd (w := w) (nIv f (f + K + 1)) h
      have h4 : sStr w f (f + K + 1) = sEntIn w (nIv f (f + K + 1)) := rfl
      omega
    · exact sMg_bd h K k f
theorem sMg_st (w : Int → Int) : ∀ {K k f : Nat}, k ≤ K → sMg w (K + 1) k f = sMg w K k f := by
  intro K k f h
  rw [sMg, if_neg (by omega)]
theorem sMg_le (w : Int → Int) {k : Nat} : ∀ {K f : Nat}, k ≤ K → sMg w K k f = sMg w k k f := by
  intro K
  induction K with
  | zero => intro f h; rw [show k = 0 by omega]
  | succ K ih =>
    intro f h
    by_cases e : k = K + 1
    · subst e; rfl
    · rw [sMg_st w (show k ≤ K by omega), ih (by omega)]
/-- the table holds the costs of all shorter stretches, and of the ones of K + 1 runs that begin ahead of f0 -/
def pLs (w u : Int → Int) (K f0 : Nat) : Prop := ∀ k f : Nat, (f : Int) + k < w 0 → (k < K ∨ (k = K ∧ f < f0)) → u (12 * (f : Int) + (f + k)) = sMg w k k f
def sMgA (w : Int → Int) (K f : Nat) (j : Nat) : Int := sMg w j j f + sMg w (K - j) (K - j) (f + j + 1) + sStr w f (f + K + 1)
theorem sMg_s (w : Int → Int) (K f : Nat) : sMg w (K + 1) (K + 1) f = pMin (sMgA w K f) 1000000 (K + 1) := by
  rw [sMg, if_pos rfl]
  have : ∀ n : Nat, n ≤ K + 1 → pMin (fun j => sMg w K j f + sMg w K (K - j) (f + j + 1) + sStr w f (f + K + 1)) 1000000 n = pMin (sMgA w K f) 1000000 n := by
    intro n
    induction n with
    | zero => intro _; rfl
    | succ n ih =>
      intro hn
      rw [pMin, pMin, ih (by omega)]
      unfold sMgA
      rw [sMg_le w (show n ≤ K by omega), sMg_le w (show K - n ≤ K by omega)]
  exact this (K + 1) (Nat.le_refl _)
theorem pLs_S {w u : Int → Int} {K f0 : Nat} (h : pLs w u K f0) (hw : w 0 ≤ 12) (hn : (f0 : Int) + K < w 0) : pLs w (wS u (12 * (f0 : Int) + (f0 + K)) (sMg w K K f0)) K (f0 + 1) := by
  intro k f h1 h2
  by_cases e : 12 * (f : Int) + (f + k) = 12 * (f0 : Int) + (f0 + K)
  · have ef : f = f0 := by omega
    have ek : k = K := by omega
    subst ef; subst ek
    rw [wS_at]
  · rw [wS_ne _ _ _ e]
    exact h k f h1 (by omega)
def xLs (m : Nat) (z : Nat) (T : Nat → Nat × Int) (F : Nat → Nat → Int) (I : Nat → Int → Int) (w : Int → Int) (P : Nat → Nat → Option Nat) (Y : Nat → Int → Option Nat) : Option Value → xH → Prop :=
  fun v h' => v = none ∧ ∃ u : Int → Int, pLs w u (wN w) 0 ∧ h' = (z, T, F, upA (upA I (m + 9) u) (m + 1) w, P, Y)
theorem dX12_stretchOf_0 : decode cX12_stretchOf 0 = .ok (.aload_n 0, 1) := by decide +kernel
theorem dX12_stretchOf_1 : decode cX12_stretchOf 1 = .ok (.iconst 2, 1) := by decide +kernel
theorem dX12_stretchOf_2 : decode cX12_stretchOf 2 = .ok (.iload_n 2, 1) := by decide +kernel
theorem dX12_stretchOf_3 : decode cX12_stretchOf 3 = .ok (.ishl, 1) := by decide +kernel
theorem dX12_stretchOf_4 : decode cX12_stretchOf 4 = .ok (.iconst 1, 1) := by decide +kernel
theorem dX12_stretchOf_5 : decode cX12_stretchOf 5 = .ok (.iload_n 1, 1) := by decide +kernel
theorem dX12_stretchOf_6 : decode cX12_stretchOf 6 = .ok (.ishl, 1) := by decide +kernel
theorem dX12_stretchOf_7 : decode cX12_stretchOf 7 = .ok (.isub, 1) := by decide +kernel
theorem dX12_stretchOf_8 : decode cX12_stretchOf 8 = .ok (.invokevirtual 262, 3) := by decide +kernel
theorem dX12_stretchOf_11 : decode cX12_stretchOf 11 = .ok (.ireturn, 1) := by decide +kernel
set_option maxHeartbeats 4000000 in
set_option maxRecDepth 100000 in
theorem ct_X12_stretchOf {E : xE} {z : Nat} {T : Nat → Nat × Int} {F : Nat → Nat → Int} {I : Nat → Int → Int} {P : Nat → Nat → Option Nat} {Y : Nat → Int → Option Nat} {m : Nat} {w : Int → Int} (hw : wM T P m) (hO : wOk w){f t : Nat} (hf : f ≤ t ∧ t < 12) : Ct E 3 mX12_stretchOf 0 0 [.ref m, J (f : Int), J (t : Int)] (z, T, F, upA I (m + 1) w, P, Y) (xd (some (J (sStr w f t))) (z, T, F, upA I (m + 1) w, P, Y)) := by
  obtain ⟨⟨q0, q1, q2, q3⟩, -⟩ := id hw
  refine Ct.of [some (.ref m), some (J (f : Int)), some (J (t : Int))] kt_X12_stretchOf rfl (Nat.le_of_ble_eq_true rfl) rfl (fun d hd => ?_)
  generalize hX : xN E _ _ _ = X
  refine xg_aloadn 1 dX12_stretchOf_0 rfl rfl rfl ?_
  refine xg_iconst 2 dX12_stretchOf_1 rfl ?_
  refine xg_iloadn 3 dX12_stretchOf_2 rfl rfl rfl ?_
  refine xg_ishl 4 dX12_stretchOf_3 rfl ?_
  refine xg_iconst 5 dX12_stretchOf_4 rfl ?_
  refine xg_iloadn 6 dX12_stretchOf_5 rfl rfl rfl ?_
  refine xg_ishl 7 dX12_stretchOf_6 rfl ?_
  refine xg_isub 8 dX12_stretchOf_7 rfl ?_
  rw [nIv_i (by omega) hf.1]
  refine xg_callV 11 12 [_] _ kv_X12_entriesIn ⟨_, _, rfl⟩ kl_RX12_262 dX12_stretchOf_8 rfl (by assumption) (by omega) rfl rfl (Nat.le_of_ble_eq_true rfl) (by omega) ⟨Nat.le_refl _, Nat.le_refl _⟩ (ct_X12_entriesIn hw hO (nIv_lt (by omega))) rfl ?_
  subst hX
  exact xg_ireturn dX12_stretchOf_11 rfl ⟨Nat.le_refl _, Nat.le_refl _⟩ ⟨rfl, rfl⟩

theorem dX12_mergedAt_0 : decode cX12_mergedAt 0 = .ok (.aload_n 0, 1) := by decide +kernel
theorem dX12_mergedAt_1 : decode cX12_mergedAt 1 = .ok (.getfield 42, 3) := by decide +kernel
theorem dX12_mergedAt_4 : decode cX12_mergedAt 4 = .ok (.bipush 12, 2) := by decide +kernel
theorem dX12_mergedAt_6 : decode cX12_mergedAt 6 = .ok (.iload_n 1, 1) := by decide +kernel
theorem dX12_mergedAt_7 : decode cX12_mergedAt 7 = .ok (.imul, 1) := by decide +kernel
theorem dX12_mergedAt_8 : decode cX12_mergedAt 8 = .ok (.iload_n 2, 1) := by decide +kernel
theorem dX12_mergedAt_9 : decode cX12_mergedAt 9 = .ok (.iadd, 1) := by decide +kernel
theorem dX12_mergedAt_10 : decode cX12_mergedAt 10 = .ok (.iaload, 1) := by decide +kernel
theorem dX12_mergedAt_11 : decode cX12_mergedAt 11 = .ok (.aload_n 0, 1) := by decide +kernel
theorem dX12_mergedAt_12 : decode cX12_mergedAt 12 = .ok (.getfield 42, 3) := by decide +kernel
theorem dX12_mergedAt_15 : decode cX12_mergedAt 15 = .ok (.bipush 12, 2) := by decide +kernel
theorem dX12_mergedAt_17 : decode cX12_mergedAt 17 = .ok (.iload_n 2, 1) := by decide +kernel
theorem dX12_mergedAt_18 : decode cX12_mergedAt 18 = .ok (.iconst 1, 1) := by decide +kernel
theorem dX12_mergedAt_19 : decode cX12_mergedAt 19 = .ok (.iadd, 1) := by decide +kernel
theorem dX12_mergedAt_20 : decode cX12_mergedAt 20 = .ok (.imul, 1) := by decide +kernel
theorem dX12_mergedAt_21 : decode cX12_mergedAt 21 = .ok (.iload_n 3, 1) := by decide +kernel
theorem dX12_mergedAt_22 : decode cX12_mergedAt 22 = .ok (.iadd, 1) := by decide +kernel
theorem dX12_mergedAt_23 : decode cX12_mergedAt 23 = .ok (.iaload, 1) := by decide +kernel
theorem dX12_mergedAt_24 : decode cX12_mergedAt 24 = .ok (.iadd, 1) := by decide +kernel
theorem dX12_mergedAt_25 : decode cX12_mergedAt 25 = .ok (.aload_n 0, 1) := by decide +kernel
theorem dX12_mergedAt_26 : decode cX12_mergedAt 26 = .ok (.iload_n 1, 1) := by decide +kernel
theorem dX12_mergedAt_27 : decode cX12_mergedAt 27 = .ok (.iload_n 3, 1) := by decide +kernel
theorem dX12_mergedAt_28 : decode cX12_mergedAt 28 = .ok (.invokevirtual 403, 3) := by decide +kernel
theorem dX12_mergedAt_31 : decode cX12_mergedAt 31 = .ok (.iadd, 1) := by decide +kernel
theorem dX12_mergedAt_32 : decode cX12_mergedAt 32 = .ok (.ireturn, 1) := by decide +kernel
set_option maxHeartbeats 4000000 in
set_option maxRecDepth 100000 in
theorem ct_X12_mergedAt {E : xE} {z : Nat} {T : Nat → Nat × Int} {F : Nat → Nat → Int} {I : Nat → Int → Int} {P : Nat → Nat → Option Nat} {Y : Nat → Int → Option Nat} {m : Nat} {w : Int → Int} (hw : wM T P m) (hO : wOk w){f s t : Nat} (hf : f ≤ s ∧ s < t ∧ t < 12) (h1 : 0 ≤ I (m + 9) (12 * (f : Int) + s) ∧ I (m + 9) (12 * (f : Int) + s) ≤ 1000000) : Ct E 4 mX12_mergedAt 0 0 [.ref m, J (f : Int), J (s : Int), J (t : Int)] (z, T, F, upA I (m + 1) w, P, Y) (xd (some (J (I (m + 9) (12 * (f : Int) + s) + I (m + 9) (12 * ((s : Int) + 1) + t) + sStr w f t))) (z, T, F, upA I (m + 1) w, P, Y)) := by
  obtain ⟨⟨q0, q1, q2, q3⟩, -, -, -, -, -, -, -, ⟨v1, v2, v3⟩, -⟩ := id hw
  have v4 : m + 9 ≠ m + 1 := by omega
  refine Ct.of [some (.ref m), some (J (f : Int)), some (J (s : Int)), some (J (t : Int))] kt_X12_mergedAt rfl (Nat.le_of_ble_eq_true rfl) rfl (fun d hd => ?_)
  generalize hX : xN E _ _ _ = X
  refine xg_aloadn 1 dX12_mergedAt_0 rfl rfl rfl ?_
  refine xg_getP 4 kf_RX12_42 dX12_mergedAt_1 rfl (by assumption) (by assumption) ?_
  refine xg_bipush 6 dX12_mergedAt_4 rfl (by decide) ?_
  refine xg_iloadn 7 dX12_mergedAt_6 rfl rfl rfl ?_
  refine xg_imul 8 dX12_mergedAt_7 rfl ?_
  refine xg_iloadn 9 dX12_mergedAt_8 rfl rfl rfl ?_
  refine xg_iadd 10 dX12_mergedAt_9 rfl ?_
  refine xg_ialdV 11 dX12_mergedAt_10 rfl ⟨v2, v4⟩ (by first | omega | exact hR _ | exact ⟨hR _, by omega⟩ | exact ⟨by omega, hR _⟩ | exact ⟨hR _, hR _⟩) ?_
  refine xg_aloadn 12 dX12_mergedAt_11 rfl rfl rfl ?_
  refine xg_getP 15 kf_RX12_42 dX12_mergedAt_12 rfl (by assumption) (by assumption) ?_
  refine xg_bipush 17 dX12_mergedAt_15 rfl (by decide) ?_
  refine xg_iloadn 18 dX12_mergedAt_17 rfl rfl rfl ?_
  refine xg_iconst 19 dX12_mergedAt_18 rfl ?_
  refine xg_iadd 20 dX12_mergedAt_19 rfl ?_
  refine xg_imul 21 dX12_mergedAt_20 rfl ?_
  refine xg_iloadn 22 dX12_mergedAt_21 rfl rfl rfl ?_
  refine xg_iadd 23 dX12_mergedAt_22 rfl ?_
  refine xg_ialdV 24 dX12_mergedAt_23 rfl ⟨v2, v4⟩ (by first | omega | exact hR _ | exact ⟨hR _, by omega⟩ | exact ⟨by omega, hR _⟩ | exact ⟨hR _, hR _⟩) ?_
  refine xg_iadd 25 dX12_mergedAt_24 rfl ?_
  refine xg_aloadn 26 dX12_mergedAt_25 rfl rfl rfl ?_
  refine xg_iloadn 27 dX12_mergedAt_26 rfl rfl rfl ?_
  refine xg_iloadn 28 dX12_mergedAt_27 rfl rfl rfl ?_
  refine xg_callV 31 12 [_, _] _ kv_X12_stretchOf ⟨_, _, rfl⟩ kl_RX12_403 dX12_mergedAt_28 rfl (by assumption) (by omega) rfl rfl (Nat.le_of_ble_eq_true rfl) (by omega) ⟨Nat.le_refl _, Nat.le_refl _⟩ (ct_X12_stretchOf hw hO (by omega)) rfl ?_
  refine xg_iadd 32 dX12_mergedAt_31 rfl ?_
  subst hX
  exact xg_ireturn dX12_mergedAt_32 rfl ⟨Nat.le_refl _, Nat.le_refl _⟩ ⟨rfl, rfl⟩

theorem dX12_laysMerges_0 : decode cX12_laysMerges 0 = .ok (.iconst 1, 1) := by decide +kernel
theorem dX12_laysMerges_1 : decode cX12_laysMerges 1 = .ok (.istore_n 1, 1) := by decide +kernel
theorem dX12_laysMerges_2 : decode cX12_laysMerges 2 = .ok (.iload_n 1, 1) := by decide +kernel
theorem dX12_laysMerges_3 : decode cX12_laysMerges 3 = .ok (.aload_n 0, 1) := by decide +kernel
theorem dX12_laysMerges_4 : decode cX12_laysMerges 4 = .ok (.invokevirtual 66, 3) := by decide +kernel
theorem dX12_laysMerges_7 : decode cX12_laysMerges 7 = .ok (.if_icmp .gt 90, 3) := by decide +kernel
theorem dX12_laysMerges_10 : decode cX12_laysMerges 10 = .ok (.iconst 0, 1) := by decide +kernel
theorem dX12_laysMerges_11 : decode cX12_laysMerges 11 = .ok (.istore_n 2, 1) := by decide +kernel
theorem dX12_laysMerges_12 : decode cX12_laysMerges 12 = .ok (.iload_n 2, 1) := by decide +kernel
theorem dX12_laysMerges_13 : decode cX12_laysMerges 13 = .ok (.iload_n 1, 1) := by decide +kernel
theorem dX12_laysMerges_14 : decode cX12_laysMerges 14 = .ok (.iadd, 1) := by decide +kernel
theorem dX12_laysMerges_15 : decode cX12_laysMerges 15 = .ok (.aload_n 0, 1) := by decide +kernel
theorem dX12_laysMerges_16 : decode cX12_laysMerges 16 = .ok (.invokevirtual 66, 3) := by decide +kernel
theorem dX12_laysMerges_19 : decode cX12_laysMerges 19 = .ok (.if_icmp .gt 72, 3) := by decide +kernel
theorem dX12_laysMerges_22 : decode cX12_laysMerges 22 = .ok (.iload_n 2, 1) := by decide +kernel
theorem dX12_laysMerges_23 : decode cX12_laysMerges 23 = .ok (.iload_n 1, 1) := by decide +kernel
theorem dX12_laysMerges_24 : decode cX12_laysMerges 24 = .ok (.iadd, 1) := by decide +kernel
theorem dX12_laysMerges_25 : decode cX12_laysMerges 25 = .ok (.iconst 1, 1) := by decide +kernel
theorem dX12_laysMerges_26 : decode cX12_laysMerges 26 = .ok (.isub, 1) := by decide +kernel
theorem dX12_laysMerges_27 : decode cX12_laysMerges 27 = .ok (.istore_n 3, 1) := by decide +kernel
theorem dX12_laysMerges_28 : decode cX12_laysMerges 28 = .ok (.iload_n 1, 1) := by decide +kernel
theorem dX12_laysMerges_29 : decode cX12_laysMerges 29 = .ok (.iconst 1, 1) := by decide +kernel
theorem dX12_laysMerges_30 : decode cX12_laysMerges 30 = .ok (.if_icmp .ne 7, 3) := by decide +kernel
theorem dX12_laysMerges_33 : decode cX12_laysMerges 33 = .ok (.iconst 0, 1) := by decide +kernel
theorem dX12_laysMerges_34 : decode cX12_laysMerges 34 = .ok (.goto 6, 3) := by decide +kernel
theorem dX12_laysMerges_37 : decode cX12_laysMerges 37 = .ok (.ldc_w 406, 3) := by decide +kernel
theorem dX12_laysMerges_40 : decode cX12_laysMerges 40 = .ok (.istore 4, 2) := by decide +kernel
theorem dX12_laysMerges_42 : decode cX12_laysMerges 42 = .ok (.iload_n 2, 1) := by decide +kernel
theorem dX12_laysMerges_43 : decode cX12_laysMerges 43 = .ok (.istore 5, 2) := by decide +kernel
theorem dX12_laysMerges_45 : decode cX12_laysMerges 45 = .ok (.iload 5, 2) := by decide +kernel
theorem dX12_laysMerges_47 : decode cX12_laysMerges 47 = .ok (.iload_n 3, 1) := by decide +kernel
theorem dX12_laysMerges_48 : decode cX12_laysMerges 48 = .ok (.if_icmp .ge 24, 3) := by decide +kernel
theorem dX12_laysMerges_51 : decode cX12_laysMerges 51 = .ok (.iload 4, 2) := by decide +kernel
theorem dX12_laysMerges_53 : decode cX12_laysMerges 53 = .ok (.aload_n 0, 1) := by decide +kernel
theorem dX12_laysMerges_54 : decode cX12_laysMerges 54 = .ok (.iload_n 2, 1) := by decide +kernel
theorem dX12_laysMerges_55 : decode cX12_laysMerges 55 = .ok (.iload 5, 2) := by decide +kernel
theorem dX12_laysMerges_57 : decode cX12_laysMerges 57 = .ok (.iload_n 3, 1) := by decide +kernel
theorem dX12_laysMerges_58 : decode cX12_laysMerges 58 = .ok (.invokevirtual 407, 3) := by decide +kernel
theorem dX12_laysMerges_61 : decode cX12_laysMerges 61 = .ok (.invokestatic 74, 3) := by decide +kernel
theorem dX12_laysMerges_64 : decode cX12_laysMerges 64 = .ok (.istore 4, 2) := by decide +kernel
theorem dX12_laysMerges_66 : decode cX12_laysMerges 66 = .ok (.iinc 5 1, 3) := by decide +kernel
theorem dX12_laysMerges_69 : decode cX12_laysMerges 69 = .ok (.goto (-24), 3) := by decide +kernel
theorem dX12_laysMerges_72 : decode cX12_laysMerges 72 = .ok (.aload_n 0, 1) := by decide +kernel
theorem dX12_laysMerges_73 : decode cX12_laysMerges 73 = .ok (.getfield 42, 3) := by decide +kernel
theorem dX12_laysMerges_76 : decode cX12_laysMerges 76 = .ok (.bipush 12, 2) := by decide +kernel
theorem dX12_laysMerges_78 : decode cX12_laysMerges 78 = .ok (.iload_n 2, 1) := by decide +kernel
theorem dX12_laysMerges_79 : decode cX12_laysMerges 79 = .ok (.imul, 1) := by decide +kernel
theorem dX12_laysMerges_80 : decode cX12_laysMerges 80 = .ok (.iload_n 3, 1) := by decide +kernel
theorem dX12_laysMerges_81 : decode cX12_laysMerges 81 = .ok (.iadd, 1) := by decide +kernel
theorem dX12_laysMerges_82 : decode cX12_laysMerges 82 = .ok (.iload 4, 2) := by decide +kernel
theorem dX12_laysMerges_84 : decode cX12_laysMerges 84 = .ok (.iastore, 1) := by decide +kernel
theorem dX12_laysMerges_85 : decode cX12_laysMerges 85 = .ok (.iinc 2 1, 3) := by decide +kernel
theorem dX12_laysMerges_88 : decode cX12_laysMerges 88 = .ok (.goto (-76), 3) := by decide +kernel
theorem dX12_laysMerges_91 : decode cX12_laysMerges 91 = .ok (.iinc 1 1, 3) := by decide +kernel
theorem dX12_laysMerges_94 : decode cX12_laysMerges 94 = .ok (.goto (-92), 3) := by decide +kernel
theorem dX12_laysMerges_97 : decode cX12_laysMerges 97 = .ok (.return_, 1) := by decide +kernel
def sBst (w : Int → Int) (K f j : Nat) : Int := if K = 0 then 0 else pMin (sMgA w (K - 1) f) 1000000 j
theorem sBst_e (w : Int → Int) (K f : Nat) : sBst w K f K = sMg w K K f := by
  unfold sBst
  cases K with
  | zero => rfl
  | succ K => rw [if_neg (by omega), sMg_s]; rfl
theorem sBst_s (w : Int → Int) {K f j : Nat} (h : K ≠ 0) : sBst w K f (j + 1) = min (sBst w K f j) (sMgA w (K - 1) f j) := by
  unfold sBst; rw [if_neg h, if_neg h, pMin]
theorem sBst_bd {w : Int → Int} (h : w 0 ≤ 12) (K f j : Nat) : 0 ≤ sBst w K f j ∧ sBst w K f j ≤ 1000000 := by
  unfold sBst
  split
  · omega
  · refine pMin_bd (by omega) _ (fun j _ => ?_)
    have h1 := sMg_bd h j j f
    have h2 := sMg_bd h (K - 1 - j) (K - 1 - j) (f + j + 1)
    have h3 := sEntIn_bd (w := w) (nIv f (f + (K - 1) + 1)) h
    have h4 : sStr w f (f + (K - 1) + 1) = sEntIn w (nIv f (f + (K - 1) + 1)) := rfl
    unfold sMgA; omega
set_option maxHeartbeats 4000000 in
set_option maxRecDepth 100000 in
theorem ct_X12_laysMerges {E : xE} {z : Nat} {T : Nat → Nat × Int} {F : Nat → Nat → Int} {I : Nat → Int → Int} {P : Nat → Nat → Option Nat} {Y : Nat → Int → Option Nat} {m : Nat} {w : Int → Int} (hw : wM T P m) (hO : wOk w) : Ct E 5 mX12_laysMerges 0 0 [.ref m] (z, T, F, upA I (m + 1) w, P, Y) (xLs m z T F I w P Y) := by
  obtain ⟨⟨q0, q1, q2, q3⟩, -, -, -, -, -, -, -, ⟨v1, v2, v3⟩, -⟩ := id hw
  have v4 : m + 9 ≠ m + 1 := by omega
  obtain ⟨hR, o0, o1, o2, o3, o4, o5, o6, oc, o13, o14, o16, o17, o18, ov⟩ := id hO
  have hN := wN_i o0.1
  refine Ct.of [some (.ref m), none, none, none, none, none] kt_X12_laysMerges rfl (Nat.le_of_ble_eq_true rfl) rfl (fun d hd => ?_)
  generalize hX : xN E _ _ _ = X
  refine xg_own (m + 9) (m + 1) ?_
  refine xg_iconst 1 dX12_laysMerges_0 rfl ?_
  refine xg_istoren 2 _ dX12_laysMerges_1 rfl rfl rfl (by decide) (Or.inr rfl) ?_
  have loop2 : ∀ (mm : Nat) (K : Nat) (u : Int → Int) (a b c v : Option Value), ((K : Int) ≤ w 0) → pLs w u K 0 → w 0 + 1 - K < (mm : Int) → xG E mX12_laysMerges (xR d 0 0) X 2 [some (.ref m), some (J ((K : Int) + 1)), none, none, none, none] [] (z, T, F, upA (upA I (m + 9) u) (m + 1) w, P, Y) 0 0 := by
    intro mm
    induction mm with
    | zero => intro K u a b c v hK hp hm; exfalso; omega
    | succ mm ih =>
      intro K u a b c v hK hp hm
      refine xg_iloadn 3 dX12_laysMerges_2 rfl rfl rfl ?_
      refine xg_aloadn 4 dX12_laysMerges_3 rfl rfl rfl ?_
      refine xg_callV 7 12 [] _ kv_X12_runs ⟨_, _, rfl⟩ kl_RX12_66 dX12_laysMerges_4 rfl (by assumption) (by omega) rfl rfl (Nat.le_of_ble_eq_true rfl) (by omega) ⟨Nat.le_refl _, Nat.le_refl _⟩ (ct_X12_runs hw) rfl ?_
      refine xg_icgt 97 10 dX12_laysMerges_7 rfl rfl (by first | omega | exact hR _ | exact ⟨hR _, by omega⟩ | exact ⟨by omega, hR _⟩ | exact ⟨hR _, hR _⟩) (fun hb7 => ?_) (fun hb7 => ?_)
      · skip
        subst hX
        exact xg_return dX12_laysMerges_97 rfl ⟨Nat.le_refl _, Nat.le_refl _⟩ ⟨rfl, u, by rw [show wN w = K by omega]; exact hp, rfl⟩
      · skip
        refine xg_iconst 11 dX12_laysMerges_10 rfl ?_
        refine xg_istoren 12 _ dX12_laysMerges_11 rfl rfl rfl (by decide) (Or.inr rfl) ?_
        have loop12 : ∀ (mm : Nat) (f : Nat) (u : Int → Int) (a b c : Option Value), ((f : Int) + K ≤ w 0) → pLs w u K f → w 0 - f < (mm : Int) → xG E mX12_laysMerges (xR d 0 0) X 12 [some (.ref m), some (J ((K : Int) + 1)), some (J (f : Int)), none, none, none] [] (z, T, F, upA (upA I (m + 9) u) (m + 1) w, P, Y) 0 0 := by
          intro mm
          induction mm with
          | zero => intro f u a b c hf hp hm; exfalso; omega
          | succ mm ih2 =>
            intro f u a b c hf hp hm
            refine xg_iloadn 13 dX12_laysMerges_12 rfl rfl rfl ?_
            refine xg_iloadn 14 dX12_laysMerges_13 rfl rfl rfl ?_
            refine xg_iadd 15 dX12_laysMerges_14 rfl ?_
            refine xg_aloadn 16 dX12_laysMerges_15 rfl rfl rfl ?_
            refine xg_callV 19 12 [] _ kv_X12_runs ⟨_, _, rfl⟩ kl_RX12_66 dX12_laysMerges_16 rfl (by assumption) (by omega) rfl rfl (Nat.le_of_ble_eq_true rfl) (by omega) ⟨Nat.le_refl _, Nat.le_refl _⟩ (ct_X12_runs hw) rfl ?_
            refine xg_icgt 91 22 dX12_laysMerges_19 rfl rfl (by first | omega | exact hR _ | exact ⟨hR _, by omega⟩ | exact ⟨by omega, hR _⟩ | exact ⟨hR _, hR _⟩) (fun hb19 => ?_) (fun hb19 => ?_)
            · skip
              refine xg_iinc 94 _ dX12_laysMerges_91 rfl rfl rfl rfl (by decide) (Or.inr rfl) ?_
              refine xg_goto 2 dX12_laysMerges_94 rfl ?_
              exact xg_weak _ (xle_s rfl (xle_s rfl (xle_n (xle_n (xle_n (xle_n xle_0)))))) (ih (K + 1) u none none none none (by omega) (fun k g h1 h2 => hp k g h1 (by omega)) (by omega))
            · skip
              refine xg_iloadn 23 dX12_laysMerges_22 rfl rfl rfl ?_
              refine xg_iloadn 24 dX12_laysMerges_23 rfl rfl rfl ?_
              refine xg_iadd 25 dX12_laysMerges_24 rfl ?_
              refine xg_iconst 26 dX12_laysMerges_25 rfl ?_
              refine xg_isub 27 dX12_laysMerges_26 rfl ?_
              refine xg_istoren 28 _ dX12_laysMerges_27 rfl rfl rfl (by decide) (Or.inr rfl) ?_
              refine xg_iloadn 29 dX12_laysMerges_28 rfl rfl rfl ?_
              refine xg_iconst 30 dX12_laysMerges_29 rfl ?_
              refine xg_icne 37 33 dX12_laysMerges_30 rfl rfl (by first | omega | exact hR _ | exact ⟨hR _, by omega⟩ | exact ⟨by omega, hR _⟩ | exact ⟨hR _, hR _⟩) (fun hb30 => ?_) (fun hb30 => ?_)
              · first
                | (exfalso; omega)
                | skip
                  refine xg_ldcw (z := 1000000) 40 kk_RX12_406 dX12_laysMerges_37 rfl rfl ?_
                  refine xg_istore 42 _ dX12_laysMerges_40 rfl rfl (by decide) (Or.inr rfl) ?_
                  refine xg_iloadn 43 dX12_laysMerges_42 rfl rfl rfl ?_
                  refine xg_istore 45 _ dX12_laysMerges_43 rfl rfl (by decide) (Or.inr rfl) ?_
                  have loop45 : ∀ (mm : Nat) (j : Nat), (j ≤ K) → (K : Int) - j < (mm : Int) → xG E mX12_laysMerges (xR d 0 0) X 45 [some (.ref m), some (J ((K : Int) + 1)), some (J (f : Int)), some (J ((f + K : Nat) : Int)), some (J (sBst w K f j)), some (J ((f + j : Nat) : Int))] [] (z, T, F, upA (upA I (m + 9) u) (m + 1) w, P, Y) 0 0 := by
                    intro mm
                    induction mm with
                    | zero => intro j hj hm; exfalso; omega
                    | succ mm ih3 =>
                      intro j hj hm
                      have hbb := sBst_bd (w := w) o0.2 K f j
                      refine xg_iload 47 dX12_laysMerges_45 rfl rfl ?_
                      refine xg_iloadn 48 dX12_laysMerges_47 rfl rfl rfl ?_
                      refine xg_icge 72 51 dX12_laysMerges_48 rfl rfl (by first | omega | exact hR _ | exact ⟨hR _, by omega⟩ | exact ⟨by omega, hR _⟩ | exact ⟨hR _, hR _⟩) (fun hb48 => ?_) (fun hb48 => ?_)
                      · skip
                        refine xg_aloadn 73 dX12_laysMerges_72 rfl rfl rfl ?_
                        refine xg_getP 76 kf_RX12_42 dX12_laysMerges_73 rfl (by assumption) (by assumption) ?_
                        refine xg_bipush 78 dX12_laysMerges_76 rfl (by decide) ?_
                        refine xg_iloadn 79 dX12_laysMerges_78 rfl rfl rfl ?_
                        refine xg_imul 80 dX12_laysMerges_79 rfl ?_
                        refine xg_iloadn 81 dX12_laysMerges_80 rfl rfl rfl ?_
                        refine xg_iadd 82 dX12_laysMerges_81 rfl ?_
                        refine xg_iload 84 dX12_laysMerges_82 rfl rfl ?_
                        refine xg_iastU 85 dX12_laysMerges_84 rfl ⟨v2, v4⟩ (by first | omega | exact hR _ | exact ⟨hR _, by omega⟩ | exact ⟨by omega, hR _⟩ | exact ⟨hR _, hR _⟩) ?_
                        refine xg_iinc 88 _ dX12_laysMerges_85 rfl rfl rfl rfl (by decide) (Or.inr rfl) ?_
                        refine xg_goto 12 dX12_laysMerges_88 rfl ?_
                        exact xg_weak _ (xle_s rfl (xle_s rfl (xle_s rfl (xle_n (xle_n (xle_n xle_0)))))) (ih2 (f + 1) _ none none none (by omega) (by rw [show j = K by omega, sBst_e]; exact pLs_S hp o0.2 (by omega)) (by omega))
                      · skip
                        refine xg_iload 53 dX12_laysMerges_51 rfl rfl ?_
                        refine xg_aloadn 54 dX12_laysMerges_53 rfl rfl rfl ?_
                        refine xg_iloadn 55 dX12_laysMerges_54 rfl rfl rfl ?_
                        refine xg_iload 57 dX12_laysMerges_55 rfl rfl ?_
                        refine xg_iloadn 58 dX12_laysMerges_57 rfl rfl rfl ?_
                        refine xg_callV 61 12 [_, _, _] _ kv_X12_mergedAt ⟨_, _, rfl⟩ kl_RX12_407 dX12_laysMerges_58 rfl (by assumption) (by omega) rfl rfl (Nat.le_of_ble_eq_true rfl) (by omega) ⟨Nat.le_refl _, Nat.le_refl _⟩ (ct_X12_mergedAt hw hO (f := f) (s := f + j) (t := f + K) (by omega) (by rw [upA_at, show 12 * (f : Int) + ((f + j : Nat) : Int) = 12 * (f : Int) + ((f : Int) + (j : Int)) by omega, hp j f (by omega) (by omega)]; exact sMg_bd o0.2 j j f)) rfl ?_
                        rw [upA_at, show 12 * (f : Int) + ((f + j : Nat) : Int) = 12 * (f : Int) + ((f : Int) + (j : Int)) by omega, hp j f (by omega) (by omega), show 12 * (((f + j : Nat) : Int) + 1) + ((f + K : Nat) : Int) = 12 * ((f + j + 1 : Nat) : Int) + (((f + j + 1 : Nat) : Int) + ((K - 1 - j : Nat) : Int)) by omega, hp (K - 1 - j) (f + j + 1) (by omega) (by omega)]
                        have mb1 := sMg_bd (w := w) o0.2 j j f
                        have mb2 := sMg_bd (w := w) o0.2 (K - 1 - j) (K - 1 - j) (f + j + 1)
                        have mb3 := sEntIn_bd (w := w) (nIv f (f + K)) o0.2
                        have mb4 : sStr w f (f + K) = sEntIn w (nIv f (f + K)) := rfl
                        refine xg_mmin 64 kl_RX12_74 dX12_laysMerges_61 rfl (by first | omega | exact hR _ | exact ⟨hR _, by omega⟩ | exact ⟨by omega, hR _⟩ | exact ⟨hR _, hR _⟩) (Nat.le_of_ble_eq_true rfl) (by omega) ⟨Nat.le_refl _, Nat.le_refl _⟩ ?_
                        refine xg_istore 66 _ dX12_laysMerges_64 rfl rfl (by decide) (Or.inr rfl) ?_
                        refine xg_iinc 69 _ dX12_laysMerges_66 rfl rfl rfl rfl (by decide) (Or.inr rfl) ?_
                        refine xg_goto 45 dX12_laysMerges_69 rfl ?_
                        exact xg_weak _ (xle_s rfl (xle_s rfl (xle_s rfl (xle_s rfl (xle_s (by rw [sBst_s w (by omega)]; unfold sMgA; rw [show f + (K - 1) + 1 = f + K by omega]) (xle_s rfl xle_0)))))) (ih3 (j + 1) (by omega) (by omega))
                  exact xg_weak _ (xle_s rfl (xle_s rfl (xle_s rfl (xle_s (by rw [show (f : Int) + ((K : Int) + 1) - 1 = ((f + K : Nat) : Int) by omega]) (xle_s (by unfold sBst; rw [if_neg (by omega)]; rfl) (xle_s rfl xle_0)))))) (loop45 20 0 (by omega) (by omega))
              · first
                | (exfalso; omega)
                | skip
                  refine xg_iconst 34 dX12_laysMerges_33 rfl ?_
                  refine xg_goto 40 dX12_laysMerges_34 rfl ?_
                  refine xg_istore 42 _ dX12_laysMerges_40 rfl rfl (by decide) (Or.inr rfl) ?_
                  refine xg_iloadn 43 dX12_laysMerges_42 rfl rfl rfl ?_
                  refine xg_istore 45 _ dX12_laysMerges_43 rfl rfl (by decide) (Or.inr rfl) ?_
                  have loop45 : ∀ (mm : Nat) (j : Nat), (j ≤ K) → (K : Int) - j < (mm : Int) → xG E mX12_laysMerges (xR d 0 0) X 45 [some (.ref m), some (J ((K : Int) + 1)), some (J (f : Int)), some (J ((f + K : Nat) : Int)), some (J (sBst w K f j)), some (J ((f + j : Nat) : Int))] [] (z, T, F, upA (upA I (m + 9) u) (m + 1) w, P, Y) 0 0 := by
                    intro mm
                    induction mm with
                    | zero => intro j hj hm; exfalso; omega
                    | succ mm ih3 =>
                      intro j hj hm
                      have hbb := sBst_bd (w := w) o0.2 K f j
                      refine xg_iload 47 dX12_laysMerges_45 rfl rfl ?_
                      refine xg_iloadn 48 dX12_laysMerges_47 rfl rfl rfl ?_
                      refine xg_icge 72 51 dX12_laysMerges_48 rfl rfl (by first | omega | exact hR _ | exact ⟨hR _, by omega⟩ | exact ⟨by omega, hR _⟩ | exact ⟨hR _, hR _⟩) (fun hb48 => ?_) (fun hb48 => ?_)
                      · skip
                        refine xg_aloadn 73 dX12_laysMerges_72 rfl rfl rfl ?_
                        refine xg_getP 76 kf_RX12_42 dX12_laysMerges_73 rfl (by assumption) (by assumption) ?_
                        refine xg_bipush 78 dX12_laysMerges_76 rfl (by decide) ?_
                        refine xg_iloadn 79 dX12_laysMerges_78 rfl rfl rfl ?_
                        refine xg_imul 80 dX12_laysMerges_79 rfl ?_
                        refine xg_iloadn 81 dX12_laysMerges_80 rfl rfl rfl ?_
                        refine xg_iadd 82 dX12_laysMerges_81 rfl ?_
                        refine xg_iload 84 dX12_laysMerges_82 rfl rfl ?_
                        refine xg_iastU 85 dX12_laysMerges_84 rfl ⟨v2, v4⟩ (by first | omega | exact hR _ | exact ⟨hR _, by omega⟩ | exact ⟨by omega, hR _⟩ | exact ⟨hR _, hR _⟩) ?_
                        refine xg_iinc 88 _ dX12_laysMerges_85 rfl rfl rfl rfl (by decide) (Or.inr rfl) ?_
                        refine xg_goto 12 dX12_laysMerges_88 rfl ?_
                        exact xg_weak _ (xle_s rfl (xle_s rfl (xle_s rfl (xle_n (xle_n (xle_n xle_0)))))) (ih2 (f + 1) _ none none none (by omega) (by rw [show j = K by omega, sBst_e]; exact pLs_S hp o0.2 (by omega)) (by omega))
                      · skip
                        refine xg_iload 53 dX12_laysMerges_51 rfl rfl ?_
                        refine xg_aloadn 54 dX12_laysMerges_53 rfl rfl rfl ?_
                        refine xg_iloadn 55 dX12_laysMerges_54 rfl rfl rfl ?_
                        refine xg_iload 57 dX12_laysMerges_55 rfl rfl ?_
                        refine xg_iloadn 58 dX12_laysMerges_57 rfl rfl rfl ?_
                        refine xg_callV 61 12 [_, _, _] _ kv_X12_mergedAt ⟨_, _, rfl⟩ kl_RX12_407 dX12_laysMerges_58 rfl (by assumption) (by omega) rfl rfl (Nat.le_of_ble_eq_true rfl) (by omega) ⟨Nat.le_refl _, Nat.le_refl _⟩ (ct_X12_mergedAt hw hO (f := f) (s := f + j) (t := f + K) (by omega) (by rw [upA_at, show 12 * (f : Int) + ((f + j : Nat) : Int) = 12 * (f : Int) + ((f : Int) + (j : Int)) by omega, hp j f (by omega) (by omega)]; exact sMg_bd o0.2 j j f)) rfl ?_
                        rw [upA_at, show 12 * (f : Int) + ((f + j : Nat) : Int) = 12 * (f : Int) + ((f : Int) + (j : Int)) by omega, hp j f (by omega) (by omega), show 12 * (((f + j : Nat) : Int) + 1) + ((f + K : Nat) : Int) = 12 * ((f + j + 1 : Nat) : Int) + (((f + j + 1 : Nat) : Int) + ((K - 1 - j : Nat) : Int)) by omega, hp (K - 1 - j) (f + j + 1) (by omega) (by omega)]
                        have mb1 := sMg_bd (w := w) o0.2 j j f
                        have mb2 := sMg_bd (w := w) o0.2 (K - 1 - j) (K - 1 - j) (f + j + 1)
                        have mb3 := sEntIn_bd (w := w) (nIv f (f + K)) o0.2
                        have mb4 : sStr w f (f + K) = sEntIn w (nIv f (f + K)) := rfl
                        refine xg_mmin 64 kl_RX12_74 dX12_laysMerges_61 rfl (by first | omega | exact hR _ | exact ⟨hR _, by omega⟩ | exact ⟨by omega, hR _⟩ | exact ⟨hR _, hR _⟩) (Nat.le_of_ble_eq_true rfl) (by omega) ⟨Nat.le_refl _, Nat.le_refl _⟩ ?_
                        refine xg_istore 66 _ dX12_laysMerges_64 rfl rfl (by decide) (Or.inr rfl) ?_
                        refine xg_iinc 69 _ dX12_laysMerges_66 rfl rfl rfl rfl (by decide) (Or.inr rfl) ?_
                        refine xg_goto 45 dX12_laysMerges_69 rfl ?_
                        exact xg_weak _ (xle_s rfl (xle_s rfl (xle_s rfl (xle_s rfl (xle_s (by rw [sBst_s w (by omega)]; unfold sMgA; rw [show f + (K - 1) + 1 = f + K by omega]) (xle_s rfl xle_0)))))) (ih3 (j + 1) (by omega) (by omega))
                  exact xg_weak _ (xle_s rfl (xle_s rfl (xle_s rfl (xle_s (by rw [show (f : Int) + ((K : Int) + 1) - 1 = ((f + K : Nat) : Int) by omega]) (xle_s (by unfold sBst; rw [if_pos (by omega)]) (xle_s rfl xle_0)))))) (loop45 20 0 (by omega) (by omega))
        exact xg_weak _ (xle_s rfl (xle_s rfl (xle_s rfl (xle_n (xle_n (xle_n xle_0)))))) (loop12 20 0 u none none none (by omega) hp (by omega))
  exact xg_weak _ (xle_s rfl (xle_s rfl (xle_n (xle_n (xle_n (xle_n xle_0)))))) (loop2 20 0 (I (m + 9)) none none none none (by omega) (fun k g h1 h2 => by omega) (by omega))

