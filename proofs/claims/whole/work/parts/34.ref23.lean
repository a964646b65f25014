theorem bI_n0 {b : Bool} (h : bI b ≠ 0) : b = true := by cases b; exact absurd rfl h; rfl
theorem bI_e0 {b : Bool} (h : bI b = 0) : b = false := by cases b; rfl; exact absurd h (by decide)
theorem pMin_le {g : Nat → Int} {i : Int} {j : Nat} : ∀ {n : Nat}, j < n → pMin g i n ≤ g j := by
  intro n
  induction n with
  | zero => intro h; omega
  | succ n ih =>
    intro h
    rw [pMin]
    by_cases e : j = n
    · subst e; omega
    · have := ih (by omega); omega
theorem pMin_ex {g : Nat → Int} {i : Int} (h : g 0 < i) : ∀ n : Nat, ∃ j, j < n + 1 ∧ g j = pMin g i (n + 1)
  | 0 => ⟨0, by omega, by rw [pMin, pMin]; omega⟩
  | n + 1 => by
    obtain ⟨j, h1, h2⟩ := pMin_ex h n
    rw [pMin]
    by_cases e : g j ≤ g (n + 1)
    · exact ⟨j, by omega, by omega⟩
    · exact ⟨n + 1, by omega, by omega⟩
theorem sMg_720 {w : Int → Int} (h : w 0 ≤ 12) : ∀ K k f : Nat, sMg w K k f ≤ 720 * k
  | 0, k, f => by simp [sMg]; omega
  | K + 1, k, f => by
    rw [sMg]
    split
    · rename_i e
      have h0 := pMin_le (g := fun j => sMg w K j f + sMg w K (K - j) (f + j + 1) + sStr w f (f + K + 1)) (i := 1000000) (j := 0) (n := K + 1) (by omega)
      have h1 := sMg_720 h K 0 f
      have h2 := sMg_720 h K (K - 0) (f + 0 + 1)
      have h3 := sEntIn_bd (w := w) (nIv f (f + K + 1)) h
      have h4 : sStr w f (f + K + 1) = sEntIn w (nIv f (f + K + 1)) := rfl
      refine Int.le_trans h0 ?_
      show sMg w K 0 f + sMg w K (K - 0) (f + 0 + 1) + sStr w f (f + K + 1) ≤ _
      omega
    · exact sMg_720 h K k f
theorem sMgA_ex {w : Int → Int} (h : w 0 ≤ 12) {n : Nat} (hn : 2 ≤ n ∧ n ≤ 12) : ∃ j, j + 1 < n ∧ sMgA w (n - 2) 0 j = sMg w (n - 1) (n - 1) 0 := by
  obtain ⟨K, rfl⟩ : ∃ K, n = K + 2 := ⟨n - 2, by omega⟩
  have h0 : sMgA w K 0 0 < 1000000 := by
    have h1 := sMg_720 h 0 0 0
    have h2 := sMg_720 h (K - 0) (K - 0) (0 + 0 + 1)
    have h3 := sEntIn_bd (w := w) (nIv 0 (0 + K + 1)) h
    have h4 : sStr w 0 (0 + K + 1) = sEntIn w (nIv 0 (0 + K + 1)) := rfl
    unfold sMgA
    omega
  obtain ⟨j, h1, h2⟩ := pMin_ex h0 K
  refine ⟨j, by omega, ?_⟩
  rw [show K + 2 - 2 = K by omega, show K + 2 - 1 = K + 1 by omega, sMg_s]
  exact h2
/-- the first place where g answers c -/
def sFst (g : Nat → Int) (c : Int) : Nat → Nat
  | 0 => 0
  | n + 1 => if sFst g c n < n then sFst g c n else if g n = c then n else n + 1
theorem sFst_no {g : Nat → Int} {c : Int} : ∀ {n : Nat}, (∀ j, j < n → g j ≠ c) → sFst g c n = n
  | 0, _ => rfl
  | n + 1, h => by rw [sFst, sFst_no (n := n) (fun j hj => h j (by omega)), if_neg (by omega), if_neg (h n (by omega))]
theorem sFst_at {g : Nat → Int} {c : Int} {s : Nat} (h : ∀ j, j < s → g j ≠ c) (hs : g s = c) : ∀ {n : Nat}, s < n → sFst g c n = s := by
  intro n
  induction n with
  | zero => intro h; omega
  | succ n ih =>
    intro hn
    rw [sFst]
    by_cases e : s = n
    · subst e; rw [sFst_no h, if_neg (by omega), if_pos hs]
    · rw [ih (by omega), if_pos (by omega)]
def sChp (w : Int → Int) (b : Bool) : Int := if w 0 < 2 then (if b = true then -1 else 0) else if b = true then (sFst (sMgA w (wN w - 2) 0) (sMg w (wN w - 1) (wN w - 1) 0) (wN w - 1) : Int) + 1 else sMg w (wN w - 1) (wN w - 1) 0
theorem dX12_cheapest_0 : decode cX12_cheapest 0 = .ok (.aload_n 0, 1) := by decide +kernel
theorem dX12_cheapest_1 : decode cX12_cheapest 1 = .ok (.iconst 0, 1) := by decide +kernel
theorem dX12_cheapest_2 : decode cX12_cheapest 2 = .ok (.putfield 3, 3) := by decide +kernel
theorem dX12_cheapest_5 : decode cX12_cheapest 5 = .ok (.aload_n 0, 1) := by decide +kernel
theorem dX12_cheapest_6 : decode cX12_cheapest 6 = .ok (.invokevirtual 66, 3) := by decide +kernel
theorem dX12_cheapest_9 : decode cX12_cheapest 9 = .ok (.iconst 2, 1) := by decide +kernel
theorem dX12_cheapest_10 : decode cX12_cheapest 10 = .ok (.if_icmp .ge 13, 3) := by decide +kernel
theorem dX12_cheapest_13 : decode cX12_cheapest 13 = .ok (.iload_n 1, 1) := by decide +kernel
theorem dX12_cheapest_14 : decode cX12_cheapest 14 = .ok (.ifCond .eq 7, 3) := by decide +kernel
theorem dX12_cheapest_17 : decode cX12_cheapest 17 = .ok (.iconst (-1), 1) := by decide +kernel
theorem dX12_cheapest_18 : decode cX12_cheapest 18 = .ok (.goto 4, 3) := by decide +kernel
theorem dX12_cheapest_21 : decode cX12_cheapest 21 = .ok (.iconst 0, 1) := by decide +kernel
theorem dX12_cheapest_22 : decode cX12_cheapest 22 = .ok (.ireturn, 1) := by decide +kernel
theorem dX12_cheapest_23 : decode cX12_cheapest 23 = .ok (.aload_n 0, 1) := by decide +kernel
theorem dX12_cheapest_24 : decode cX12_cheapest 24 = .ok (.invokevirtual 410, 3) := by decide +kernel
theorem dX12_cheapest_27 : decode cX12_cheapest 27 = .ok (.aload_n 0, 1) := by decide +kernel
theorem dX12_cheapest_28 : decode cX12_cheapest 28 = .ok (.getfield 42, 3) := by decide +kernel
theorem dX12_cheapest_31 : decode cX12_cheapest 31 = .ok (.aload_n 0, 1) := by decide +kernel
theorem dX12_cheapest_32 : decode cX12_cheapest 32 = .ok (.invokevirtual 66, 3) := by decide +kernel
theorem dX12_cheapest_35 : decode cX12_cheapest 35 = .ok (.iconst 1, 1) := by decide +kernel
theorem dX12_cheapest_36 : decode cX12_cheapest 36 = .ok (.isub, 1) := by decide +kernel
theorem dX12_cheapest_37 : decode cX12_cheapest 37 = .ok (.iaload, 1) := by decide +kernel
theorem dX12_cheapest_38 : decode cX12_cheapest 38 = .ok (.istore_n 2, 1) := by decide +kernel
theorem dX12_cheapest_39 : decode cX12_cheapest 39 = .ok (.iload_n 1, 1) := by decide +kernel
theorem dX12_cheapest_40 : decode cX12_cheapest 40 = .ok (.ifCond .ne 5, 3) := by decide +kernel
theorem dX12_cheapest_43 : decode cX12_cheapest 43 = .ok (.iload_n 2, 1) := by decide +kernel
theorem dX12_cheapest_44 : decode cX12_cheapest 44 = .ok (.ireturn, 1) := by decide +kernel
theorem dX12_cheapest_45 : decode cX12_cheapest 45 = .ok (.iconst 0, 1) := by decide +kernel
theorem dX12_cheapest_46 : decode cX12_cheapest 46 = .ok (.istore_n 3, 1) := by decide +kernel
theorem dX12_cheapest_47 : decode cX12_cheapest 47 = .ok (.aload_n 0, 1) := by decide +kernel
theorem dX12_cheapest_48 : decode cX12_cheapest 48 = .ok (.iconst 0, 1) := by decide +kernel
theorem dX12_cheapest_49 : decode cX12_cheapest 49 = .ok (.iload_n 3, 1) := by decide +kernel
theorem dX12_cheapest_50 : decode cX12_cheapest 50 = .ok (.aload_n 0, 1) := by decide +kernel
theorem dX12_cheapest_51 : decode cX12_cheapest 51 = .ok (.invokevirtual 66, 3) := by decide +kernel
theorem dX12_cheapest_54 : decode cX12_cheapest 54 = .ok (.iconst 1, 1) := by decide +kernel
theorem dX12_cheapest_55 : decode cX12_cheapest 55 = .ok (.isub, 1) := by decide +kernel
theorem dX12_cheapest_56 : decode cX12_cheapest 56 = .ok (.invokevirtual 407, 3) := by decide +kernel
theorem dX12_cheapest_59 : decode cX12_cheapest 59 = .ok (.iload_n 2, 1) := by decide +kernel
theorem dX12_cheapest_60 : decode cX12_cheapest 60 = .ok (.if_icmp .eq 9, 3) := by decide +kernel
theorem dX12_cheapest_63 : decode cX12_cheapest 63 = .ok (.iinc 3 1, 3) := by decide +kernel
theorem dX12_cheapest_66 : decode cX12_cheapest 66 = .ok (.goto (-19), 3) := by decide +kernel
theorem dX12_cheapest_69 : decode cX12_cheapest 69 = .ok (.iload_n 3, 1) := by decide +kernel
theorem dX12_cheapest_70 : decode cX12_cheapest 70 = .ok (.iconst 1, 1) := by decide +kernel
theorem dX12_cheapest_71 : decode cX12_cheapest 71 = .ok (.iadd, 1) := by decide +kernel
theorem dX12_cheapest_72 : decode cX12_cheapest 72 = .ok (.ireturn, 1) := by decide +kernel
set_option maxHeartbeats 4000000 in
set_option maxRecDepth 100000 in
theorem ct_X12_cheapest {E : xE} {z : Nat} {T : Nat → Nat × Int} {F : Nat → Nat → Int} {I : Nat → Int → Int} {P : Nat → Nat → Option Nat} {Y : Nat → Int → Option Nat} {m : Nat} {w : Int → Int} (hw : wM T P m) (hO : wOk w){b : Bool} : Ct E 6 mX12_cheapest 0 0 [.ref m, J (bI b)] (z, T, F, upA I (m + 1) w, P, Y) (xs m (some (J (sChp w b))) z T (upF F m 0 0) I w P Y) := by
  obtain ⟨⟨q0, q1, q2, q3⟩, -, -, -, -, -, -, -, ⟨v1, v2, v3⟩, -⟩ := id hw
  have v4 : m + 9 ≠ m + 1 := by omega
  obtain ⟨hR, o0, o1, o2, o3, o4, o5, o6, oc, o13, o14, o16, o17, o18, ov⟩ := id hO
  have hN := wN_i o0.1
  have bb := bI_01 b
  refine Ct.of [some (.ref m), some (J (bI b)), none, none] kt_X12_cheapest rfl (Nat.le_of_ble_eq_true rfl) rfl (fun d hd => ?_)
  generalize hX : xN E _ _ _ = X
  refine xg_aloadn 1 dX12_cheapest_0 rfl rfl rfl ?_
  refine xg_iconst 2 dX12_cheapest_1 rfl ?_
  refine xg_putI 5 kf_RX12_3 dX12_cheapest_2 rfl (by assumption) ?_
  refine xg_aloadn 6 dX12_cheapest_5 rfl rfl rfl ?_
  refine xg_callV 9 12 [] _ kv_X12_runs ⟨_, _, rfl⟩ kl_RX12_66 dX12_cheapest_6 rfl (by assumption) (by omega) rfl rfl (Nat.le_of_ble_eq_true rfl) (by omega) ⟨Nat.le_refl _, Nat.le_refl _⟩ (ct_X12_runs hw) rfl ?_
  refine xg_iconst 10 dX12_cheapest_9 rfl ?_
  refine xg_icge 23 13 dX12_cheapest_10 rfl rfl (by first | omega | exact hR _ | exact ⟨hR _, by omega⟩ | exact ⟨by omega, hR _⟩ | exact ⟨hR _, hR _⟩) (fun hb10 => ?_) (fun hb10 => ?_)
  · skip
    refine xg_aloadn 24 dX12_cheapest_23 rfl rfl rfl ?_
    refine xg_callV0 (As := []) 27 kv_X12_laysMerges ⟨_, _, rfl⟩ kl_RX12_410 dX12_cheapest_24 rfl (by assumption) (by omega) rfl rfl (Nat.le_of_ble_eq_true rfl) (by omega) ⟨Nat.le_refl _, Nat.le_refl _⟩ (ct_X12_laysMerges hw hO) (fun v h9 e => ?_)
    obtain ⟨rfl, u, hp, rfl⟩ := e
    refine xG_00 ?_
    refine xg_aloadn 28 dX12_cheapest_27 rfl rfl rfl ?_
    refine xg_getP 31 kf_RX12_42 dX12_cheapest_28 rfl (by assumption) (by assumption) ?_
    refine xg_aloadn 32 dX12_cheapest_31 rfl rfl rfl ?_
    refine xg_callV 35 12 [] _ kv_X12_runs ⟨_, _, rfl⟩ kl_RX12_66 dX12_cheapest_32 rfl (by assumption) (by omega) rfl rfl (Nat.le_of_ble_eq_true rfl) (by omega) ⟨Nat.le_refl _, Nat.le_refl _⟩ (ct_X12_runs hw) rfl ?_
    refine xg_iconst 36 dX12_cheapest_35 rfl ?_
    refine xg_isub 37 dX12_cheapest_36 rfl ?_
    refine xg_ialdU 38 dX12_cheapest_37 rfl ⟨v2, v4⟩ (by first | omega | exact hR _ | exact ⟨hR _, by omega⟩ | exact ⟨by omega, hR _⟩ | exact ⟨hR _, hR _⟩) ?_
    rw [show u (w 0 - 1) = sMg w (wN w - 1) (wN w - 1) 0 by rw [show (w 0 - 1 : Int) = 12 * ((0 : Nat) : Int) + (((0 : Nat) : Int) + ((wN w - 1 : Nat) : Int)) by omega]; exact hp (wN w - 1) 0 (by omega) (Or.inl (by omega))]
    have cb := sMg_bd (w := w) o0.2 (wN w - 1) (wN w - 1) 0
    refine xg_istoren 39 _ dX12_cheapest_38 rfl rfl rfl (by decide) (Or.inr rfl) ?_
    refine xg_iloadn 40 dX12_cheapest_39 rfl rfl rfl ?_
    refine xg_ifne 45 43 dX12_cheapest_40 rfl rfl (by first | omega | exact hR _ | exact ⟨hR _, by omega⟩ | exact ⟨by omega, hR _⟩ | exact ⟨hR _, hR _⟩) (fun hb40 => ?_) (fun hb40 => ?_)
    · skip
      refine xg_iconst 46 dX12_cheapest_45 rfl ?_
      refine xg_istoren 47 _ dX12_cheapest_46 rfl rfl rfl (by decide) (Or.inr rfl) ?_
      have loop47 : ∀ (mm : Nat) (s : Nat), (s + 1 < wN w ∧ ∀ j, j < s → sMgA w (wN w - 2) 0 j ≠ sMg w (wN w - 1) (wN w - 1) 0) → w 0 - s < (mm : Int) → xG E mX12_cheapest (xR d 0 0) X 47 [some (.ref m), some (J (bI b)), some (J (sMg w (wN w - 1) (wN w - 1) 0)), some (J (s : Int))] [] (z, T, upF F m 0 0, upA (upA I (m + 9) u) (m + 1) w, P, Y) 0 0 := by
        intro mm
        induction mm with
        | zero => intro s hs hm; exfalso; omega
        | succ mm ih =>
          intro s hs hm
          refine xg_aloadn 48 dX12_cheapest_47 rfl rfl rfl ?_
          refine xg_iconst 49 dX12_cheapest_48 rfl ?_
          refine xg_iloadn 50 dX12_cheapest_49 rfl rfl rfl ?_
          refine xg_aloadn 51 dX12_cheapest_50 rfl rfl rfl ?_
          refine xg_callV 54 12 [] _ kv_X12_runs ⟨_, _, rfl⟩ kl_RX12_66 dX12_cheapest_51 rfl (by assumption) (by omega) rfl rfl (Nat.le_of_ble_eq_true rfl) (by omega) ⟨Nat.le_refl _, Nat.le_refl _⟩ (ct_X12_runs hw) rfl ?_
          refine xg_iconst 55 dX12_cheapest_54 rfl ?_
          refine xg_isub 56 dX12_cheapest_55 rfl ?_
          rw [show w 0 - 1 = ((wN w - 1 : Nat) : Int) by omega]
          refine xg_callV 59 12 [_, _, _] _ kv_X12_mergedAt ⟨_, _, rfl⟩ kl_RX12_407 dX12_cheapest_56 rfl (by assumption) (by omega) rfl rfl (Nat.le_of_ble_eq_true rfl) (by omega) ⟨Nat.le_refl _, Nat.le_refl _⟩ (ct_X12_mergedAt hw hO (f := 0) (s := s) (t := wN w - 1) (by omega) (by rw [upA_at, show 12 * ((0 : Nat) : Int) + (s : Int) = 12 * ((0 : Nat) : Int) + (((0 : Nat) : Int) + (s : Int)) by omega, hp s 0 (by omega) (by omega)]; exact sMg_bd o0.2 s s 0)) rfl ?_
          rw [upA_at, show 12 * ((0 : Nat) : Int) + (s : Int) = 12 * ((0 : Nat) : Int) + (((0 : Nat) : Int) + (s : Int)) by omega, hp s 0 (by omega) (by omega), show 12 * ((s : Int) + 1) + ((wN w - 1 : Nat) : Int) = 12 * ((s + 1 : Nat) : Int) + (((s + 1 : Nat) : Int) + ((wN w - 2 - s : Nat) : Int)) by omega, hp (wN w - 2 - s) (s + 1) (by omega) (by omega)]
          have mb1 := sMg_bd (w := w) o0.2 s s 0
          have mb2 := sMg_bd (w := w) o0.2 (wN w - 2 - s) (wN w - 2 - s) (s + 1)
          have mb3 := sEntIn_bd (w := w) (nIv 0 (wN w - 1)) o0.2
          have mb4 : sStr w 0 (wN w - 1) = sEntIn w (nIv 0 (wN w - 1)) := rfl
          have mb5 : sMg w s s 0 + sMg w (wN w - 2 - s) (wN w - 2 - s) (s + 1) + sStr w 0 (wN w - 1) = sMgA w (wN w - 2) 0 s := by unfold sMgA; rw [show 0 + s + 1 = s + 1 by omega, show 0 + (wN w - 2) + 1 = wN w - 1 by omega]
          rw [mb5]
          have mb6 := mb5.symm
          refine xg_iloadn 60 dX12_cheapest_59 rfl rfl rfl ?_
          refine xg_iceq 69 63 dX12_cheapest_60 rfl rfl (by first | omega | exact hR _ | exact ⟨hR _, by omega⟩ | exact ⟨by omega, hR _⟩ | exact ⟨hR _, hR _⟩) (fun hb60 => ?_) (fun hb60 => ?_)
          · skip
            refine xg_iloadn 70 dX12_cheapest_69 rfl rfl rfl ?_
            refine xg_iconst 71 dX12_cheapest_70 rfl ?_
            refine xg_iadd 72 dX12_cheapest_71 rfl ?_
            subst hX
            exact xg_ireturn dX12_cheapest_72 rfl ⟨Nat.le_refl _, Nat.le_refl _⟩ ⟨by unfold sChp; rw [if_neg (by omega), if_pos (bI_n0 hb40), sFst_at hs.2 hb60 (by omega)], upA I (m + 9) u, xScr.rf.up (by omega) u, rfl⟩
          · skip
            refine xg_iinc 66 _ dX12_cheapest_63 rfl rfl rfl rfl (by decide) (Or.inr rfl) ?_
            refine xg_goto 47 dX12_cheapest_66 rfl ?_
            exact xg_weak _ (xle_s rfl (xle_s rfl (xle_s rfl (xle_s rfl xle_0)))) (ih (s + 1) ⟨by obtain ⟨j9, h8, h9⟩ := sMgA_ex (w := w) o0.2 (n := wN w) (by omega); have h7 : ¬ j9 < s := (fun q => hs.2 j9 q h9); have h6 : j9 ≠ s := (fun q => hb60 (by rw [← q]; exact h9)); omega, fun j hj => by by_cases e : j = s; (subst e; exact hb60); exact hs.2 j (by omega)⟩ (by omega))
      exact xg_weak _ (xle_s rfl (xle_s rfl (xle_s rfl (xle_s rfl xle_0)))) (loop47 20 0 ⟨by omega, fun j hj => absurd hj (Nat.not_lt_zero _)⟩ (by omega))
    · skip
      refine xg_iloadn 44 dX12_cheapest_43 rfl rfl rfl ?_
      subst hX
      exact xg_ireturn dX12_cheapest_44 rfl ⟨Nat.le_refl _, Nat.le_refl _⟩ ⟨by unfold sChp; rw [if_neg (by omega), if_neg (by rw [bI_e0 hb40]; decide)], upA I (m + 9) u, xScr.rf.up (by omega) u, rfl⟩
  · skip
    refine xg_iloadn 14 dX12_cheapest_13 rfl rfl rfl ?_
    refine xg_ifeq 21 17 dX12_cheapest_14 rfl rfl (by first | omega | exact hR _ | exact ⟨hR _, by omega⟩ | exact ⟨by omega, hR _⟩ | exact ⟨hR _, hR _⟩) (fun hb14 => ?_) (fun hb14 => ?_)
    · skip
      refine xg_iconst 22 dX12_cheapest_21 rfl ?_
      subst hX
      exact xg_ireturn dX12_cheapest_22 rfl ⟨Nat.le_refl _, Nat.le_refl _⟩ ⟨by unfold sChp; rw [if_pos (by omega), if_neg (by rw [bI_e0 hb14]; decide)], I, xScr.rf, rfl⟩
    · skip
      refine xg_iconst 18 dX12_cheapest_17 rfl ?_
      refine xg_goto 22 dX12_cheapest_18 rfl ?_
      subst hX
      exact xg_ireturn dX12_cheapest_22 rfl ⟨Nat.le_refl _, Nat.le_refl _⟩ ⟨by unfold sChp; rw [if_pos (by omega), if_pos (bI_n0 hb14)], I, xScr.rf, rfl⟩

