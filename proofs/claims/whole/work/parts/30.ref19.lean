theorem tOk_le {t : Int → Int} : ∀ {n k : Nat}, k ≤ n → tOk t k = false → tOk t n = false
  | 0, k, hk, h => by rw [show k = 0 by omega] at h; exact h
  | n + 1, k, hk, h => by
    by_cases e : k = n + 1
    · subst e; exact h
    · rw [tOk, tOk_le (show k ≤ n by omega) h, Bool.and_false]
theorem sTld_f {t : Int → Int} {e : Int} {k : Nat} (hk : k ≤ (e / 2).toNat) (h : (decide (e % 2 = 0 ∧ e ≤ 40) && tOk t k) = false) : sTld t e = false := by
  unfold sTld
  cases hd : decide (e % 2 = 0 ∧ e ≤ 40) with
  | false => rfl
  | true => rw [hd, Bool.true_and] at h; rw [Bool.true_and]; exact tOk_le hk h
theorem dX12_areTold_0 : decode cX12_areTold 0 = .ok (.aload_n 0, 1) := by decide +kernel
theorem dX12_areTold_1 : decode cX12_areTold 1 = .ok (.getfield 86, 3) := by decide +kernel
theorem dX12_areTold_4 : decode cX12_areTold 4 = .ok (.iconst 2, 1) := by decide +kernel
theorem dX12_areTold_5 : decode cX12_areTold 5 = .ok (.irem, 1) := by decide +kernel
theorem dX12_areTold_6 : decode cX12_areTold 6 = .ok (.ifCond .ne 16, 3) := by decide +kernel
theorem dX12_areTold_9 : decode cX12_areTold 9 = .ok (.aload_n 0, 1) := by decide +kernel
theorem dX12_areTold_10 : decode cX12_areTold 10 = .ok (.getfield 86, 3) := by decide +kernel
theorem dX12_areTold_13 : decode cX12_areTold 13 = .ok (.bipush 40, 2) := by decide +kernel
theorem dX12_areTold_15 : decode cX12_areTold 15 = .ok (.if_icmp .gt 7, 3) := by decide +kernel
theorem dX12_areTold_18 : decode cX12_areTold 18 = .ok (.iconst 1, 1) := by decide +kernel
theorem dX12_areTold_19 : decode cX12_areTold 19 = .ok (.goto 4, 3) := by decide +kernel
theorem dX12_areTold_22 : decode cX12_areTold 22 = .ok (.iconst 0, 1) := by decide +kernel
theorem dX12_areTold_23 : decode cX12_areTold 23 = .ok (.istore_n 1, 1) := by decide +kernel
theorem dX12_areTold_24 : decode cX12_areTold 24 = .ok (.iconst 0, 1) := by decide +kernel
theorem dX12_areTold_25 : decode cX12_areTold 25 = .ok (.istore_n 2, 1) := by decide +kernel
theorem dX12_areTold_26 : decode cX12_areTold 26 = .ok (.iload_n 2, 1) := by decide +kernel
theorem dX12_areTold_27 : decode cX12_areTold 27 = .ok (.aload_n 0, 1) := by decide +kernel
theorem dX12_areTold_28 : decode cX12_areTold 28 = .ok (.getfield 86, 3) := by decide +kernel
theorem dX12_areTold_31 : decode cX12_areTold 31 = .ok (.if_icmp .ge 51, 3) := by decide +kernel
theorem dX12_areTold_34 : decode cX12_areTold 34 = .ok (.iload_n 1, 1) := by decide +kernel
theorem dX12_areTold_35 : decode cX12_areTold 35 = .ok (.ifCond .eq 47, 3) := by decide +kernel
theorem dX12_areTold_38 : decode cX12_areTold 38 = .ok (.aload_n 0, 1) := by decide +kernel
theorem dX12_areTold_39 : decode cX12_areTold 39 = .ok (.getfield 29, 3) := by decide +kernel
theorem dX12_areTold_42 : decode cX12_areTold 42 = .ok (.iload_n 2, 1) := by decide +kernel
theorem dX12_areTold_43 : decode cX12_areTold 43 = .ok (.baload, 1) := by decide +kernel
theorem dX12_areTold_44 : decode cX12_areTold 44 = .ok (.iconst 0, 1) := by decide +kernel
theorem dX12_areTold_45 : decode cX12_areTold 45 = .ok (.bipush 59, 2) := by decide +kernel
theorem dX12_areTold_47 : decode cX12_areTold 47 = .ok (.invokestatic 70, 3) := by decide +kernel
theorem dX12_areTold_50 : decode cX12_areTold 50 = .ok (.ifCond .eq 24, 3) := by decide +kernel
theorem dX12_areTold_53 : decode cX12_areTold 53 = .ok (.aload_n 0, 1) := by decide +kernel
theorem dX12_areTold_54 : decode cX12_areTold 54 = .ok (.getfield 29, 3) := by decide +kernel
theorem dX12_areTold_57 : decode cX12_areTold 57 = .ok (.iload_n 2, 1) := by decide +kernel
theorem dX12_areTold_58 : decode cX12_areTold 58 = .ok (.iconst 1, 1) := by decide +kernel
theorem dX12_areTold_59 : decode cX12_areTold 59 = .ok (.iadd, 1) := by decide +kernel
theorem dX12_areTold_60 : decode cX12_areTold 60 = .ok (.baload, 1) := by decide +kernel
theorem dX12_areTold_61 : decode cX12_areTold 61 = .ok (.iconst 0, 1) := by decide +kernel
theorem dX12_areTold_62 : decode cX12_areTold 62 = .ok (.bipush 101, 2) := by decide +kernel
theorem dX12_areTold_64 : decode cX12_areTold 64 = .ok (.invokestatic 70, 3) := by decide +kernel
theorem dX12_areTold_67 : decode cX12_areTold 67 = .ok (.ifCond .eq 7, 3) := by decide +kernel
theorem dX12_areTold_70 : decode cX12_areTold 70 = .ok (.iconst 1, 1) := by decide +kernel
theorem dX12_areTold_71 : decode cX12_areTold 71 = .ok (.goto 4, 3) := by decide +kernel
theorem dX12_areTold_74 : decode cX12_areTold 74 = .ok (.iconst 0, 1) := by decide +kernel
theorem dX12_areTold_75 : decode cX12_areTold 75 = .ok (.istore_n 1, 1) := by decide +kernel
theorem dX12_areTold_76 : decode cX12_areTold 76 = .ok (.iinc 2 2, 3) := by decide +kernel
theorem dX12_areTold_79 : decode cX12_areTold 79 = .ok (.goto (-53), 3) := by decide +kernel
theorem dX12_areTold_82 : decode cX12_areTold 82 = .ok (.iload_n 1, 1) := by decide +kernel
theorem dX12_areTold_83 : decode cX12_areTold 83 = .ok (.ireturn, 1) := by decide +kernel
set_option maxHeartbeats 4000000 in
set_option maxRecDepth 100000 in
theorem ct_X12_areTold {E : xE} {z : Nat} {T : Nat → Nat × Int} {F : Nat → Nat → Int} {I : Nat → Int → Int} {P : Nat → Nat → Option Nat} {Y : Nat → Int → Option Nat} {m : Nat} {w : Int → Int} (hw : wM T P m) (hT : ∀ j : Int, -128 ≤ I (m + 6) j ∧ I (m + 6) j ≤ 127) (hE : 0 ≤ F m 11 ∧ F m 11 ≤ 400) : Ct E 1 mX12_areTold 0 0 [.ref m] (z, T, F, upA I (m + 1) w, P, Y) (xd (some (J (bI (sTld (I (m + 6)) (F m 11))))) (z, T, F, upA I (m + 1) w, P, Y)) := by
  obtain ⟨⟨q0, q1, q2, q3⟩, -, -, -, -, ⟨v1, v2, v3⟩, -⟩ := id hw
  have v4 : m + 6 ≠ m + 1 := by omega
  refine Ct.of [some (.ref m), none, none] kt_X12_areTold rfl (Nat.le_of_ble_eq_true rfl) rfl (fun d hd => ?_)
  generalize hX : xN E _ _ _ = X
  refine xg_aloadn 1 dX12_areTold_0 rfl rfl rfl ?_
  refine xg_getI 4 kf_RX12_86 dX12_areTold_1 rfl (by assumption) ?_
  refine xg_iconst 5 dX12_areTold_4 rfl ?_
  refine xg_irem 6 dX12_areTold_5 rfl (by first | omega | exact hR _ | exact ⟨hR _, by omega⟩ | exact ⟨by omega, hR _⟩ | exact ⟨hR _, hR _⟩) ?_
  refine xg_ifne 22 9 dX12_areTold_6 rfl rfl (by first | omega | exact hR _ | exact ⟨hR _, by omega⟩ | exact ⟨by omega, hR _⟩ | exact ⟨hR _, hR _⟩) (fun hb6 => ?_) (fun hb6 => ?_)
  · skip
    refine xg_iconst 23 dX12_areTold_22 rfl ?_
    refine xg_istoren 24 _ dX12_areTold_23 rfl rfl rfl (by decide) (Or.inr rfl) ?_
    refine xg_iconst 25 dX12_areTold_24 rfl ?_
    refine xg_istoren 26 _ dX12_areTold_25 rfl rfl rfl (by decide) (Or.inr rfl) ?_
    have loop26 : ∀ (mm : Nat) (k : Nat) (b : Bool), (2 * (k : Int) ≤ F m 11 + 1) → (k = 0 ∨ F m 11 % 2 = 0) → (b = true → F m 11 % 2 = 0 ∧ F m 11 ≤ 40) → b = (decide (F m 11 % 2 = 0 ∧ F m 11 ≤ 40) && tOk (I (m + 6)) k) → F m 11 + 2 - 2 * k < (mm : Int) → xG E mX12_areTold (xR d 0 0) X 26 [some (.ref m), some (J (bI b)), some (J (2 * (k : Int)))] [] (z, T, F, upA I (m + 1) w, P, Y) 0 0 := by
      intro mm
      induction mm with
      | zero => intro k b hk hkb hbe hb hm; exfalso; omega
      | succ mm ih =>
        intro k b hk hkb hbe hb hm
        have ha1 := hT (2 * (k : Int))
        have ha2 := hT (2 * (k : Int) + 1)
        refine xg_iloadn 27 dX12_areTold_26 rfl rfl rfl ?_
        refine xg_aloadn 28 dX12_areTold_27 rfl rfl rfl ?_
        refine xg_getI 31 kf_RX12_86 dX12_areTold_28 rfl (by assumption) ?_
        refine xg_icge 82 34 dX12_areTold_31 rfl rfl (by first | omega | exact hR _ | exact ⟨hR _, by omega⟩ | exact ⟨by omega, hR _⟩ | exact ⟨hR _, hR _⟩) (fun hb31 => ?_) (fun hb31 => ?_)
        · skip
          refine xg_iloadn 83 dX12_areTold_82 rfl rfl rfl ?_
          subst hX
          exact xg_zreturn dX12_areTold_83 rfl (by first | exact bI_01 _ | omega) ⟨Nat.le_refl _, Nat.le_refl _⟩ ⟨by cases b with
                                            | false => rw [sTld_f (by omega) hb.symm]
                                            | true => rw [hb, show sTld (I (m + 6)) (F m 11) = (decide (F m 11 % 2 = 0 ∧ F m 11 ≤ 40) && tOk (I (m + 6)) k) by unfold sTld; rw [show (F m 11 / 2).toNat = k by have := hbe rfl; omega]], rfl⟩
        · skip
          refine xg_iloadn 35 dX12_areTold_34 rfl rfl rfl ?_
          refine xg_beq 82 38 dX12_areTold_35 rfl rfl (fun hb35 => ?_) (fun hb35 => ?_)
          · skip
            refine xg_iloadn 83 dX12_areTold_82 rfl rfl rfl ?_
            subst hX
            exact xg_zreturn dX12_areTold_83 rfl (by first | exact bI_01 _ | omega) ⟨Nat.le_refl _, Nat.le_refl _⟩ ⟨by rw [hb35] at hb ⊢; rw [sTld_f (by omega) hb.symm], rfl⟩
          · skip
            have hee := hbe hb35
            refine xg_aloadn 39 dX12_areTold_38 rfl rfl rfl ?_
            refine xg_getP 42 kf_RX12_29 dX12_areTold_39 rfl (by assumption) (by assumption) ?_
            refine xg_iloadn 43 dX12_areTold_42 rfl rfl rfl ?_
            refine xg_baldW 44 dX12_areTold_43 rfl ⟨v2, v4⟩ (by first | omega | exact hR _ | exact ⟨hR _, by omega⟩ | exact ⟨by omega, hR _⟩ | exact ⟨hR _, hR _⟩) ?_
            refine xg_iconst 45 dX12_areTold_44 rfl ?_
            refine xg_bipush 47 dX12_areTold_45 rfl (by decide) ?_
            refine xg_callS 50 [_, _, _] _ ks_X12_in kl_RX12_70 dX12_areTold_47 rfl rfl rfl (Nat.le_of_ble_eq_true rfl) (by omega) ⟨Nat.le_refl _, Nat.le_refl _⟩ (ct_X12_in (by omega)) rfl ?_
            refine xg_deq 74 53 dX12_areTold_50 rfl rfl (fun hb50 => ?_) (fun hb50 => ?_)
            · skip
              refine xg_iconst 75 dX12_areTold_74 rfl ?_
              refine xg_istoren 76 _ dX12_areTold_75 rfl rfl rfl (by decide) (Or.inr rfl) ?_
              refine xg_iinc 79 _ dX12_areTold_76 rfl rfl rfl rfl (by decide) (Or.inr rfl) ?_
              refine xg_goto 26 dX12_areTold_79 rfl ?_
              exact xg_weak _ (xle_s rfl (xle_s (show some (J 0) = some (J (bI false)) from rfl) (xle_s (by rw [show 2 * ((k + 1 : Nat) : Int) = 2 * (k : Int) + 2 by omega]) xle_0))) (ih (k + 1) false (by have := hbe hb35; omega) (Or.inr (hbe hb35).1) (fun q => by cases q) (by rw [tOk, show decide ((0 ≤ I (m + 6) (2 * (k : Int)) ∧ I (m + 6) (2 * (k : Int)) ≤ 59) ∧ 0 ≤ I (m + 6) (2 * (k : Int) + 1) ∧ I (m + 6) (2 * (k : Int) + 1) ≤ 101) = false from decide_eq_false (fun q => hb50 q.1), Bool.false_and, Bool.and_false]) (by omega))
            · skip
              refine xg_aloadn 54 dX12_areTold_53 rfl rfl rfl ?_
              refine xg_getP 57 kf_RX12_29 dX12_areTold_54 rfl (by assumption) (by assumption) ?_
              refine xg_iloadn 58 dX12_areTold_57 rfl rfl rfl ?_
              refine xg_iconst 59 dX12_areTold_58 rfl ?_
              refine xg_iadd 60 dX12_areTold_59 rfl ?_
              refine xg_baldW 61 dX12_areTold_60 rfl ⟨v2, v4⟩ (by first | omega | exact hR _ | exact ⟨hR _, by omega⟩ | exact ⟨by omega, hR _⟩ | exact ⟨hR _, hR _⟩) ?_
              refine xg_iconst 62 dX12_areTold_61 rfl ?_
              refine xg_bipush 64 dX12_areTold_62 rfl (by decide) ?_
              refine xg_callS 67 [_, _, _] _ ks_X12_in kl_RX12_70 dX12_areTold_64 rfl rfl rfl (Nat.le_of_ble_eq_true rfl) (by omega) ⟨Nat.le_refl _, Nat.le_refl _⟩ (ct_X12_in (by omega)) rfl ?_
              refine xg_deq 74 70 dX12_areTold_67 rfl rfl (fun hb67 => ?_) (fun hb67 => ?_)
              · skip
                refine xg_iconst 75 dX12_areTold_74 rfl ?_
                refine xg_istoren 76 _ dX12_areTold_75 rfl rfl rfl (by decide) (Or.inr rfl) ?_
                refine xg_iinc 79 _ dX12_areTold_76 rfl rfl rfl rfl (by decide) (Or.inr rfl) ?_
                refine xg_goto 26 dX12_areTold_79 rfl ?_
                exact xg_weak _ (xle_s rfl (xle_s (show some (J 0) = some (J (bI false)) from rfl) (xle_s (by rw [show 2 * ((k + 1 : Nat) : Int) = 2 * (k : Int) + 2 by omega]) xle_0))) (ih (k + 1) false (by have := hbe hb35; omega) (Or.inr (hbe hb35).1) (fun q => by cases q) (by rw [tOk, show decide ((0 ≤ I (m + 6) (2 * (k : Int)) ∧ I (m + 6) (2 * (k : Int)) ≤ 59) ∧ 0 ≤ I (m + 6) (2 * (k : Int) + 1) ∧ I (m + 6) (2 * (k : Int) + 1) ≤ 101) = false from decide_eq_false (fun q => hb67 q.2), Bool.false_and, Bool.and_false]) (by omega))
              · skip
                refine xg_iconst 71 dX12_areTold_70 rfl ?_
                refine xg_goto 75 dX12_areTold_71 rfl ?_
                refine xg_istoren 76 _ dX12_areTold_75 rfl rfl rfl (by decide) (Or.inr rfl) ?_
                refine xg_iinc 79 _ dX12_areTold_76 rfl rfl rfl rfl (by decide) (Or.inr rfl) ?_
                refine xg_goto 26 dX12_areTold_79 rfl ?_
                exact xg_weak _ (xle_s rfl (xle_s (show some (J 1) = some (J (bI true)) from rfl) (xle_s (by rw [show 2 * ((k + 1 : Nat) : Int) = 2 * (k : Int) + 2 by omega]) xle_0))) (ih (k + 1) true (by have := hbe hb35; omega) (Or.inr (hbe hb35).1) (fun _ => hbe hb35) (by rw [tOk, show decide ((0 ≤ I (m + 6) (2 * (k : Int)) ∧ I (m + 6) (2 * (k : Int)) ≤ 59) ∧ 0 ≤ I (m + 6) (2 * (k : Int) + 1) ∧ I (m + 6) (2 * (k : Int) + 1) ≤ 101) = true from decide_eq_true ⟨hb50, hb67⟩, Bool.true_and, ← hb, hb35]) (by omega))
    exact xg_weak _ (xle_s rfl (xle_s (show some (J 0) = some (J (bI false)) from rfl) (xle_s rfl xle_0))) (loop26 500 0 false (by omega) (Or.inl rfl) (fun q => by cases q) (by rw [decide_eq_false (fun q => hb6 q.1)]; rfl) (by omega))
  · skip
    refine xg_aloadn 10 dX12_areTold_9 rfl rfl rfl ?_
    refine xg_getI 13 kf_RX12_86 dX12_areTold_10 rfl (by assumption) ?_
    refine xg_bipush 15 dX12_areTold_13 rfl (by decide) ?_
    refine xg_icgt 22 18 dX12_areTold_15 rfl rfl (by first | omega | exact hR _ | exact ⟨hR _, by omega⟩ | exact ⟨by omega, hR _⟩ | exact ⟨hR _, hR _⟩) (fun hb15 => ?_) (fun hb15 => ?_)
    · skip
      refine xg_iconst 23 dX12_areTold_22 rfl ?_
      refine xg_istoren 24 _ dX12_areTold_23 rfl rfl rfl (by decide) (Or.inr rfl) ?_
      refine xg_iconst 25 dX12_areTold_24 rfl ?_
      refine xg_istoren 26 _ dX12_areTold_25 rfl rfl rfl (by decide) (Or.inr rfl) ?_
      have loop26 : ∀ (mm : Nat) (k : Nat) (b : Bool), (2 * (k : Int) ≤ F m 11 + 1) → (k = 0 ∨ F m 11 % 2 = 0) → (b = true → F m 11 % 2 = 0 ∧ F m 11 ≤ 40) → b = (decide (F m 11 % 2 = 0 ∧ F m 11 ≤ 40) && tOk (I (m + 6)) k) → F m 11 + 2 - 2 * k < (mm : Int) → xG E mX12_areTold (xR d 0 0) X 26 [some (.ref m), some (J (bI b)), some (J (2 * (k : Int)))] [] (z, T, F, upA I (m + 1) w, P, Y) 0 0 := by
        intro mm
        induction mm with
        | zero => intro k b hk hkb hbe hb hm; exfalso; omega
        | succ mm ih =>
          intro k b hk hkb hbe hb hm
          have ha1 := hT (2 * (k : Int))
          have ha2 := hT (2 * (k : Int) + 1)
          refine xg_iloadn 27 dX12_areTold_26 rfl rfl rfl ?_
          refine xg_aloadn 28 dX12_areTold_27 rfl rfl rfl ?_
          refine xg_getI 31 kf_RX12_86 dX12_areTold_28 rfl (by assumption) ?_
          refine xg_icge 82 34 dX12_areTold_31 rfl rfl (by first | omega | exact hR _ | exact ⟨hR _, by omega⟩ | exact ⟨by omega, hR _⟩ | exact ⟨hR _, hR _⟩) (fun hb31 => ?_) (fun hb31 => ?_)
          · skip
            refine xg_iloadn 83 dX12_areTold_82 rfl rfl rfl ?_
            subst hX
            exact xg_zreturn dX12_areTold_83 rfl (by first | exact bI_01 _ | omega) ⟨Nat.le_refl _, Nat.le_refl _⟩ ⟨by cases b with
                                              | false => rw [sTld_f (by omega) hb.symm]
                                              | true => rw [hb, show sTld (I (m + 6)) (F m 11) = (decide (F m 11 % 2 = 0 ∧ F m 11 ≤ 40) && tOk (I (m + 6)) k) by unfold sTld; rw [show (F m 11 / 2).toNat = k by have := hbe rfl; omega]], rfl⟩
          · skip
            refine xg_iloadn 35 dX12_areTold_34 rfl rfl rfl ?_
            refine xg_beq 82 38 dX12_areTold_35 rfl rfl (fun hb35 => ?_) (fun hb35 => ?_)
            · skip
              refine xg_iloadn 83 dX12_areTold_82 rfl rfl rfl ?_
              subst hX
              exact xg_zreturn dX12_areTold_83 rfl (by first | exact bI_01 _ | omega) ⟨Nat.le_refl _, Nat.le_refl _⟩ ⟨by rw [hb35] at hb ⊢; rw [sTld_f (by omega) hb.symm], rfl⟩
            · skip
              have hee := hbe hb35
              refine xg_aloadn 39 dX12_areTold_38 rfl rfl rfl ?_
              refine xg_getP 42 kf_RX12_29 dX12_areTold_39 rfl (by assumption) (by assumption) ?_
              refine xg_iloadn 43 dX12_areTold_42 rfl rfl rfl ?_
              refine xg_baldW 44 dX12_areTold_43 rfl ⟨v2, v4⟩ (by first | omega | exact hR _ | exact ⟨hR _, by omega⟩ | exact ⟨by omega, hR _⟩ | exact ⟨hR _, hR _⟩) ?_
              refine xg_iconst 45 dX12_areTold_44 rfl ?_
              refine xg_bipush 47 dX12_areTold_45 rfl (by decide) ?_
              refine xg_callS 50 [_, _, _] _ ks_X12_in kl_RX12_70 dX12_areTold_47 rfl rfl rfl (Nat.le_of_ble_eq_true rfl) (by omega) ⟨Nat.le_refl _, Nat.le_refl _⟩ (ct_X12_in (by omega)) rfl ?_
              refine xg_deq 74 53 dX12_areTold_50 rfl rfl (fun hb50 => ?_) (fun hb50 => ?_)
              · skip
                refine xg_iconst 75 dX12_areTold_74 rfl ?_
                refine xg_istoren 76 _ dX12_areTold_75 rfl rfl rfl (by decide) (Or.inr rfl) ?_
                refine xg_iinc 79 _ dX12_areTold_76 rfl rfl rfl rfl (by decide) (Or.inr rfl) ?_
                refine xg_goto 26 dX12_areTold_79 rfl ?_
                exact xg_weak _ (xle_s rfl (xle_s (show some (J 0) = some (J (bI false)) from rfl) (xle_s (by rw [show 2 * ((k + 1 : Nat) : Int) = 2 * (k : Int) + 2 by omega]) xle_0))) (ih (k + 1) false (by have := hbe hb35; omega) (Or.inr (hbe hb35).1) (fun q => by cases q) (by rw [tOk, show decide ((0 ≤ I (m + 6) (2 * (k : Int)) ∧ I (m + 6) (2 * (k : Int)) ≤ 59) ∧ 0 ≤ I (m + 6) (2 * (k : Int) + 1) ∧ I (m + 6) (2 * (k : Int) + 1) ≤ 101) = false from decide_eq_false (fun q => hb50 q.1), Bool.false_and, Bool.and_false]) (by omega))
              · skip
                refine xg_aloadn 54 dX12_areTold_53 rfl rfl rfl ?_
                refine xg_getP 57 kf_RX12_29 dX12_areTold_54 rfl (by assumption) (by assumption) ?_
                refine xg_iloadn 58 dX12_areTold_57 rfl rfl rfl ?_
                refine xg_iconst 59 dX12_areTold_58 rfl ?_
                refine xg_iadd 60 dX12_areTold_59 rfl ?_
                refine xg_baldW 61 dX12_areTold_60 rfl ⟨v2, v4⟩ (by first | omega | exact hR _ | exact ⟨hR _, by omega⟩ | exact ⟨by omega, hR _⟩ | exact ⟨hR _, hR _⟩) ?_
                refine xg_iconst 62 dX12_areTold_61 rfl ?_
                refine xg_bipush 64 dX12_areTold_62 rfl (by decide) ?_
                refine xg_callS 67 [_, _, _] _ ks_X12_in kl_RX12_70 dX12_areTold_64 rfl rfl rfl (Nat.le_of_ble_eq_true rfl) (by omega) ⟨Nat.le_refl _, Nat.le_refl _⟩ (ct_X12_in (by omega)) rfl ?_
                refine xg_deq 74 70 dX12_areTold_67 rfl rfl (fun hb67 => ?_) (fun hb67 => ?_)
                · skip
                  refine xg_iconst 75 dX12_areTold_74 rfl ?_
                  refine xg_istoren 76 _ dX12_areTold_75 rfl rfl rfl (by decide) (Or.inr rfl) ?_
                  refine xg_iinc 79 _ dX12_areTold_76 rfl rfl rfl rfl (by decide) (Or.inr rfl) ?_
                  refine xg_goto 26 dX12_areTold_79 rfl ?_
                  exact xg_weak _ (xle_s rfl (xle_s (show some (J 0) = some (J (bI false)) from rfl) (xle_s (by rw [show 2 * ((k + 1 : Nat) : Int) = 2 * (k : Int) + 2 by omega]) xle_0))) (ih (k + 1) false (by have := hbe hb35; omega) (Or.inr (hbe hb35).1) (fun q => by cases q) (by rw [tOk, show decide ((0 ≤ I (m + 6) (2 * (k : Int)) ∧ I (m + 6) (2 * (k : Int)) ≤ 59) ∧ 0 ≤ I (m + 6) (2 * (k : Int) + 1) ∧ I (m + 6) (2 * (k : Int) + 1) ≤ 101) = false from decide_eq_false (fun q => hb67 q.2), Bool.false_and, Bool.and_false]) (by omega))
                · skip
                  refine xg_iconst 71 dX12_areTold_70 rfl ?_
                  refine xg_goto 75 dX12_areTold_71 rfl ?_
                  refine xg_istoren 76 _ dX12_areTold_75 rfl rfl rfl (by decide) (Or.inr rfl) ?_
                  refine xg_iinc 79 _ dX12_areTold_76 rfl rfl rfl rfl (by decide) (Or.inr rfl) ?_
                  refine xg_goto 26 dX12_areTold_79 rfl ?_
                  exact xg_weak _ (xle_s rfl (xle_s (show some (J 1) = some (J (bI true)) from rfl) (xle_s (by rw [show 2 * ((k + 1 : Nat) : Int) = 2 * (k : Int) + 2 by omega]) xle_0))) (ih (k + 1) true (by have := hbe hb35; omega) (Or.inr (hbe hb35).1) (fun _ => hbe hb35) (by rw [tOk, show decide ((0 ≤ I (m + 6) (2 * (k : Int)) ∧ I (m + 6) (2 * (k : Int)) ≤ 59) ∧ 0 ≤ I (m + 6) (2 * (k : Int) + 1) ∧ I (m + 6) (2 * (k : Int) + 1) ≤ 101) = true from decide_eq_true ⟨hb50, hb67⟩, Bool.true_and, ← hb, hb35]) (by omega))
      exact xg_weak _ (xle_s rfl (xle_s (show some (J 0) = some (J (bI false)) from rfl) (xle_s rfl xle_0))) (loop26 500 0 false (by omega) (Or.inl rfl) (fun q => by cases q) (by rw [decide_eq_false (fun q => by omega)]; rfl) (by omega))
    · skip
      refine xg_iconst 19 dX12_areTold_18 rfl ?_
      refine xg_goto 23 dX12_areTold_19 rfl ?_
      refine xg_istoren 24 _ dX12_areTold_23 rfl rfl rfl (by decide) (Or.inr rfl) ?_
      refine xg_iconst 25 dX12_areTold_24 rfl ?_
      refine xg_istoren 26 _ dX12_areTold_25 rfl rfl rfl (by decide) (Or.inr rfl) ?_
      have loop26 : ∀ (mm : Nat) (k : Nat) (b : Bool), (2 * (k : Int) ≤ F m 11 + 1) → (k = 0 ∨ F m 11 % 2 = 0) → (b = true → F m 11 % 2 = 0 ∧ F m 11 ≤ 40) → b = (decide (F m 11 % 2 = 0 ∧ F m 11 ≤ 40) && tOk (I (m + 6)) k) → F m 11 + 2 - 2 * k < (mm : Int) → xG E mX12_areTold (xR d 0 0) X 26 [some (.ref m), some (J (bI b)), some (J (2 * (k : Int)))] [] (z, T, F, upA I (m + 1) w, P, Y) 0 0 := by
        intro mm
        induction mm with
        | zero => intro k b hk hkb hbe hb hm; exfalso; omega
        | succ mm ih =>
          intro k b hk hkb hbe hb hm
          have ha1 := hT (2 * (k : Int))
          have ha2 := hT (2 * (k : Int) + 1)
          refine xg_iloadn 27 dX12_areTold_26 rfl rfl rfl ?_
          refine xg_aloadn 28 dX12_areTold_27 rfl rfl rfl ?_
          refine xg_getI 31 kf_RX12_86 dX12_areTold_28 rfl (by assumption) ?_
          refine xg_icge 82 34 dX12_areTold_31 rfl rfl (by first | omega | exact hR _ | exact ⟨hR _, by omega⟩ | exact ⟨by omega, hR _⟩ | exact ⟨hR _, hR _⟩) (fun hb31 => ?_) (fun hb31 => ?_)
          · skip
            refine xg_iloadn 83 dX12_areTold_82 rfl rfl rfl ?_
            subst hX
            exact xg_zreturn dX12_areTold_83 rfl (by first | exact bI_01 _ | omega) ⟨Nat.le_refl _, Nat.le_refl _⟩ ⟨by cases b with
                                              | false => rw [sTld_f (by omega) hb.symm]
                                              | true => rw [hb, show sTld (I (m + 6)) (F m 11) = (decide (F m 11 % 2 = 0 ∧ F m 11 ≤ 40) && tOk (I (m + 6)) k) by unfold sTld; rw [show (F m 11 / 2).toNat = k by have := hbe rfl; omega]], rfl⟩
          · skip
            refine xg_iloadn 35 dX12_areTold_34 rfl rfl rfl ?_
            refine xg_beq 82 38 dX12_areTold_35 rfl rfl (fun hb35 => ?_) (fun hb35 => ?_)
            · skip
              refine xg_iloadn 83 dX12_areTold_82 rfl rfl rfl ?_
              subst hX
              exact xg_zreturn dX12_areTold_83 rfl (by first | exact bI_01 _ | omega) ⟨Nat.le_refl _, Nat.le_refl _⟩ ⟨by rw [hb35] at hb ⊢; rw [sTld_f (by omega) hb.symm], rfl⟩
            · skip
              have hee := hbe hb35
              refine xg_aloadn 39 dX12_areTold_38 rfl rfl rfl ?_
              refine xg_getP 42 kf_RX12_29 dX12_areTold_39 rfl (by assumption) (by assumption) ?_
              refine xg_iloadn 43 dX12_areTold_42 rfl rfl rfl ?_
              refine xg_baldW 44 dX12_areTold_43 rfl ⟨v2, v4⟩ (by first | omega | exact hR _ | exact ⟨hR _, by omega⟩ | exact ⟨by omega, hR _⟩ | exact ⟨hR _, hR _⟩) ?_
              refine xg_iconst 45 dX12_areTold_44 rfl ?_
              refine xg_bipush 47 dX12_areTold_45 rfl (by decide) ?_
              refine xg_callS 50 [_, _, _] _ ks_X12_in kl_RX12_70 dX12_areTold_47 rfl rfl rfl (Nat.le_of_ble_eq_true rfl) (by omega) ⟨Nat.le_refl _, Nat.le_refl _⟩ (ct_X12_in (by omega)) rfl ?_
              refine xg_deq 74 53 dX12_areTold_50 rfl rfl (fun hb50 => ?_) (fun hb50 => ?_)
              · skip
                refine xg_iconst 75 dX12_areTold_74 rfl ?_
                refine xg_istoren 76 _ dX12_areTold_75 rfl rfl rfl (by decide) (Or.inr rfl) ?_
                refine xg_iinc 79 _ dX12_areTold_76 rfl rfl rfl rfl (by decide) (Or.inr rfl) ?_
                refine xg_goto 26 dX12_areTold_79 rfl ?_
                exact xg_weak _ (xle_s rfl (xle_s (show some (J 0) = some (J (bI false)) from rfl) (xle_s (by rw [show 2 * ((k + 1 : Nat) : Int) = 2 * (k : Int) + 2 by omega]) xle_0))) (ih (k + 1) false (by have := hbe hb35; omega) (Or.inr (hbe hb35).1) (fun q => by cases q) (by rw [tOk, show decide ((0 ≤ I (m + 6) (2 * (k : Int)) ∧ I (m + 6) (2 * (k : Int)) ≤ 59) ∧ 0 ≤ I (m + 6) (2 * (k : Int) + 1) ∧ I (m + 6) (2 * (k : Int) + 1) ≤ 101) = false from decide_eq_false (fun q => hb50 q.1), Bool.false_and, Bool.and_false]) (by omega))
              · skip
                refine xg_aloadn 54 dX12_areTold_53 rfl rfl rfl ?_
                refine xg_getP 57 kf_RX12_29 dX12_areTold_54 rfl (by assumption) (by assumption) ?_
                refine xg_iloadn 58 dX12_areTold_57 rfl rfl rfl ?_
                refine xg_iconst 59 dX12_areTold_58 rfl ?_
                refine xg_iadd 60 dX12_areTold_59 rfl ?_
                refine xg_baldW 61 dX12_areTold_60 rfl ⟨v2, v4⟩ (by first | omega | exact hR _ | exact ⟨hR _, by omega⟩ | exact ⟨by omega, hR _⟩ | exact ⟨hR _, hR _⟩) ?_
                refine xg_iconst 62 dX12_areTold_61 rfl ?_
                refine xg_bipush 64 dX12_areTold_62 rfl (by decide) ?_
                refine xg_callS 67 [_, _, _] _ ks_X12_in kl_RX12_70 dX12_areTold_64 rfl rfl rfl (Nat.le_of_ble_eq_true rfl) (by omega) ⟨Nat.le_refl _, Nat.le_refl _⟩ (ct_X12_in (by omega)) rfl ?_
                refine xg_deq 74 70 dX12_areTold_67 rfl rfl (fun hb67 => ?_) (fun hb67 => ?_)
                · skip
                  refine xg_iconst 75 dX12_areTold_74 rfl ?_
                  refine xg_istoren 76 _ dX12_areTold_75 rfl rfl rfl (by decide) (Or.inr rfl) ?_
                  refine xg_iinc 79 _ dX12_areTold_76 rfl rfl rfl rfl (by decide) (Or.inr rfl) ?_
                  refine xg_goto 26 dX12_areTold_79 rfl ?_
                  exact xg_weak _ (xle_s rfl (xle_s (show some (J 0) = some (J (bI false)) from rfl) (xle_s (by rw [show 2 * ((k + 1 : Nat) : Int) = 2 * (k : Int) + 2 by omega]) xle_0))) (ih (k + 1) false (by have := hbe hb35; omega) (Or.inr (hbe hb35).1) (fun q => by cases q) (by rw [tOk, show decide ((0 ≤ I (m + 6) (2 * (k : Int)) ∧ I (m + 6) (2 * (k : Int)) ≤ 59) ∧ 0 ≤ I (m + 6) (2 * (k : Int) + 1) ∧ I (m + 6) (2 * (k : Int) + 1) ≤ 101) = false from decide_eq_false (fun q => hb67 q.2), Bool.false_and, Bool.and_false]) (by omega))
                · skip
                  refine xg_iconst 71 dX12_areTold_70 rfl ?_
                  refine xg_goto 75 dX12_areTold_71 rfl ?_
                  refine xg_istoren 76 _ dX12_areTold_75 rfl rfl rfl (by decide) (Or.inr rfl) ?_
                  refine xg_iinc 79 _ dX12_areTold_76 rfl rfl rfl rfl (by decide) (Or.inr rfl) ?_
                  refine xg_goto 26 dX12_areTold_79 rfl ?_
                  exact xg_weak _ (xle_s rfl (xle_s (show some (J 1) = some (J (bI true)) from rfl) (xle_s (by rw [show 2 * ((k + 1 : Nat) : Int) = 2 * (k : Int) + 2 by omega]) xle_0))) (ih (k + 1) true (by have := hbe hb35; omega) (Or.inr (hbe hb35).1) (fun _ => hbe hb35) (by rw [tOk, show decide ((0 ≤ I (m + 6) (2 * (k : Int)) ∧ I (m + 6) (2 * (k : Int)) ≤ 59) ∧ 0 ≤ I (m + 6) (2 * (k : Int) + 1) ∧ I (m + 6) (2 * (k : Int) + 1) ≤ 101) = true from decide_eq_true ⟨hb50, hb67⟩, Bool.true_and, ← hb, hb35]) (by omega))
      exact xg_weak _ (xle_s rfl (xle_s (show some (J 1) = some (J (bI true)) from rfl) (xle_s rfl xle_0))) (loop26 500 0 true (by omega) (Or.inl rfl) (fun _ => ⟨hb6, hb15⟩) (by rw [decide_eq_true ⟨hb6, hb15⟩]; rfl) (by omega))

theorem dX12_toldBy_0 : decode cX12_toldBy 0 = .ok (.aload_n 0, 1) := by decide +kernel
theorem dX12_toldBy_1 : decode cX12_toldBy 1 = .ok (.getfield 13, 3) := by decide +kernel
theorem dX12_toldBy_4 : decode cX12_toldBy 4 = .ok (.iload_n 1, 1) := by decide +kernel
theorem dX12_toldBy_5 : decode cX12_toldBy 5 = .ok (.invokestatic 133, 3) := by decide +kernel
theorem dX12_toldBy_8 : decode cX12_toldBy 8 = .ok (.iload_n 2, 1) := by decide +kernel
theorem dX12_toldBy_9 : decode cX12_toldBy 9 = .ok (.iadd, 1) := by decide +kernel
theorem dX12_toldBy_10 : decode cX12_toldBy 10 = .ok (.iaload, 1) := by decide +kernel
theorem dX12_toldBy_11 : decode cX12_toldBy 11 = .ok (.istore_n 3, 1) := by decide +kernel
theorem dX12_toldBy_12 : decode cX12_toldBy 12 = .ok (.iload_n 3, 1) := by decide +kernel
theorem dX12_toldBy_13 : decode cX12_toldBy 13 = .ok (.iconst (-1), 1) := by decide +kernel
theorem dX12_toldBy_14 : decode cX12_toldBy 14 = .ok (.if_icmp .ne 8, 3) := by decide +kernel
theorem dX12_toldBy_17 : decode cX12_toldBy 17 = .ok (.bipush 101, 2) := by decide +kernel
theorem dX12_toldBy_19 : decode cX12_toldBy 19 = .ok (.goto 4, 3) := by decide +kernel
theorem dX12_toldBy_22 : decode cX12_toldBy 22 = .ok (.iload_n 3, 1) := by decide +kernel
theorem dX12_toldBy_23 : decode cX12_toldBy 23 = .ok (.ireturn, 1) := by decide +kernel
set_option maxHeartbeats 4000000 in
set_option maxRecDepth 100000 in
theorem ct_X12_toldBy {E : xE} {z : Nat} {T : Nat → Nat × Int} {F : Nat → Nat → Int} {I : Nat → Int → Int} {P : Nat → Nat → Option Nat} {Y : Nat → Int → Option Nat} {m : Nat} {w : Int → Int} (hw : wM T P m) (hO : wOk w){r key : Int} (hr : 0 ≤ r ∧ r < 12) (hk : 0 ≤ key ∧ key < 60) : Ct E 2 mX12_toldBy 0 0 [.ref m, J r, J key] (z, T, F, upA I (m + 1) w, P, Y) (xd (some (J (sTby w r key))) (z, T, F, upA I (m + 1) w, P, Y)) := by
  obtain ⟨⟨q0, q1, q2, q3⟩, -⟩ := id hw
  obtain ⟨hR, o0, o1, o2, o3, o4, o5, o6, oc, o13, o14, o16, o17, o18, ov⟩ := id hO
  have hN := wN_i o0.1
  refine Ct.of [some (.ref m), some (J r), some (J key), none] kt_X12_toldBy rfl (Nat.le_of_ble_eq_true rfl) rfl (fun d hd => ?_)
  generalize hX : xN E _ _ _ = X
  refine xg_aloadn 1 dX12_toldBy_0 rfl rfl rfl ?_
  refine xg_getP 4 kf_RX12_13 dX12_toldBy_1 rfl (by assumption) (by assumption) ?_
  refine xg_iloadn 5 dX12_toldBy_4 rfl rfl rfl ?_
  refine xg_callS 8 [_] _ ks_X12_rowOf kl_RX12_133 dX12_toldBy_5 rfl rfl rfl (Nat.le_of_ble_eq_true rfl) (by omega) ⟨Nat.le_refl _, Nat.le_refl _⟩ (ct_X12_rowOf) rfl ?_
  refine xg_iloadn 9 dX12_toldBy_8 rfl rfl rfl ?_
  refine xg_iadd 10 dX12_toldBy_9 rfl ?_
  refine xg_ialdW 11 dX12_toldBy_10 rfl (by assumption) (by first | omega | exact hR _ | exact ⟨hR _, by omega⟩ | exact ⟨by omega, hR _⟩ | exact ⟨hR _, hR _⟩) ?_
  refine xg_istoren 12 _ dX12_toldBy_11 rfl rfl rfl (by decide) (Or.inr rfl) ?_
  refine xg_iloadn 13 dX12_toldBy_12 rfl rfl rfl ?_
  refine xg_iconst 14 dX12_toldBy_13 rfl ?_
  refine xg_icne 22 17 dX12_toldBy_14 rfl rfl (by first | omega | exact hR _ | exact ⟨hR _, by omega⟩ | exact ⟨by omega, hR _⟩ | exact ⟨hR _, hR _⟩) (fun hb14 => ?_) (fun hb14 => ?_)
  · skip
    refine xg_iloadn 23 dX12_toldBy_22 rfl rfl rfl ?_
    subst hX
    exact xg_ireturn dX12_toldBy_23 rfl ⟨Nat.le_refl _, Nat.le_refl _⟩ ⟨congrArg (fun v => some (J v)) (by unfold sTby; first | rw [if_pos hb14] | rw [if_neg hb14]), rfl⟩
  · skip
    refine xg_bipush 19 dX12_toldBy_17 rfl (by decide) ?_
    refine xg_goto 23 dX12_toldBy_19 rfl ?_
    subst hX
    exact xg_ireturn dX12_toldBy_23 rfl ⟨Nat.le_refl _, Nat.le_refl _⟩ ⟨congrArg (fun v => some (J v)) (by unfold sTby; first | rw [if_pos hb14] | rw [if_neg hb14]), rfl⟩

theorem dX12_wrongRows_0 : decode cX12_wrongRows 0 = .ok (.iconst 0, 1) := by decide +kernel
theorem dX12_wrongRows_1 : decode cX12_wrongRows 1 = .ok (.istore_n 2, 1) := by decide +kernel
theorem dX12_wrongRows_2 : decode cX12_wrongRows 2 = .ok (.iconst 0, 1) := by decide +kernel
theorem dX12_wrongRows_3 : decode cX12_wrongRows 3 = .ok (.istore_n 3, 1) := by decide +kernel
theorem dX12_wrongRows_4 : decode cX12_wrongRows 4 = .ok (.iload_n 3, 1) := by decide +kernel
theorem dX12_wrongRows_5 : decode cX12_wrongRows 5 = .ok (.aload_n 0, 1) := by decide +kernel
theorem dX12_wrongRows_6 : decode cX12_wrongRows 6 = .ok (.getfield 86, 3) := by decide +kernel
theorem dX12_wrongRows_9 : decode cX12_wrongRows 9 = .ok (.if_icmp .ge 39, 3) := by decide +kernel
theorem dX12_wrongRows_12 : decode cX12_wrongRows 12 = .ok (.iload_n 2, 1) := by decide +kernel
theorem dX12_wrongRows_13 : decode cX12_wrongRows 13 = .ok (.aload_n 0, 1) := by decide +kernel
theorem dX12_wrongRows_14 : decode cX12_wrongRows 14 = .ok (.iload_n 1, 1) := by decide +kernel
theorem dX12_wrongRows_15 : decode cX12_wrongRows 15 = .ok (.aload_n 0, 1) := by decide +kernel
theorem dX12_wrongRows_16 : decode cX12_wrongRows 16 = .ok (.getfield 29, 3) := by decide +kernel
theorem dX12_wrongRows_19 : decode cX12_wrongRows 19 = .ok (.iload_n 3, 1) := by decide +kernel
theorem dX12_wrongRows_20 : decode cX12_wrongRows 20 = .ok (.baload, 1) := by decide +kernel
theorem dX12_wrongRows_21 : decode cX12_wrongRows 21 = .ok (.invokevirtual 413, 3) := by decide +kernel
theorem dX12_wrongRows_24 : decode cX12_wrongRows 24 = .ok (.aload_n 0, 1) := by decide +kernel
theorem dX12_wrongRows_25 : decode cX12_wrongRows 25 = .ok (.getfield 29, 3) := by decide +kernel
theorem dX12_wrongRows_28 : decode cX12_wrongRows 28 = .ok (.iload_n 3, 1) := by decide +kernel
theorem dX12_wrongRows_29 : decode cX12_wrongRows 29 = .ok (.iconst 1, 1) := by decide +kernel
theorem dX12_wrongRows_30 : decode cX12_wrongRows 30 = .ok (.iadd, 1) := by decide +kernel
theorem dX12_wrongRows_31 : decode cX12_wrongRows 31 = .ok (.baload, 1) := by decide +kernel
theorem dX12_wrongRows_32 : decode cX12_wrongRows 32 = .ok (.if_icmp .ne 7, 3) := by decide +kernel
theorem dX12_wrongRows_35 : decode cX12_wrongRows 35 = .ok (.iconst 0, 1) := by decide +kernel
theorem dX12_wrongRows_36 : decode cX12_wrongRows 36 = .ok (.goto 4, 3) := by decide +kernel
theorem dX12_wrongRows_39 : decode cX12_wrongRows 39 = .ok (.iconst 1, 1) := by decide +kernel
theorem dX12_wrongRows_40 : decode cX12_wrongRows 40 = .ok (.iadd, 1) := by decide +kernel
theorem dX12_wrongRows_41 : decode cX12_wrongRows 41 = .ok (.istore_n 2, 1) := by decide +kernel
theorem dX12_wrongRows_42 : decode cX12_wrongRows 42 = .ok (.iinc 3 2, 3) := by decide +kernel
theorem dX12_wrongRows_45 : decode cX12_wrongRows 45 = .ok (.goto (-41), 3) := by decide +kernel
theorem dX12_wrongRows_48 : decode cX12_wrongRows 48 = .ok (.iload_n 2, 1) := by decide +kernel
theorem dX12_wrongRows_49 : decode cX12_wrongRows 49 = .ok (.ireturn, 1) := by decide +kernel
set_option maxHeartbeats 4000000 in
set_option maxRecDepth 100000 in
theorem ct_X12_wrongRows {E : xE} {z : Nat} {T : Nat → Nat × Int} {F : Nat → Nat → Int} {I : Nat → Int → Int} {P : Nat → Nat → Option Nat} {Y : Nat → Int → Option Nat} {m : Nat} {w : Int → Int} (hw : wM T P m) (hO : wOk w)(hT : ∀ j : Int, -128 ≤ I (m + 6) j ∧ I (m + 6) j ≤ 127) (hE : 0 ≤ F m 11 ∧ F m 11 ≤ 400) (hV : sTld (I (m + 6)) (F m 11) = true) {r : Nat} (hr : (r : Int) < w 0) : Ct E 3 mX12_wrongRows 0 0 [.ref m, J (r : Int)] (z, T, F, upA I (m + 1) w, P, Y) (xd (some (J (sWrg w (I (m + 6)) (F m 11) r))) (z, T, F, upA I (m + 1) w, P, Y)) := by
  obtain ⟨⟨q0, q1, q2, q3⟩, -, -, -, -, ⟨v1, v2, v3⟩, -⟩ := id hw
  have v4 : m + 6 ≠ m + 1 := by omega
  obtain ⟨hR, o0, o1, o2, o3, o4, o5, o6, oc, o13, o14, o16, o17, o18, ov⟩ := id hO
  have hN := wN_i o0.1
  have hV1 : F m 11 % 2 = 0 ∧ F m 11 ≤ 40 := by unfold sTld at hV; rw [Bool.and_eq_true] at hV; exact of_decide_eq_true hV.1
  have hV2 : tOk (I (m + 6)) (F m 11 / 2).toNat = true := by unfold sTld at hV; rw [Bool.and_eq_true] at hV; exact hV.2
  refine Ct.of [some (.ref m), some (J (r : Int)), none, none] kt_X12_wrongRows rfl (Nat.le_of_ble_eq_true rfl) rfl (fun d hd => ?_)
  generalize hX : xN E _ _ _ = X
  refine xg_iconst 1 dX12_wrongRows_0 rfl ?_
  refine xg_istoren 2 _ dX12_wrongRows_1 rfl rfl rfl (by decide) (Or.inr rfl) ?_
  refine xg_iconst 3 dX12_wrongRows_2 rfl ?_
  refine xg_istoren 4 _ dX12_wrongRows_3 rfl rfl rfl (by decide) (Or.inr rfl) ?_
  have loop4 : ∀ (mm : Nat) (k : Nat) (n : Int), (2 * (k : Int) ≤ F m 11) → n = pSum (fun k => if sTby w r (I (m + 6) (2 * k)) = I (m + 6) (2 * k + 1) then 0 else 1) k → F m 11 + 1 - 2 * k < (mm : Int) → xG E mX12_wrongRows (xR d 0 0) X 4 [some (.ref m), some (J (r : Int)), some (J n), some (J (2 * (k : Int)))] [] (z, T, F, upA I (m + 1) w, P, Y) 0 0 := by
    intro mm
    induction mm with
    | zero => intro k n hk hn hm; exfalso; omega
    | succ mm ih =>
      intro k n hk hn hm
      have hwb := sWrg_bd w (I (m + 6)) (r : Int) k
      refine xg_iloadn 5 dX12_wrongRows_4 rfl rfl rfl ?_
      refine xg_aloadn 6 dX12_wrongRows_5 rfl rfl rfl ?_
      refine xg_getI 9 kf_RX12_86 dX12_wrongRows_6 rfl (by assumption) ?_
      refine xg_icge 48 12 dX12_wrongRows_9 rfl rfl (by first | omega | exact hR _ | exact ⟨hR _, by omega⟩ | exact ⟨by omega, hR _⟩ | exact ⟨hR _, hR _⟩) (fun hb9 => ?_) (fun hb9 => ?_)
      · skip
        refine xg_iloadn 49 dX12_wrongRows_48 rfl rfl rfl ?_
        subst hX
        exact xg_ireturn dX12_wrongRows_49 rfl ⟨Nat.le_refl _, Nat.le_refl _⟩ ⟨by rw [hn, show k = (F m 11 / 2).toNat by omega]; rfl, rfl⟩
      · skip
        have hat := tOk_at hV2 (k := k) (by omega)
        have hby := sTby_bd hO (r := (r : Int)) (key := I (m + 6) (2 * (k : Int))) (by omega) (by omega)
        refine xg_iloadn 13 dX12_wrongRows_12 rfl rfl rfl ?_
        refine xg_aloadn 14 dX12_wrongRows_13 rfl rfl rfl ?_
        refine xg_iloadn 15 dX12_wrongRows_14 rfl rfl rfl ?_
        refine xg_aloadn 16 dX12_wrongRows_15 rfl rfl rfl ?_
        refine xg_getP 19 kf_RX12_29 dX12_wrongRows_16 rfl (by assumption) (by assumption) ?_
        refine xg_iloadn 20 dX12_wrongRows_19 rfl rfl rfl ?_
        refine xg_baldW 21 dX12_wrongRows_20 rfl ⟨v2, v4⟩ (by first | omega | exact hR _ | exact ⟨hR _, by omega⟩ | exact ⟨by omega, hR _⟩ | exact ⟨hR _, hR _⟩) ?_
        refine xg_callV 24 12 [_, _] _ kv_X12_toldBy ⟨_, _, rfl⟩ kl_RX12_413 dX12_wrongRows_21 rfl (by assumption) (by omega) rfl rfl (Nat.le_of_ble_eq_true rfl) (by omega) ⟨Nat.le_refl _, Nat.le_refl _⟩ (ct_X12_toldBy hw hO (by omega) (by omega)) rfl ?_
        refine xg_aloadn 25 dX12_wrongRows_24 rfl rfl rfl ?_
        refine xg_getP 28 kf_RX12_29 dX12_wrongRows_25 rfl (by assumption) (by assumption) ?_
        refine xg_iloadn 29 dX12_wrongRows_28 rfl rfl rfl ?_
        refine xg_iconst 30 dX12_wrongRows_29 rfl ?_
        refine xg_iadd 31 dX12_wrongRows_30 rfl ?_
        refine xg_baldW 32 dX12_wrongRows_31 rfl ⟨v2, v4⟩ (by first | omega | exact hR _ | exact ⟨hR _, by omega⟩ | exact ⟨by omega, hR _⟩ | exact ⟨hR _, hR _⟩) ?_
        refine xg_icne 39 35 dX12_wrongRows_32 rfl rfl (by first | omega | exact hR _ | exact ⟨hR _, by omega⟩ | exact ⟨by omega, hR _⟩ | exact ⟨hR _, hR _⟩) (fun hb32 => ?_) (fun hb32 => ?_)
        · skip
          refine xg_iconst 40 dX12_wrongRows_39 rfl ?_
          refine xg_iadd 41 dX12_wrongRows_40 rfl ?_
          refine xg_istoren 42 _ dX12_wrongRows_41 rfl rfl rfl (by decide) (Or.inr rfl) ?_
          refine xg_iinc 45 _ dX12_wrongRows_42 rfl rfl rfl rfl (by decide) (Or.inr rfl) ?_
          refine xg_goto 4 dX12_wrongRows_45 rfl ?_
          exact xg_weak _ (xle_s rfl (xle_s rfl (xle_s rfl (xle_s (by rw [show 2 * ((k + 1 : Nat) : Int) = 2 * (k : Int) + 2 by omega]) xle_0)))) (ih (k + 1) _ (by omega) (by rw [hn, pSum_s]; first | rw [if_pos hb32] | rw [if_neg hb32]) (by omega))
        · skip
          refine xg_iconst 36 dX12_wrongRows_35 rfl ?_
          refine xg_goto 40 dX12_wrongRows_36 rfl ?_
          refine xg_iadd 41 dX12_wrongRows_40 rfl ?_
          refine xg_istoren 42 _ dX12_wrongRows_41 rfl rfl rfl (by decide) (Or.inr rfl) ?_
          refine xg_iinc 45 _ dX12_wrongRows_42 rfl rfl rfl rfl (by decide) (Or.inr rfl) ?_
          refine xg_goto 4 dX12_wrongRows_45 rfl ?_
          exact xg_weak _ (xle_s rfl (xle_s rfl (xle_s rfl (xle_s (by rw [show 2 * ((k + 1 : Nat) : Int) = 2 * (k : Int) + 2 by omega]) xle_0)))) (ih (k + 1) _ (by omega) (by rw [hn, pSum_s]; first | rw [if_pos hb32] | rw [if_neg hb32]) (by omega))
  exact xg_weak _ (xle_s rfl (xle_s rfl (xle_s rfl (xle_s rfl xle_0)))) (loop4 500 0 0 (by omega) rfl (by omega))

theorem dX12_thatFit_0 : decode cX12_thatFit 0 = .ok (.iconst 0, 1) := by decide +kernel
theorem dX12_thatFit_1 : decode cX12_thatFit 1 = .ok (.istore_n 2, 1) := by decide +kernel
theorem dX12_thatFit_2 : decode cX12_thatFit 2 = .ok (.iconst 0, 1) := by decide +kernel
theorem dX12_thatFit_3 : decode cX12_thatFit 3 = .ok (.istore_n 3, 1) := by decide +kernel
theorem dX12_thatFit_4 : decode cX12_thatFit 4 = .ok (.iload_n 3, 1) := by decide +kernel
theorem dX12_thatFit_5 : decode cX12_thatFit 5 = .ok (.aload_n 0, 1) := by decide +kernel
theorem dX12_thatFit_6 : decode cX12_thatFit 6 = .ok (.invokevirtual 66, 3) := by decide +kernel
theorem dX12_thatFit_9 : decode cX12_thatFit 9 = .ok (.if_icmp .ge 28, 3) := by decide +kernel
theorem dX12_thatFit_12 : decode cX12_thatFit 12 = .ok (.iload_n 2, 1) := by decide +kernel
theorem dX12_thatFit_13 : decode cX12_thatFit 13 = .ok (.aload_n 0, 1) := by decide +kernel
theorem dX12_thatFit_14 : decode cX12_thatFit 14 = .ok (.iload_n 3, 1) := by decide +kernel
theorem dX12_thatFit_15 : decode cX12_thatFit 15 = .ok (.invokevirtual 416, 3) := by decide +kernel
theorem dX12_thatFit_18 : decode cX12_thatFit 18 = .ok (.iload_n 1, 1) := by decide +kernel
theorem dX12_thatFit_19 : decode cX12_thatFit 19 = .ok (.if_icmp .gt 9, 3) := by decide +kernel
theorem dX12_thatFit_22 : decode cX12_thatFit 22 = .ok (.iconst 1, 1) := by decide +kernel
theorem dX12_thatFit_23 : decode cX12_thatFit 23 = .ok (.iload_n 3, 1) := by decide +kernel
theorem dX12_thatFit_24 : decode cX12_thatFit 24 = .ok (.ishl, 1) := by decide +kernel
theorem dX12_thatFit_25 : decode cX12_thatFit 25 = .ok (.goto 4, 3) := by decide +kernel
theorem dX12_thatFit_28 : decode cX12_thatFit 28 = .ok (.iconst 0, 1) := by decide +kernel
theorem dX12_thatFit_29 : decode cX12_thatFit 29 = .ok (.ior, 1) := by decide +kernel
theorem dX12_thatFit_30 : decode cX12_thatFit 30 = .ok (.istore_n 2, 1) := by decide +kernel
theorem dX12_thatFit_31 : decode cX12_thatFit 31 = .ok (.iinc 3 1, 3) := by decide +kernel
theorem dX12_thatFit_34 : decode cX12_thatFit 34 = .ok (.goto (-30), 3) := by decide +kernel
theorem dX12_thatFit_37 : decode cX12_thatFit 37 = .ok (.iload_n 2, 1) := by decide +kernel
theorem dX12_thatFit_38 : decode cX12_thatFit 38 = .ok (.ireturn, 1) := by decide +kernel
set_option maxHeartbeats 4000000 in
set_option maxRecDepth 100000 in
theorem ct_X12_thatFit {E : xE} {z : Nat} {T : Nat → Nat × Int} {F : Nat → Nat → Int} {I : Nat → Int → Int} {P : Nat → Nat → Option Nat} {Y : Nat → Int → Option Nat} {m : Nat} {w : Int → Int} (hw : wM T P m) (hO : wOk w)(hT : ∀ j : Int, -128 ≤ I (m + 6) j ∧ I (m + 6) j ≤ 127) (hE : 0 ≤ F m 11 ∧ F m 11 ≤ 400) (hV : sTld (I (m + 6)) (F m 11) = true) {x : Int} (hx : 0 ≤ x ∧ x ≤ 1) : Ct E 4 mX12_thatFit 0 0 [.ref m, J x] (z, T, F, upA I (m + 1) w, P, Y) (xd (some (J (sFit w (I (m + 6)) (F m 11) x : Nat))) (z, T, F, upA I (m + 1) w, P, Y)) := by
  obtain ⟨⟨q0, q1, q2, q3⟩, -⟩ := id hw
  obtain ⟨hR, o0, o1, o2, o3, o4, o5, o6, oc, o13, o14, o16, o17, o18, ov⟩ := id hO
  have hN := wN_i o0.1
  refine Ct.of [some (.ref m), some (J x), none, none] kt_X12_thatFit rfl (Nat.le_of_ble_eq_true rfl) rfl (fun d hd => ?_)
  generalize hX : xN E _ _ _ = X
  refine xg_iconst 1 dX12_thatFit_0 rfl ?_
  refine xg_istoren 2 _ dX12_thatFit_1 rfl rfl rfl (by decide) (Or.inr rfl) ?_
  refine xg_iconst 3 dX12_thatFit_2 rfl ?_
  refine xg_istoren 4 _ dX12_thatFit_3 rfl rfl rfl (by decide) (Or.inr rfl) ?_
  have loop4 : ∀ (mm : Nat) (r : Nat) (n : Int), (r : Int) ≤ w 0 → n = (nSet (fun r => decide (sWrg w (I (m + 6)) (F m 11) (r : Int) ≤ x)) r : Nat) → w 0 - (r : Int) < (mm : Int) → xG E mX12_thatFit (xR d 0 0) X 4 [some (.ref m), some (J x), some (J n), some (J (r : Int))] [] (z, T, F, upA I (m + 1) w, P, Y) 0 0 := by
    intro mm
    induction mm with
    | zero => intro r n hr hn hm; exfalso; omega
    | succ mm ih =>
      intro r n hr hn hm
      have hwb := sWrg_bd w (I (m + 6)) (r : Int) (F m 11 / 2).toNat
      have hwd : sWrg w (I (m + 6)) (F m 11) (r : Int) = pSum (fun k => if sTby w r (I (m + 6) (2 * k)) = I (m + 6) (2 * k + 1) then 0 else 1) (F m 11 / 2).toNat := rfl
      refine xg_iloadn 5 dX12_thatFit_4 rfl rfl rfl ?_
      refine xg_aloadn 6 dX12_thatFit_5 rfl rfl rfl ?_
      refine xg_callV 9 12 [] _ kv_X12_runs ⟨_, _, rfl⟩ kl_RX12_66 dX12_thatFit_6 rfl (by assumption) (by omega) rfl rfl (Nat.le_of_ble_eq_true rfl) (by omega) ⟨Nat.le_refl _, Nat.le_refl _⟩ (ct_X12_runs hw) rfl ?_
      refine xg_icge 37 12 dX12_thatFit_9 rfl rfl (by first | omega | exact hR _ | exact ⟨hR _, by omega⟩ | exact ⟨by omega, hR _⟩ | exact ⟨hR _, hR _⟩) (fun hb9 => ?_) (fun hb9 => ?_)
      · skip
        refine xg_iloadn 38 dX12_thatFit_37 rfl rfl rfl ?_
        subst hX
        exact xg_ireturn dX12_thatFit_38 rfl ⟨Nat.le_refl _, Nat.le_refl _⟩ ⟨by rw [hn, show r = wN w by omega]; rfl, rfl⟩
      · skip
        refine xg_iloadn 13 dX12_thatFit_12 rfl rfl rfl ?_
        refine xg_aloadn 14 dX12_thatFit_13 rfl rfl rfl ?_
        refine xg_iloadn 15 dX12_thatFit_14 rfl rfl rfl ?_
        refine xg_callV 18 12 [_] _ kv_X12_wrongRows ⟨_, _, rfl⟩ kl_RX12_416 dX12_thatFit_15 rfl (by assumption) (by omega) rfl rfl (Nat.le_of_ble_eq_true rfl) (by omega) ⟨Nat.le_refl _, Nat.le_refl _⟩ (ct_X12_wrongRows hw hO hT hE hV (by omega)) rfl ?_
        refine xg_iloadn 19 dX12_thatFit_18 rfl rfl rfl ?_
        refine xg_icgt 28 22 dX12_thatFit_19 rfl rfl (by first | omega | exact hR _ | exact ⟨hR _, by omega⟩ | exact ⟨by omega, hR _⟩ | exact ⟨hR _, hR _⟩) (fun hb19 => ?_) (fun hb19 => ?_)
        · skip
          refine xg_iconst 29 dX12_thatFit_28 rfl ?_
          refine xg_ior 30 dX12_thatFit_29 rfl ?_
          refine xg_istoren 31 _ dX12_thatFit_30 rfl rfl rfl (by decide) (Or.inr rfl) ?_
          refine xg_iinc 34 _ dX12_thatFit_31 rfl rfl rfl rfl (by decide) (Or.inr rfl) ?_
          refine xg_goto 4 dX12_thatFit_34 rfl ?_
          exact xg_weak _ (xle_s rfl (xle_s rfl (xle_s rfl (xle_s rfl xle_0)))) (ih (r + 1) _ (by omega) (by rw [hn]; exact nSet_f (decide_eq_false (by omega)) (by omega)) (by omega))
        · skip
          refine xg_iconst 23 dX12_thatFit_22 rfl ?_
          refine xg_iloadn 24 dX12_thatFit_23 rfl rfl rfl ?_
          refine xg_ishl 25 dX12_thatFit_24 rfl ?_
          refine xg_goto 29 dX12_thatFit_25 rfl ?_
          refine xg_ior 30 dX12_thatFit_29 rfl ?_
          refine xg_istoren 31 _ dX12_thatFit_30 rfl rfl rfl (by decide) (Or.inr rfl) ?_
          refine xg_iinc 34 _ dX12_thatFit_31 rfl rfl rfl rfl (by decide) (Or.inr rfl) ?_
          refine xg_goto 4 dX12_thatFit_34 rfl ?_
          exact xg_weak _ (xle_s rfl (xle_s rfl (xle_s rfl (xle_s rfl xle_0)))) (ih (r + 1) _ (by omega) (by rw [hn]; exact nSet_t (decide_eq_true hb19) (by omega)) (by omega))
  exact xg_weak _ (xle_s rfl (xle_s rfl (xle_s rfl (xle_s rfl xle_0)))) (loop4 20 0 0 (by omega) rfl (by omega))

