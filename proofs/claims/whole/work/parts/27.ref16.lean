theorem dX12_ticks_0 : decode cX12_ticks 0 = .ok (.aload_n 0, 1) := by decide +kernel
theorem dX12_ticks_1 : decode cX12_ticks 1 = .ok (.iconst 0, 1) := by decide +kernel
theorem dX12_ticks_2 : decode cX12_ticks 2 = .ok (.putfield 3, 3) := by decide +kernel
theorem dX12_ticks_5 : decode cX12_ticks 5 = .ok (.aload_n 0, 1) := by decide +kernel
theorem dX12_ticks_6 : decode cX12_ticks 6 = .ok (.iload_n 1, 1) := by decide +kernel
theorem dX12_ticks_7 : decode cX12_ticks 7 = .ok (.iconst 1, 1) := by decide +kernel
theorem dX12_ticks_8 : decode cX12_ticks 8 = .ok (.bipush 60, 2) := by decide +kernel
theorem dX12_ticks_10 : decode cX12_ticks 10 = .ok (.invokestatic 70, 3) := by decide +kernel
theorem dX12_ticks_13 : decode cX12_ticks 13 = .ok (.ifCond .ne 7, 3) := by decide +kernel
theorem dX12_ticks_16 : decode cX12_ticks 16 = .ok (.iconst 1, 1) := by decide +kernel
theorem dX12_ticks_17 : decode cX12_ticks 17 = .ok (.goto 4, 3) := by decide +kernel
theorem dX12_ticks_20 : decode cX12_ticks 20 = .ok (.iconst 0, 1) := by decide +kernel
theorem dX12_ticks_21 : decode cX12_ticks 21 = .ok (.iconst 1, 1) := by decide +kernel
theorem dX12_ticks_22 : decode cX12_ticks 22 = .ok (.invokevirtual 251, 3) := by decide +kernel
theorem dX12_ticks_25 : decode cX12_ticks 25 = .ok (.ifCond .eq 5, 3) := by decide +kernel
theorem dX12_ticks_28 : decode cX12_ticks 28 = .ok (.iconst 0, 1) := by decide +kernel
theorem dX12_ticks_29 : decode cX12_ticks 29 = .ok (.ireturn, 1) := by decide +kernel
theorem dX12_ticks_30 : decode cX12_ticks 30 = .ok (.aload_n 0, 1) := by decide +kernel
theorem dX12_ticks_31 : decode cX12_ticks 31 = .ok (.invokevirtual 382, 3) := by decide +kernel
theorem dX12_ticks_34 : decode cX12_ticks 34 = .ok (.aload_n 0, 1) := by decide +kernel
theorem dX12_ticks_35 : decode cX12_ticks 35 = .ok (.iload_n 1, 1) := by decide +kernel
theorem dX12_ticks_36 : decode cX12_ticks 36 = .ok (.invokevirtual 385, 3) := by decide +kernel
theorem dX12_ticks_39 : decode cX12_ticks 39 = .ok (.ireturn, 1) := by decide +kernel
set_option maxHeartbeats 4000000 in
set_option maxRecDepth 100000 in
theorem ct_X12_ticks_t1 {E : xE} {z : Nat} {T : Nat → Nat × Int} {F : Nat → Nat → Int} {I : Nat → Int → Int} {P : Nat → Nat → Option Nat} {Y : Nat → Int → Option Nat} {m : Nat} {w : Int → Int} (hw : wM T P m) (hO : wOk w){v : Int} (hv : -2147483648 ≤ v ∧ v < 2147483648) (hb : ¬ (1 ≤ v ∧ v ≤ 60)) : Ct E 1 mX12_ticks 0 0 [.ref m, J v] (z, T, F, upA I (m + 1) w, P, Y) (xd (some (J 0)) (z, T, upF F m 0 1, upA I (m + 1) (w), P, Y)) := by
  obtain ⟨⟨q0, q1, q2, q3⟩, -⟩ := id hw
  obtain ⟨hR, o0, o1, o2, o3, o4, o5, o6, oc, o13, o14, o16, o17, o18, ov⟩ := id hO
  have hN := wN_i o0.1
  refine Ct.of [some (.ref m), some (J v)] kt_X12_ticks rfl (Nat.le_of_ble_eq_true rfl) rfl (fun d hd => ?_)
  generalize hX : xN E _ _ _ = X
  refine xg_aloadn 1 dX12_ticks_0 rfl rfl rfl ?_
  refine xg_iconst 2 dX12_ticks_1 rfl ?_
  refine xg_putI 5 kf_RX12_3 dX12_ticks_2 rfl (by assumption) ?_
  refine xg_aloadn 6 dX12_ticks_5 rfl rfl rfl ?_
  refine xg_iloadn 7 dX12_ticks_6 rfl rfl rfl ?_
  refine xg_iconst 8 dX12_ticks_7 rfl ?_
  refine xg_bipush 10 dX12_ticks_8 rfl (by decide) ?_
  refine xg_callS 13 [_, _, _] _ ks_X12_in kl_RX12_70 dX12_ticks_10 rfl rfl rfl (Nat.le_of_ble_eq_true rfl) (by omega) ⟨Nat.le_refl _, Nat.le_refl _⟩ (ct_X12_in (by omega)) rfl ?_
  refine xg_dne 20 16 dX12_ticks_13 rfl rfl (fun hb13 => ?_) (fun hb13 => ?_)
  · first
    | (exfalso; omega)
    | skip
      refine xg_iconst 21 dX12_ticks_20 rfl ?_
      refine xg_iconst 22 dX12_ticks_21 rfl ?_
      refine xg_callV 25 12 [_, _] _ kv_X12_throwsIf ⟨_, _, rfl⟩ kl_RX12_251 dX12_ticks_22 rfl (by assumption) (by omega) rfl rfl (Nat.le_of_ble_eq_true rfl) (by omega) ⟨Nat.le_refl _, Nat.le_refl _⟩ (ct_throwsF hw) rfl ?_
      refine xg_ifeq 30 28 dX12_ticks_25 rfl rfl (by first | omega | exact hR _ | exact ⟨hR _, by omega⟩ | exact ⟨by omega, hR _⟩ | exact ⟨hR _, hR _⟩) (fun hb25 => ?_) (fun hb25 => ?_)
      · skip
        exfalso; omega
      · exfalso; omega
  · first
    | (exfalso; omega)
    | skip
      refine xg_iconst 17 dX12_ticks_16 rfl ?_
      refine xg_goto 21 dX12_ticks_17 rfl ?_
      refine xg_iconst 22 dX12_ticks_21 rfl ?_
      refine xg_callV 25 12 [_, _] _ kv_X12_throwsIf ⟨_, _, rfl⟩ kl_RX12_251 dX12_ticks_22 rfl (by assumption) (by omega) rfl rfl (Nat.le_of_ble_eq_true rfl) (by omega) ⟨Nat.le_refl _, Nat.le_refl _⟩ (ct_throwsT hw) rfl ?_
      refine xg_ifeq 30 28 dX12_ticks_25 rfl rfl (by first | omega | exact hR _ | exact ⟨hR _, by omega⟩ | exact ⟨by omega, hR _⟩ | exact ⟨hR _, hR _⟩) (fun hb25 => ?_) (fun hb25 => ?_)
      · exfalso; omega
      · skip
        refine xg_iconst 29 dX12_ticks_28 rfl ?_
        subst hX
        exact xg_ireturn dX12_ticks_29 rfl ⟨Nat.le_refl _, Nat.le_refl _⟩ ⟨rfl, by rw [upF_upF]⟩

set_option maxHeartbeats 4000000 in
set_option maxRecDepth 100000 in
theorem ct_X12_ticks {E : xE} {z : Nat} {T : Nat → Nat × Int} {F : Nat → Nat → Int} {I : Nat → Int → Int} {P : Nat → Nat → Option Nat} {Y : Nat → Int → Option Nat} {m : Nat} {w : Int → Int} (hw : wM T P m) (hO : wOk w) (hL : wLw w) (h7 : 0 ≤ F m 7 ∧ F m 7 ≤ 12) {n : Nat} (hn : 1 ≤ n ∧ n ≤ 60) (hS : sGoS w n) : Ct E 15 mX12_ticks 0 0 [.ref m, J (n : Int)] (z, T, F, upA I (m + 1) w, P, Y) (xs m (some (J (sGo n w).2)) z T (fRem (upF F m 0 0) m) (upA I (m + 5) (sActs (I (m + 5)) w (F m 7))) ((sGo n w).1) P Y) := by
  obtain ⟨⟨q0, q1, q2, q3⟩, -⟩ := id hw
  obtain ⟨hR, o0, o1, o2, o3, o4, o5, o6, oc, o13, o14, o16, o17, o18, ov⟩ := id hO
  have hN := wN_i o0.1
  refine Ct.of [some (.ref m), some (J (n : Int))] kt_X12_ticks rfl (Nat.le_of_ble_eq_true rfl) rfl (fun d hd => ?_)
  generalize hX : xN E _ _ _ = X
  refine xg_aloadn 1 dX12_ticks_0 rfl rfl rfl ?_
  refine xg_iconst 2 dX12_ticks_1 rfl ?_
  refine xg_putI 5 kf_RX12_3 dX12_ticks_2 rfl (by assumption) ?_
  refine xg_aloadn 6 dX12_ticks_5 rfl rfl rfl ?_
  refine xg_iloadn 7 dX12_ticks_6 rfl rfl rfl ?_
  refine xg_iconst 8 dX12_ticks_7 rfl ?_
  refine xg_bipush 10 dX12_ticks_8 rfl (by decide) ?_
  refine xg_callS 13 [_, _, _] _ ks_X12_in kl_RX12_70 dX12_ticks_10 rfl rfl rfl (Nat.le_of_ble_eq_true rfl) (by omega) ⟨Nat.le_refl _, Nat.le_refl _⟩ (ct_X12_in (by omega)) rfl ?_
  refine xg_dne 20 16 dX12_ticks_13 rfl rfl (fun hb13 => ?_) (fun hb13 => ?_)
  · first
    | (exfalso; omega)
    | skip
      refine xg_iconst 21 dX12_ticks_20 rfl ?_
      refine xg_iconst 22 dX12_ticks_21 rfl ?_
      refine xg_callV 25 12 [_, _] _ kv_X12_throwsIf ⟨_, _, rfl⟩ kl_RX12_251 dX12_ticks_22 rfl (by assumption) (by omega) rfl rfl (Nat.le_of_ble_eq_true rfl) (by omega) ⟨Nat.le_refl _, Nat.le_refl _⟩ (ct_throwsF hw) rfl ?_
      refine xg_ifeq 30 28 dX12_ticks_25 rfl rfl (by first | omega | exact hR _ | exact ⟨hR _, by omega⟩ | exact ⟨by omega, hR _⟩ | exact ⟨hR _, hR _⟩) (fun hb25 => ?_) (fun hb25 => ?_)
      · skip
        refine xg_aloadn 31 dX12_ticks_30 rfl rfl rfl ?_
        refine xg_callV 34 12 [] _ kv_X12_remembers ⟨_, _, rfl⟩ kl_RX12_382 dX12_ticks_31 rfl (by assumption) (by omega) rfl rfl (Nat.le_of_ble_eq_true rfl) (by omega) ⟨Nat.le_refl _, Nat.le_refl _⟩ (ct_X12_remembers hw (by rw [upF_nk _ _ _ _ (show (7 : Nat) ≠ 0 by decide)]; exact h7)) rfl ?_
        rw [upF_nk _ _ _ _ (show (7 : Nat) ≠ 0 by decide)]
        refine xg_aloadn 35 dX12_ticks_34 rfl rfl rfl ?_
        refine xg_iloadn 36 dX12_ticks_35 rfl rfl rfl ?_
        refine xg_callVs 39 12 [_] _ kv_X12_goesOn ⟨_, _, rfl⟩ kl_RX12_385 dX12_ticks_36 rfl (by assumption) (by omega) rfl rfl (Nat.le_of_ble_eq_true rfl) (by omega) ⟨Nat.le_refl _, Nat.le_refl _⟩ (ct_X12_goesOn hw hO hL hn.2 hS) rfl (fun Ib hIb => ?_)
        subst hX
        exact xg_ireturn dX12_ticks_39 rfl ⟨Nat.le_refl _, Nat.le_refl _⟩ ⟨rfl, Ib, hIb, rfl⟩
      · exfalso; omega
  · first
    | (exfalso; omega)
    | skip
      refine xg_iconst 17 dX12_ticks_16 rfl ?_
      refine xg_goto 21 dX12_ticks_17 rfl ?_
      refine xg_iconst 22 dX12_ticks_21 rfl ?_
      refine xg_callV 25 12 [_, _] _ kv_X12_throwsIf ⟨_, _, rfl⟩ kl_RX12_251 dX12_ticks_22 rfl (by assumption) (by omega) rfl rfl (Nat.le_of_ble_eq_true rfl) (by omega) ⟨Nat.le_refl _, Nat.le_refl _⟩ (ct_throwsT hw) rfl ?_
      refine xg_ifeq 30 28 dX12_ticks_25 rfl rfl (by first | omega | exact hR _ | exact ⟨hR _, by omega⟩ | exact ⟨by omega, hR _⟩ | exact ⟨hR _, hR _⟩) (fun hb25 => ?_) (fun hb25 => ?_)
      · exfalso; omega
      · skip
        exfalso; omega

theorem dX12_put_0 : decode cX12_put 0 = .ok (.aload_n 0, 1) := by decide +kernel
theorem dX12_put_1 : decode cX12_put 1 = .ok (.iconst 0, 1) := by decide +kernel
theorem dX12_put_2 : decode cX12_put 2 = .ok (.putfield 3, 3) := by decide +kernel
theorem dX12_put_5 : decode cX12_put 5 = .ok (.aload_n 0, 1) := by decide +kernel
theorem dX12_put_6 : decode cX12_put 6 = .ok (.iload_n 1, 1) := by decide +kernel
theorem dX12_put_7 : decode cX12_put 7 = .ok (.invokestatic 388, 3) := by decide +kernel
theorem dX12_put_10 : decode cX12_put 10 = .ok (.iconst 1, 1) := by decide +kernel
theorem dX12_put_11 : decode cX12_put 11 = .ok (.invokevirtual 251, 3) := by decide +kernel
theorem dX12_put_14 : decode cX12_put 14 = .ok (.ifCond .ne 26, 3) := by decide +kernel
theorem dX12_put_17 : decode cX12_put 17 = .ok (.aload_n 0, 1) := by decide +kernel
theorem dX12_put_18 : decode cX12_put 18 = .ok (.iload_n 2, 1) := by decide +kernel
theorem dX12_put_19 : decode cX12_put 19 = .ok (.iconst 0, 1) := by decide +kernel
theorem dX12_put_20 : decode cX12_put 20 = .ok (.bipush 99, 2) := by decide +kernel
theorem dX12_put_22 : decode cX12_put 22 = .ok (.invokestatic 70, 3) := by decide +kernel
theorem dX12_put_25 : decode cX12_put 25 = .ok (.ifCond .ne 7, 3) := by decide +kernel
theorem dX12_put_28 : decode cX12_put 28 = .ok (.iconst 1, 1) := by decide +kernel
theorem dX12_put_29 : decode cX12_put 29 = .ok (.goto 4, 3) := by decide +kernel
theorem dX12_put_32 : decode cX12_put 32 = .ok (.iconst 0, 1) := by decide +kernel
theorem dX12_put_33 : decode cX12_put 33 = .ok (.iconst 2, 1) := by decide +kernel
theorem dX12_put_34 : decode cX12_put 34 = .ok (.invokevirtual 251, 3) := by decide +kernel
theorem dX12_put_37 : decode cX12_put 37 = .ok (.ifCond .eq 5, 3) := by decide +kernel
theorem dX12_put_40 : decode cX12_put 40 = .ok (.iconst 0, 1) := by decide +kernel
theorem dX12_put_41 : decode cX12_put 41 = .ok (.ireturn, 1) := by decide +kernel
theorem dX12_put_42 : decode cX12_put 42 = .ok (.aload_n 0, 1) := by decide +kernel
theorem dX12_put_43 : decode cX12_put 43 = .ok (.invokevirtual 382, 3) := by decide +kernel
theorem dX12_put_46 : decode cX12_put 46 = .ok (.aload_n 0, 1) := by decide +kernel
theorem dX12_put_47 : decode cX12_put 47 = .ok (.iload_n 1, 1) := by decide +kernel
theorem dX12_put_48 : decode cX12_put 48 = .ok (.iload_n 2, 1) := by decide +kernel
theorem dX12_put_49 : decode cX12_put 49 = .ok (.invokevirtual 140, 3) := by decide +kernel
theorem dX12_put_52 : decode cX12_put 52 = .ok (.ireturn, 1) := by decide +kernel
set_option maxHeartbeats 4000000 in
set_option maxRecDepth 100000 in
theorem ct_X12_put_t1 {E : xE} {z : Nat} {T : Nat → Nat × Int} {F : Nat → Nat → Int} {I : Nat → Int → Int} {P : Nat → Nat → Option Nat} {Y : Nat → Int → Option Nat} {m : Nat} {w : Int → Int} (hw : wM T P m) (hO : wOk w){v x : Int} (hv : -2147483648 ≤ v ∧ v < 2147483648) (hx : -2147483648 ≤ x ∧ x < 2147483648) (hb : ¬ (0 ≤ v ∧ v < 60)) : Ct E 2 mX12_put 0 0 [.ref m, J v, J x] (z, T, F, upA I (m + 1) w, P, Y) (xd (some (J 0)) (z, T, upF F m 0 1, upA I (m + 1) (w), P, Y)) := by
  obtain ⟨⟨q0, q1, q2, q3⟩, -⟩ := id hw
  obtain ⟨hR, o0, o1, o2, o3, o4, o5, o6, oc, o13, o14, o16, o17, o18, ov⟩ := id hO
  have hN := wN_i o0.1
  refine Ct.of [some (.ref m), some (J v), some (J x)] kt_X12_put rfl (Nat.le_of_ble_eq_true rfl) rfl (fun d hd => ?_)
  generalize hX : xN E _ _ _ = X
  refine xg_aloadn 1 dX12_put_0 rfl rfl rfl ?_
  refine xg_iconst 2 dX12_put_1 rfl ?_
  refine xg_putI 5 kf_RX12_3 dX12_put_2 rfl (by assumption) ?_
  refine xg_aloadn 6 dX12_put_5 rfl rfl rfl ?_
  refine xg_iloadn 7 dX12_put_6 rfl rfl rfl ?_
  refine xg_callS 10 [_] _ ks_X12_noKey kl_RX12_388 dX12_put_7 rfl rfl rfl (Nat.le_of_ble_eq_true rfl) (by omega) ⟨Nat.le_refl _, Nat.le_refl _⟩ (ct_X12_noKey (by omega)) rfl ?_
  refine xg_iconst 11 dX12_put_10 rfl ?_
  refine xg_dsplit (fun hb11 => ?_) (fun hb11 => ?_)
  · first
    | (exfalso; omega)
    | skip
      refine xg_callV 14 12 [_, _] _ kv_X12_throwsIf ⟨_, _, rfl⟩ kl_RX12_251 dX12_put_11 rfl (by assumption) (by omega) rfl rfl (Nat.le_of_ble_eq_true rfl) (by omega) ⟨Nat.le_refl _, Nat.le_refl _⟩ (ct_throwsT hw) rfl ?_
      refine xg_ifne 40 17 dX12_put_14 rfl rfl (by first | omega | exact hR _ | exact ⟨hR _, by omega⟩ | exact ⟨by omega, hR _⟩ | exact ⟨hR _, hR _⟩) (fun hb14 => ?_) (fun hb14 => ?_)
      · skip
        refine xg_iconst 41 dX12_put_40 rfl ?_
        subst hX
        exact xg_ireturn dX12_put_41 rfl ⟨Nat.le_refl _, Nat.le_refl _⟩ ⟨rfl, by rw [upF_upF]⟩
      · exfalso; omega
  · first
    | (exfalso; omega)
    | skip
      refine xg_callV 14 12 [_, _] _ kv_X12_throwsIf ⟨_, _, rfl⟩ kl_RX12_251 dX12_put_11 rfl (by assumption) (by omega) rfl rfl (Nat.le_of_ble_eq_true rfl) (by omega) ⟨Nat.le_refl _, Nat.le_refl _⟩ (ct_throwsF hw) rfl ?_
      refine xg_ifne 40 17 dX12_put_14 rfl rfl (by first | omega | exact hR _ | exact ⟨hR _, by omega⟩ | exact ⟨by omega, hR _⟩ | exact ⟨hR _, hR _⟩) (fun hb14 => ?_) (fun hb14 => ?_)
      · exfalso; omega
      · skip
        refine xg_aloadn 18 dX12_put_17 rfl rfl rfl ?_
        refine xg_iloadn 19 dX12_put_18 rfl rfl rfl ?_
        refine xg_iconst 20 dX12_put_19 rfl ?_
        refine xg_bipush 22 dX12_put_20 rfl (by decide) ?_
        refine xg_callS 25 [_, _, _] _ ks_X12_in kl_RX12_70 dX12_put_22 rfl rfl rfl (Nat.le_of_ble_eq_true rfl) (by omega) ⟨Nat.le_refl _, Nat.le_refl _⟩ (ct_X12_in (by omega)) rfl ?_
        refine xg_dne 32 28 dX12_put_25 rfl rfl (fun hb25 => ?_) (fun hb25 => ?_)
        · first
          | (exfalso; omega)
          | skip
            refine xg_iconst 33 dX12_put_32 rfl ?_
            refine xg_iconst 34 dX12_put_33 rfl ?_
            refine xg_callV 37 12 [_, _] _ kv_X12_throwsIf ⟨_, _, rfl⟩ kl_RX12_251 dX12_put_34 rfl (by assumption) (by omega) rfl rfl (Nat.le_of_ble_eq_true rfl) (by omega) ⟨Nat.le_refl _, Nat.le_refl _⟩ (ct_throwsF hw) rfl ?_
            refine xg_ifeq 42 40 dX12_put_37 rfl rfl (by first | omega | exact hR _ | exact ⟨hR _, by omega⟩ | exact ⟨by omega, hR _⟩ | exact ⟨hR _, hR _⟩) (fun hb37 => ?_) (fun hb37 => ?_)
            · skip
              exfalso; omega
            · exfalso; omega
        · first
          | (exfalso; omega)
          | skip
            refine xg_iconst 29 dX12_put_28 rfl ?_
            refine xg_goto 33 dX12_put_29 rfl ?_
            refine xg_iconst 34 dX12_put_33 rfl ?_
            refine xg_callV 37 12 [_, _] _ kv_X12_throwsIf ⟨_, _, rfl⟩ kl_RX12_251 dX12_put_34 rfl (by assumption) (by omega) rfl rfl (Nat.le_of_ble_eq_true rfl) (by omega) ⟨Nat.le_refl _, Nat.le_refl _⟩ (ct_throwsT hw) rfl ?_
            refine xg_ifeq 42 40 dX12_put_37 rfl rfl (by first | omega | exact hR _ | exact ⟨hR _, by omega⟩ | exact ⟨by omega, hR _⟩ | exact ⟨hR _, hR _⟩) (fun hb37 => ?_) (fun hb37 => ?_)
            · exfalso; omega
            · skip
              refine xg_iconst 41 dX12_put_40 rfl ?_
              subst hX
              exact xg_ireturn dX12_put_41 rfl ⟨Nat.le_refl _, Nat.le_refl _⟩ ⟨rfl, by rw [upF_upF]⟩

set_option maxHeartbeats 4000000 in
set_option maxRecDepth 100000 in
theorem ct_X12_put_t2 {E : xE} {z : Nat} {T : Nat → Nat × Int} {F : Nat → Nat → Int} {I : Nat → Int → Int} {P : Nat → Nat → Option Nat} {Y : Nat → Int → Option Nat} {m : Nat} {w : Int → Int} (hw : wM T P m) (hO : wOk w){v x : Int} (hv : -2147483648 ≤ v ∧ v < 2147483648) (hx : -2147483648 ≤ x ∧ x < 2147483648) (hb : (0 ≤ v ∧ v < 60) ∧ ¬ (0 ≤ x ∧ x ≤ 99)) : Ct E 2 mX12_put 0 0 [.ref m, J v, J x] (z, T, F, upA I (m + 1) w, P, Y) (xd (some (J 0)) (z, T, upF F m 0 2, upA I (m + 1) (w), P, Y)) := by
  obtain ⟨⟨q0, q1, q2, q3⟩, -⟩ := id hw
  obtain ⟨hR, o0, o1, o2, o3, o4, o5, o6, oc, o13, o14, o16, o17, o18, ov⟩ := id hO
  have hN := wN_i o0.1
  refine Ct.of [some (.ref m), some (J v), some (J x)] kt_X12_put rfl (Nat.le_of_ble_eq_true rfl) rfl (fun d hd => ?_)
  generalize hX : xN E _ _ _ = X
  refine xg_aloadn 1 dX12_put_0 rfl rfl rfl ?_
  refine xg_iconst 2 dX12_put_1 rfl ?_
  refine xg_putI 5 kf_RX12_3 dX12_put_2 rfl (by assumption) ?_
  refine xg_aloadn 6 dX12_put_5 rfl rfl rfl ?_
  refine xg_iloadn 7 dX12_put_6 rfl rfl rfl ?_
  refine xg_callS 10 [_] _ ks_X12_noKey kl_RX12_388 dX12_put_7 rfl rfl rfl (Nat.le_of_ble_eq_true rfl) (by omega) ⟨Nat.le_refl _, Nat.le_refl _⟩ (ct_X12_noKey (by omega)) rfl ?_
  refine xg_iconst 11 dX12_put_10 rfl ?_
  refine xg_dsplit (fun hb11 => ?_) (fun hb11 => ?_)
  · first
    | (exfalso; omega)
    | skip
      refine xg_callV 14 12 [_, _] _ kv_X12_throwsIf ⟨_, _, rfl⟩ kl_RX12_251 dX12_put_11 rfl (by assumption) (by omega) rfl rfl (Nat.le_of_ble_eq_true rfl) (by omega) ⟨Nat.le_refl _, Nat.le_refl _⟩ (ct_throwsT hw) rfl ?_
      refine xg_ifne 40 17 dX12_put_14 rfl rfl (by first | omega | exact hR _ | exact ⟨hR _, by omega⟩ | exact ⟨by omega, hR _⟩ | exact ⟨hR _, hR _⟩) (fun hb14 => ?_) (fun hb14 => ?_)
      · skip
        refine xg_iconst 41 dX12_put_40 rfl ?_
        subst hX
        exact xg_ireturn dX12_put_41 rfl ⟨Nat.le_refl _, Nat.le_refl _⟩ ⟨rfl, by rw [upF_upF]⟩
      · exfalso; omega
  · first
    | (exfalso; omega)
    | skip
      refine xg_callV 14 12 [_, _] _ kv_X12_throwsIf ⟨_, _, rfl⟩ kl_RX12_251 dX12_put_11 rfl (by assumption) (by omega) rfl rfl (Nat.le_of_ble_eq_true rfl) (by omega) ⟨Nat.le_refl _, Nat.le_refl _⟩ (ct_throwsF hw) rfl ?_
      refine xg_ifne 40 17 dX12_put_14 rfl rfl (by first | omega | exact hR _ | exact ⟨hR _, by omega⟩ | exact ⟨by omega, hR _⟩ | exact ⟨hR _, hR _⟩) (fun hb14 => ?_) (fun hb14 => ?_)
      · exfalso; omega
      · skip
        refine xg_aloadn 18 dX12_put_17 rfl rfl rfl ?_
        refine xg_iloadn 19 dX12_put_18 rfl rfl rfl ?_
        refine xg_iconst 20 dX12_put_19 rfl ?_
        refine xg_bipush 22 dX12_put_20 rfl (by decide) ?_
        refine xg_callS 25 [_, _, _] _ ks_X12_in kl_RX12_70 dX12_put_22 rfl rfl rfl (Nat.le_of_ble_eq_true rfl) (by omega) ⟨Nat.le_refl _, Nat.le_refl _⟩ (ct_X12_in (by omega)) rfl ?_
        refine xg_dne 32 28 dX12_put_25 rfl rfl (fun hb25 => ?_) (fun hb25 => ?_)
        · first
          | (exfalso; omega)
          | skip
            refine xg_iconst 33 dX12_put_32 rfl ?_
            refine xg_iconst 34 dX12_put_33 rfl ?_
            refine xg_callV 37 12 [_, _] _ kv_X12_throwsIf ⟨_, _, rfl⟩ kl_RX12_251 dX12_put_34 rfl (by assumption) (by omega) rfl rfl (Nat.le_of_ble_eq_true rfl) (by omega) ⟨Nat.le_refl _, Nat.le_refl _⟩ (ct_throwsF hw) rfl ?_
            refine xg_ifeq 42 40 dX12_put_37 rfl rfl (by first | omega | exact hR _ | exact ⟨hR _, by omega⟩ | exact ⟨by omega, hR _⟩ | exact ⟨hR _, hR _⟩) (fun hb37 => ?_) (fun hb37 => ?_)
            · skip
              exfalso; omega
            · exfalso; omega
        · first
          | (exfalso; omega)
          | skip
            refine xg_iconst 29 dX12_put_28 rfl ?_
            refine xg_goto 33 dX12_put_29 rfl ?_
            refine xg_iconst 34 dX12_put_33 rfl ?_
            refine xg_callV 37 12 [_, _] _ kv_X12_throwsIf ⟨_, _, rfl⟩ kl_RX12_251 dX12_put_34 rfl (by assumption) (by omega) rfl rfl (Nat.le_of_ble_eq_true rfl) (by omega) ⟨Nat.le_refl _, Nat.le_refl _⟩ (ct_throwsT hw) rfl ?_
            refine xg_ifeq 42 40 dX12_put_37 rfl rfl (by first | omega | exact hR _ | exact ⟨hR _, by omega⟩ | exact ⟨by omega, hR _⟩ | exact ⟨hR _, hR _⟩) (fun hb37 => ?_) (fun hb37 => ?_)
            · exfalso; omega
            · skip
              refine xg_iconst 41 dX12_put_40 rfl ?_
              subst hX
              exact xg_ireturn dX12_put_41 rfl ⟨Nat.le_refl _, Nat.le_refl _⟩ ⟨rfl, by rw [upF_upF]⟩

set_option maxHeartbeats 4000000 in
set_option maxRecDepth 100000 in
theorem ct_X12_put {E : xE} {z : Nat} {T : Nat → Nat × Int} {F : Nat → Nat → Int} {I : Nat → Int → Int} {P : Nat → Nat → Option Nat} {Y : Nat → Int → Option Nat} {m : Nat} {w : Int → Int} (hw : wM T P m) (hO : wOk w) (hL : wLw w) (h7 : 0 ≤ F m 7 ∧ F m 7 ≤ 12) {key v : Int} (hk : 0 ≤ key ∧ key < 60) (hv : 0 ≤ v ∧ v ≤ 99) (hS : sStop sFu (sW1 w key v) 0) : Ct E 13 mX12_put 0 0 [.ref m, J key, J v] (z, T, F, upA I (m + 1) w, P, Y) (xs m (some (J (sWriteN w key v))) z T (fRem (upF F m 0 0) m) (upA I (m + 5) (sActs (I (m + 5)) w (F m 7))) (sWrite w key v) P Y) := by
  obtain ⟨⟨q0, q1, q2, q3⟩, -⟩ := id hw
  obtain ⟨hR, o0, o1, o2, o3, o4, o5, o6, oc, o13, o14, o16, o17, o18, ov⟩ := id hO
  have hN := wN_i o0.1
  refine Ct.of [some (.ref m), some (J key), some (J v)] kt_X12_put rfl (Nat.le_of_ble_eq_true rfl) rfl (fun d hd => ?_)
  generalize hX : xN E _ _ _ = X
  refine xg_aloadn 1 dX12_put_0 rfl rfl rfl ?_
  refine xg_iconst 2 dX12_put_1 rfl ?_
  refine xg_putI 5 kf_RX12_3 dX12_put_2 rfl (by assumption) ?_
  refine xg_aloadn 6 dX12_put_5 rfl rfl rfl ?_
  refine xg_iloadn 7 dX12_put_6 rfl rfl rfl ?_
  refine xg_callS 10 [_] _ ks_X12_noKey kl_RX12_388 dX12_put_7 rfl rfl rfl (Nat.le_of_ble_eq_true rfl) (by omega) ⟨Nat.le_refl _, Nat.le_refl _⟩ (ct_X12_noKey (by omega)) rfl ?_
  refine xg_iconst 11 dX12_put_10 rfl ?_
  refine xg_dsplit (fun hb11 => ?_) (fun hb11 => ?_)
  · first
    | (exfalso; omega)
    | skip
      refine xg_callV 14 12 [_, _] _ kv_X12_throwsIf ⟨_, _, rfl⟩ kl_RX12_251 dX12_put_11 rfl (by assumption) (by omega) rfl rfl (Nat.le_of_ble_eq_true rfl) (by omega) ⟨Nat.le_refl _, Nat.le_refl _⟩ (ct_throwsT hw) rfl ?_
      refine xg_ifne 40 17 dX12_put_14 rfl rfl (by first | omega | exact hR _ | exact ⟨hR _, by omega⟩ | exact ⟨by omega, hR _⟩ | exact ⟨hR _, hR _⟩) (fun hb14 => ?_) (fun hb14 => ?_)
      · skip
        exfalso; omega
      · exfalso; omega
  · first
    | (exfalso; omega)
    | skip
      refine xg_callV 14 12 [_, _] _ kv_X12_throwsIf ⟨_, _, rfl⟩ kl_RX12_251 dX12_put_11 rfl (by assumption) (by omega) rfl rfl (Nat.le_of_ble_eq_true rfl) (by omega) ⟨Nat.le_refl _, Nat.le_refl _⟩ (ct_throwsF hw) rfl ?_
      refine xg_ifne 40 17 dX12_put_14 rfl rfl (by first | omega | exact hR _ | exact ⟨hR _, by omega⟩ | exact ⟨by omega, hR _⟩ | exact ⟨hR _, hR _⟩) (fun hb14 => ?_) (fun hb14 => ?_)
      · exfalso; omega
      · skip
        refine xg_aloadn 18 dX12_put_17 rfl rfl rfl ?_
        refine xg_iloadn 19 dX12_put_18 rfl rfl rfl ?_
        refine xg_iconst 20 dX12_put_19 rfl ?_
        refine xg_bipush 22 dX12_put_20 rfl (by decide) ?_
        refine xg_callS 25 [_, _, _] _ ks_X12_in kl_RX12_70 dX12_put_22 rfl rfl rfl (Nat.le_of_ble_eq_true rfl) (by omega) ⟨Nat.le_refl _, Nat.le_refl _⟩ (ct_X12_in (by omega)) rfl ?_
        refine xg_dne 32 28 dX12_put_25 rfl rfl (fun hb25 => ?_) (fun hb25 => ?_)
        · first
          | (exfalso; omega)
          | skip
            refine xg_iconst 33 dX12_put_32 rfl ?_
            refine xg_iconst 34 dX12_put_33 rfl ?_
            refine xg_callV 37 12 [_, _] _ kv_X12_throwsIf ⟨_, _, rfl⟩ kl_RX12_251 dX12_put_34 rfl (by assumption) (by omega) rfl rfl (Nat.le_of_ble_eq_true rfl) (by omega) ⟨Nat.le_refl _, Nat.le_refl _⟩ (ct_throwsF hw) rfl ?_
            refine xg_ifeq 42 40 dX12_put_37 rfl rfl (by first | omega | exact hR _ | exact ⟨hR _, by omega⟩ | exact ⟨by omega, hR _⟩ | exact ⟨hR _, hR _⟩) (fun hb37 => ?_) (fun hb37 => ?_)
            · skip
              refine xg_aloadn 43 dX12_put_42 rfl rfl rfl ?_
              refine xg_callV 46 12 [] _ kv_X12_remembers ⟨_, _, rfl⟩ kl_RX12_382 dX12_put_43 rfl (by assumption) (by omega) rfl rfl (Nat.le_of_ble_eq_true rfl) (by omega) ⟨Nat.le_refl _, Nat.le_refl _⟩ (ct_X12_remembers hw (by rw [upF_nk _ _ _ _ (show (7 : Nat) ≠ 0 by decide)]; exact h7)) rfl ?_
              rw [upF_nk _ _ _ _ (show (7 : Nat) ≠ 0 by decide)]
              refine xg_aloadn 47 dX12_put_46 rfl rfl rfl ?_
              refine xg_iloadn 48 dX12_put_47 rfl rfl rfl ?_
              refine xg_iloadn 49 dX12_put_48 rfl rfl rfl ?_
              refine xg_callVs 52 12 [_, _] _ kv_X12_isWritten ⟨_, _, rfl⟩ kl_RX12_140 dX12_put_49 rfl (by assumption) (by omega) rfl rfl (Nat.le_of_ble_eq_true rfl) (by omega) ⟨Nat.le_refl _, Nat.le_refl _⟩ (ct_X12_isWritten hw hO hL hk (by omega) hS) rfl (fun Ib hIb => ?_)
              subst hX
              exact xg_ireturn dX12_put_52 rfl ⟨Nat.le_refl _, Nat.le_refl _⟩ ⟨rfl, Ib, hIb, rfl⟩
            · exfalso; omega
        · first
          | (exfalso; omega)
          | skip
            refine xg_iconst 29 dX12_put_28 rfl ?_
            refine xg_goto 33 dX12_put_29 rfl ?_
            refine xg_iconst 34 dX12_put_33 rfl ?_
            refine xg_callV 37 12 [_, _] _ kv_X12_throwsIf ⟨_, _, rfl⟩ kl_RX12_251 dX12_put_34 rfl (by assumption) (by omega) rfl rfl (Nat.le_of_ble_eq_true rfl) (by omega) ⟨Nat.le_refl _, Nat.le_refl _⟩ (ct_throwsT hw) rfl ?_
            refine xg_ifeq 42 40 dX12_put_37 rfl rfl (by first | omega | exact hR _ | exact ⟨hR _, by omega⟩ | exact ⟨by omega, hR _⟩ | exact ⟨hR _, hR _⟩) (fun hb37 => ?_) (fun hb37 => ?_)
            · exfalso; omega
            · skip
              exfalso; omega

theorem dX12_remove_0 : decode cX12_remove 0 = .ok (.aload_n 0, 1) := by decide +kernel
theorem dX12_remove_1 : decode cX12_remove 1 = .ok (.iconst 0, 1) := by decide +kernel
theorem dX12_remove_2 : decode cX12_remove 2 = .ok (.putfield 3, 3) := by decide +kernel
theorem dX12_remove_5 : decode cX12_remove 5 = .ok (.aload_n 0, 1) := by decide +kernel
theorem dX12_remove_6 : decode cX12_remove 6 = .ok (.iload_n 1, 1) := by decide +kernel
theorem dX12_remove_7 : decode cX12_remove 7 = .ok (.invokestatic 388, 3) := by decide +kernel
theorem dX12_remove_10 : decode cX12_remove 10 = .ok (.iconst 1, 1) := by decide +kernel
theorem dX12_remove_11 : decode cX12_remove 11 = .ok (.invokevirtual 251, 3) := by decide +kernel
theorem dX12_remove_14 : decode cX12_remove 14 = .ok (.ifCond .eq 5, 3) := by decide +kernel
theorem dX12_remove_17 : decode cX12_remove 17 = .ok (.iconst 0, 1) := by decide +kernel
theorem dX12_remove_18 : decode cX12_remove 18 = .ok (.ireturn, 1) := by decide +kernel
theorem dX12_remove_19 : decode cX12_remove 19 = .ok (.aload_n 0, 1) := by decide +kernel
theorem dX12_remove_20 : decode cX12_remove 20 = .ok (.invokevirtual 382, 3) := by decide +kernel
theorem dX12_remove_23 : decode cX12_remove 23 = .ok (.aload_n 0, 1) := by decide +kernel
theorem dX12_remove_24 : decode cX12_remove 24 = .ok (.iload_n 1, 1) := by decide +kernel
theorem dX12_remove_25 : decode cX12_remove 25 = .ok (.bipush 100, 2) := by decide +kernel
theorem dX12_remove_27 : decode cX12_remove 27 = .ok (.invokevirtual 140, 3) := by decide +kernel
theorem dX12_remove_30 : decode cX12_remove 30 = .ok (.ireturn, 1) := by decide +kernel
set_option maxHeartbeats 4000000 in
set_option maxRecDepth 100000 in
theorem ct_X12_remove_t1 {E : xE} {z : Nat} {T : Nat → Nat × Int} {F : Nat → Nat → Int} {I : Nat → Int → Int} {P : Nat → Nat → Option Nat} {Y : Nat → Int → Option Nat} {m : Nat} {w : Int → Int} (hw : wM T P m) (hO : wOk w){v : Int} (hv : -2147483648 ≤ v ∧ v < 2147483648) (hb : ¬ (0 ≤ v ∧ v < 60)) : Ct E 2 mX12_remove 0 0 [.ref m, J v] (z, T, F, upA I (m + 1) w, P, Y) (xd (some (J 0)) (z, T, upF F m 0 1, upA I (m + 1) (w), P, Y)) := by
  obtain ⟨⟨q0, q1, q2, q3⟩, -⟩ := id hw
  obtain ⟨hR, o0, o1, o2, o3, o4, o5, o6, oc, o13, o14, o16, o17, o18, ov⟩ := id hO
  have hN := wN_i o0.1
  refine Ct.of [some (.ref m), some (J v)] kt_X12_remove rfl (Nat.le_of_ble_eq_true rfl) rfl (fun d hd => ?_)
  generalize hX : xN E _ _ _ = X
  refine xg_aloadn 1 dX12_remove_0 rfl rfl rfl ?_
  refine xg_iconst 2 dX12_remove_1 rfl ?_
  refine xg_putI 5 kf_RX12_3 dX12_remove_2 rfl (by assumption) ?_
  refine xg_aloadn 6 dX12_remove_5 rfl rfl rfl ?_
  refine xg_iloadn 7 dX12_remove_6 rfl rfl rfl ?_
  refine xg_callS 10 [_] _ ks_X12_noKey kl_RX12_388 dX12_remove_7 rfl rfl rfl (Nat.le_of_ble_eq_true rfl) (by omega) ⟨Nat.le_refl _, Nat.le_refl _⟩ (ct_X12_noKey (by omega)) rfl ?_
  refine xg_iconst 11 dX12_remove_10 rfl ?_
  refine xg_dsplit (fun hb11 => ?_) (fun hb11 => ?_)
  · first
    | (exfalso; omega)
    | skip
      refine xg_callV 14 12 [_, _] _ kv_X12_throwsIf ⟨_, _, rfl⟩ kl_RX12_251 dX12_remove_11 rfl (by assumption) (by omega) rfl rfl (Nat.le_of_ble_eq_true rfl) (by omega) ⟨Nat.le_refl _, Nat.le_refl _⟩ (ct_throwsT hw) rfl ?_
      refine xg_ifeq 19 17 dX12_remove_14 rfl rfl (by first | omega | exact hR _ | exact ⟨hR _, by omega⟩ | exact ⟨by omega, hR _⟩ | exact ⟨hR _, hR _⟩) (fun hb14 => ?_) (fun hb14 => ?_)
      · exfalso; omega
      · skip
        refine xg_iconst 18 dX12_remove_17 rfl ?_
        subst hX
        exact xg_ireturn dX12_remove_18 rfl ⟨Nat.le_refl _, Nat.le_refl _⟩ ⟨rfl, by rw [upF_upF]⟩
  · first
    | (exfalso; omega)
    | skip
      refine xg_callV 14 12 [_, _] _ kv_X12_throwsIf ⟨_, _, rfl⟩ kl_RX12_251 dX12_remove_11 rfl (by assumption) (by omega) rfl rfl (Nat.le_of_ble_eq_true rfl) (by omega) ⟨Nat.le_refl _, Nat.le_refl _⟩ (ct_throwsF hw) rfl ?_
      refine xg_ifeq 19 17 dX12_remove_14 rfl rfl (by first | omega | exact hR _ | exact ⟨hR _, by omega⟩ | exact ⟨by omega, hR _⟩ | exact ⟨hR _, hR _⟩) (fun hb14 => ?_) (fun hb14 => ?_)
      · skip
        exfalso; omega
      · exfalso; omega

set_option maxHeartbeats 4000000 in
set_option maxRecDepth 100000 in
theorem ct_X12_remove {E : xE} {z : Nat} {T : Nat → Nat × Int} {F : Nat → Nat → Int} {I : Nat → Int → Int} {P : Nat → Nat → Option Nat} {Y : Nat → Int → Option Nat} {m : Nat} {w : Int → Int} (hw : wM T P m) (hO : wOk w) (hL : wLw w) (h7 : 0 ≤ F m 7 ∧ F m 7 ≤ 12) {key : Int} (hk : 0 ≤ key ∧ key < 60) (hS : sStop sFu (sW1 w key 100) 0) : Ct E 13 mX12_remove 0 0 [.ref m, J key] (z, T, F, upA I (m + 1) w, P, Y) (xs m (some (J (sWriteN w key 100))) z T (fRem (upF F m 0 0) m) (upA I (m + 5) (sActs (I (m + 5)) w (F m 7))) (sWrite w key 100) P Y) := by
  obtain ⟨⟨q0, q1, q2, q3⟩, -⟩ := id hw
  obtain ⟨hR, o0, o1, o2, o3, o4, o5, o6, oc, o13, o14, o16, o17, o18, ov⟩ := id hO
  have hN := wN_i o0.1
  refine Ct.of [some (.ref m), some (J key)] kt_X12_remove rfl (Nat.le_of_ble_eq_true rfl) rfl (fun d hd => ?_)
  generalize hX : xN E _ _ _ = X
  refine xg_aloadn 1 dX12_remove_0 rfl rfl rfl ?_
  refine xg_iconst 2 dX12_remove_1 rfl ?_
  refine xg_putI 5 kf_RX12_3 dX12_remove_2 rfl (by assumption) ?_
  refine xg_aloadn 6 dX12_remove_5 rfl rfl rfl ?_
  refine xg_iloadn 7 dX12_remove_6 rfl rfl rfl ?_
  refine xg_callS 10 [_] _ ks_X12_noKey kl_RX12_388 dX12_remove_7 rfl rfl rfl (Nat.le_of_ble_eq_true rfl) (by omega) ⟨Nat.le_refl _, Nat.le_refl _⟩ (ct_X12_noKey (by omega)) rfl ?_
  refine xg_iconst 11 dX12_remove_10 rfl ?_
  refine xg_dsplit (fun hb11 => ?_) (fun hb11 => ?_)
  · first
    | (exfalso; omega)
    | skip
      refine xg_callV 14 12 [_, _] _ kv_X12_throwsIf ⟨_, _, rfl⟩ kl_RX12_251 dX12_remove_11 rfl (by assumption) (by omega) rfl rfl (Nat.le_of_ble_eq_true rfl) (by omega) ⟨Nat.le_refl _, Nat.le_refl _⟩ (ct_throwsT hw) rfl ?_
      refine xg_ifeq 19 17 dX12_remove_14 rfl rfl (by first | omega | exact hR _ | exact ⟨hR _, by omega⟩ | exact ⟨by omega, hR _⟩ | exact ⟨hR _, hR _⟩) (fun hb14 => ?_) (fun hb14 => ?_)
      · exfalso; omega
      · skip
        exfalso; omega
  · first
    | (exfalso; omega)
    | skip
      refine xg_callV 14 12 [_, _] _ kv_X12_throwsIf ⟨_, _, rfl⟩ kl_RX12_251 dX12_remove_11 rfl (by assumption) (by omega) rfl rfl (Nat.le_of_ble_eq_true rfl) (by omega) ⟨Nat.le_refl _, Nat.le_refl _⟩ (ct_throwsF hw) rfl ?_
      refine xg_ifeq 19 17 dX12_remove_14 rfl rfl (by first | omega | exact hR _ | exact ⟨hR _, by omega⟩ | exact ⟨by omega, hR _⟩ | exact ⟨hR _, hR _⟩) (fun hb14 => ?_) (fun hb14 => ?_)
      · skip
        refine xg_aloadn 20 dX12_remove_19 rfl rfl rfl ?_
        refine xg_callV 23 12 [] _ kv_X12_remembers ⟨_, _, rfl⟩ kl_RX12_382 dX12_remove_20 rfl (by assumption) (by omega) rfl rfl (Nat.le_of_ble_eq_true rfl) (by omega) ⟨Nat.le_refl _, Nat.le_refl _⟩ (ct_X12_remembers hw (by rw [upF_nk _ _ _ _ (show (7 : Nat) ≠ 0 by decide)]; exact h7)) rfl ?_
        rw [upF_nk _ _ _ _ (show (7 : Nat) ≠ 0 by decide)]
        refine xg_aloadn 24 dX12_remove_23 rfl rfl rfl ?_
        refine xg_iloadn 25 dX12_remove_24 rfl rfl rfl ?_
        refine xg_bipush 27 dX12_remove_25 rfl (by decide) ?_
        refine xg_callVs 30 12 [_, _] _ kv_X12_isWritten ⟨_, _, rfl⟩ kl_RX12_140 dX12_remove_27 rfl (by assumption) (by omega) rfl rfl (Nat.le_of_ble_eq_true rfl) (by omega) ⟨Nat.le_refl _, Nat.le_refl _⟩ (ct_X12_isWritten hw hO hL hk (by omega) hS) rfl (fun Ib hIb => ?_)
        subst hX
        exact xg_ireturn dX12_remove_30 rfl ⟨Nat.le_refl _, Nat.le_refl _⟩ ⟨rfl, Ib, hIb, rfl⟩
      · exfalso; omega

theorem dX12_work_0 : decode cX12_work 0 = .ok (.aload_n 0, 1) := by decide +kernel
theorem dX12_work_1 : decode cX12_work 1 = .ok (.iconst 0, 1) := by decide +kernel
theorem dX12_work_2 : decode cX12_work 2 = .ok (.putfield 3, 3) := by decide +kernel
theorem dX12_work_5 : decode cX12_work 5 = .ok (.aload_n 0, 1) := by decide +kernel
theorem dX12_work_6 : decode cX12_work 6 = .ok (.aload_n 0, 1) := by decide +kernel
theorem dX12_work_7 : decode cX12_work 7 = .ok (.invokevirtual 278, 3) := by decide +kernel
theorem dX12_work_10 : decode cX12_work 10 = .ok (.ifCond .ne 15, 3) := by decide +kernel
theorem dX12_work_13 : decode cX12_work 13 = .ok (.aload_n 0, 1) := by decide +kernel
theorem dX12_work_14 : decode cX12_work 14 = .ok (.invokevirtual 309, 3) := by decide +kernel
theorem dX12_work_17 : decode cX12_work 17 = .ok (.iconst (-1), 1) := by decide +kernel
theorem dX12_work_18 : decode cX12_work 18 = .ok (.if_icmp .ne 7, 3) := by decide +kernel
theorem dX12_work_21 : decode cX12_work 21 = .ok (.iconst 1, 1) := by decide +kernel
theorem dX12_work_22 : decode cX12_work 22 = .ok (.goto 4, 3) := by decide +kernel
theorem dX12_work_25 : decode cX12_work 25 = .ok (.iconst 0, 1) := by decide +kernel
theorem dX12_work_26 : decode cX12_work 26 = .ok (.iconst 1, 1) := by decide +kernel
theorem dX12_work_27 : decode cX12_work 27 = .ok (.invokevirtual 251, 3) := by decide +kernel
theorem dX12_work_30 : decode cX12_work 30 = .ok (.ifCond .eq 5, 3) := by decide +kernel
theorem dX12_work_33 : decode cX12_work 33 = .ok (.iconst 0, 1) := by decide +kernel
theorem dX12_work_34 : decode cX12_work 34 = .ok (.ireturn, 1) := by decide +kernel
theorem dX12_work_35 : decode cX12_work 35 = .ok (.aload_n 0, 1) := by decide +kernel
theorem dX12_work_36 : decode cX12_work 36 = .ok (.invokevirtual 382, 3) := by decide +kernel
theorem dX12_work_39 : decode cX12_work 39 = .ok (.aload_n 0, 1) := by decide +kernel
theorem dX12_work_40 : decode cX12_work 40 = .ok (.invokevirtual 355, 3) := by decide +kernel
theorem dX12_work_43 : decode cX12_work 43 = .ok (.aload_n 0, 1) := by decide +kernel
theorem dX12_work_44 : decode cX12_work 44 = .ok (.iconst 0, 1) := by decide +kernel
theorem dX12_work_45 : decode cX12_work 45 = .ok (.invokevirtual 361, 3) := by decide +kernel
theorem dX12_work_48 : decode cX12_work 48 = .ok (.ireturn, 1) := by decide +kernel
set_option maxHeartbeats 4000000 in
set_option maxRecDepth 100000 in
theorem ct_X12_work_t1 {E : xE} {z : Nat} {T : Nat → Nat × Int} {F : Nat → Nat → Int} {I : Nat → Int → Int} {P : Nat → Nat → Option Nat} {Y : Nat → Int → Option Nat} {m : Nat} {w : Int → Int} (hw : wM T P m) (hO : wOk w) (hL : wLw w) (hb : w 16 ≠ 1 ∧ sDM w 4 = -1) : Ct E 10 mX12_work 0 0 [.ref m] (z, T, F, upA I (m + 1) w, P, Y) (xs m (some (J 0)) z T (upF F m 0 1) (I) (w) P Y) := by
  obtain ⟨⟨q0, q1, q2, q3⟩, -⟩ := id hw
  obtain ⟨hR, o0, o1, o2, o3, o4, o5, o6, oc, o13, o14, o16, o17, o18, ov⟩ := id hO
  have hN := wN_i o0.1
  have hdb := sDM_bd w 4
  refine Ct.of [some (.ref m)] kt_X12_work rfl (Nat.le_of_ble_eq_true rfl) rfl (fun d hd => ?_)
  generalize hX : xN E _ _ _ = X
  refine xg_aloadn 1 dX12_work_0 rfl rfl rfl ?_
  refine xg_iconst 2 dX12_work_1 rfl ?_
  refine xg_putI 5 kf_RX12_3 dX12_work_2 rfl (by assumption) ?_
  refine xg_aloadn 6 dX12_work_5 rfl rfl rfl ?_
  refine xg_aloadn 7 dX12_work_6 rfl rfl rfl ?_
  refine xg_callV 10 12 [] _ kv_X12_isBusy ⟨_, _, rfl⟩ kl_RX12_278 dX12_work_7 rfl (by assumption) (by omega) rfl rfl (Nat.le_of_ble_eq_true rfl) (by omega) ⟨Nat.le_refl _, Nat.le_refl _⟩ (ct_X12_isBusy hw hR) rfl ?_
  refine xg_dne 25 13 dX12_work_10 rfl rfl (fun hb10 => ?_) (fun hb10 => ?_)
  · first
    | (exfalso; omega)
    | skip
      refine xg_iconst 26 dX12_work_25 rfl ?_
      refine xg_iconst 27 dX12_work_26 rfl ?_
      refine xg_callV 30 12 [_, _] _ kv_X12_throwsIf ⟨_, _, rfl⟩ kl_RX12_251 dX12_work_27 rfl (by assumption) (by omega) rfl rfl (Nat.le_of_ble_eq_true rfl) (by omega) ⟨Nat.le_refl _, Nat.le_refl _⟩ (ct_throwsF hw) rfl ?_
      refine xg_ifeq 35 33 dX12_work_30 rfl rfl (by first | omega | exact hR _ | exact ⟨hR _, by omega⟩ | exact ⟨by omega, hR _⟩ | exact ⟨hR _, hR _⟩) (fun hb30 => ?_) (fun hb30 => ?_)
      · skip
        exfalso; omega
      · exfalso; omega
  · first
    | (exfalso; omega)
    | skip
      refine xg_aloadn 14 dX12_work_13 rfl rfl rfl ?_
      refine xg_callVs 17 12 [] _ kv_X12_dueMost ⟨_, _, rfl⟩ kl_RX12_309 dX12_work_14 rfl (by assumption) (by omega) rfl rfl (Nat.le_of_ble_eq_true rfl) (by omega) ⟨Nat.le_refl _, Nat.le_refl _⟩ (ct_X12_dueMost hw hO hL) rfl (fun Ib hIb => ?_)
      refine xg_iconst 18 dX12_work_17 rfl ?_
      refine xg_icne 25 21 dX12_work_18 rfl rfl (by first | omega | exact hR _ | exact ⟨hR _, by omega⟩ | exact ⟨by omega, hR _⟩ | exact ⟨hR _, hR _⟩) (fun hb18 => ?_) (fun hb18 => ?_)
      · first
        | (exfalso; omega)
        | skip
          refine xg_iconst 26 dX12_work_25 rfl ?_
          refine xg_iconst 27 dX12_work_26 rfl ?_
          refine xg_callV 30 12 [_, _] _ kv_X12_throwsIf ⟨_, _, rfl⟩ kl_RX12_251 dX12_work_27 rfl (by assumption) (by omega) rfl rfl (Nat.le_of_ble_eq_true rfl) (by omega) ⟨Nat.le_refl _, Nat.le_refl _⟩ (ct_throwsF hw) rfl ?_
          refine xg_ifeq 35 33 dX12_work_30 rfl rfl (by first | omega | exact hR _ | exact ⟨hR _, by omega⟩ | exact ⟨by omega, hR _⟩ | exact ⟨hR _, hR _⟩) (fun hb30 => ?_) (fun hb30 => ?_)
          · skip
            exfalso; omega
          · exfalso; omega
      · first
        | (exfalso; omega)
        | skip
          refine xg_iconst 22 dX12_work_21 rfl ?_
          refine xg_goto 26 dX12_work_22 rfl ?_
          refine xg_iconst 27 dX12_work_26 rfl ?_
          refine xg_callV 30 12 [_, _] _ kv_X12_throwsIf ⟨_, _, rfl⟩ kl_RX12_251 dX12_work_27 rfl (by assumption) (by omega) rfl rfl (Nat.le_of_ble_eq_true rfl) (by omega) ⟨Nat.le_refl _, Nat.le_refl _⟩ (ct_throwsT hw) rfl ?_
          refine xg_ifeq 35 33 dX12_work_30 rfl rfl (by first | omega | exact hR _ | exact ⟨hR _, by omega⟩ | exact ⟨by omega, hR _⟩ | exact ⟨hR _, hR _⟩) (fun hb30 => ?_) (fun hb30 => ?_)
          · exfalso; omega
          · skip
            refine xg_iconst 34 dX12_work_33 rfl ?_
            subst hX
            exact xg_ireturn dX12_work_34 rfl ⟨Nat.le_refl _, Nat.le_refl _⟩ ⟨rfl, Ib, hIb, by rw [upF_upF]⟩

theorem dX12_halt_0 : decode cX12_halt 0 = .ok (.aload_n 0, 1) := by decide +kernel
theorem dX12_halt_1 : decode cX12_halt 1 = .ok (.iconst 0, 1) := by decide +kernel
theorem dX12_halt_2 : decode cX12_halt 2 = .ok (.putfield 3, 3) := by decide +kernel
theorem dX12_halt_5 : decode cX12_halt 5 = .ok (.aload_n 0, 1) := by decide +kernel
theorem dX12_halt_6 : decode cX12_halt 6 = .ok (.aload_n 0, 1) := by decide +kernel
theorem dX12_halt_7 : decode cX12_halt 7 = .ok (.invokevirtual 278, 3) := by decide +kernel
theorem dX12_halt_10 : decode cX12_halt 10 = .ok (.ifCond .ne 7, 3) := by decide +kernel
theorem dX12_halt_13 : decode cX12_halt 13 = .ok (.iconst 1, 1) := by decide +kernel
theorem dX12_halt_14 : decode cX12_halt 14 = .ok (.goto 4, 3) := by decide +kernel
theorem dX12_halt_17 : decode cX12_halt 17 = .ok (.iconst 0, 1) := by decide +kernel
theorem dX12_halt_18 : decode cX12_halt 18 = .ok (.iconst 1, 1) := by decide +kernel
theorem dX12_halt_19 : decode cX12_halt 19 = .ok (.invokevirtual 251, 3) := by decide +kernel
theorem dX12_halt_22 : decode cX12_halt 22 = .ok (.ifCond .eq 5, 3) := by decide +kernel
theorem dX12_halt_25 : decode cX12_halt 25 = .ok (.iconst 0, 1) := by decide +kernel
theorem dX12_halt_26 : decode cX12_halt 26 = .ok (.ireturn, 1) := by decide +kernel
theorem dX12_halt_27 : decode cX12_halt 27 = .ok (.aload_n 0, 1) := by decide +kernel
theorem dX12_halt_28 : decode cX12_halt 28 = .ok (.invokevirtual 382, 3) := by decide +kernel
theorem dX12_halt_31 : decode cX12_halt 31 = .ok (.aload_n 0, 1) := by decide +kernel
theorem dX12_halt_32 : decode cX12_halt 32 = .ok (.invokevirtual 130, 3) := by decide +kernel
theorem dX12_halt_35 : decode cX12_halt 35 = .ok (.ireturn, 1) := by decide +kernel
set_option maxHeartbeats 4000000 in
set_option maxRecDepth 100000 in
theorem ct_X12_halt_t1 {E : xE} {z : Nat} {T : Nat → Nat × Int} {F : Nat → Nat → Int} {I : Nat → Int → Int} {P : Nat → Nat → Option Nat} {Y : Nat → Int → Option Nat} {m : Nat} {w : Int → Int} (hw : wM T P m) (hO : wOk w) (hb : w 16 ≠ 1) : Ct E 1 mX12_halt 0 0 [.ref m] (z, T, F, upA I (m + 1) w, P, Y) (xd (some (J 0)) (z, T, upF F m 0 1, upA I (m + 1) (w), P, Y)) := by
  obtain ⟨⟨q0, q1, q2, q3⟩, -⟩ := id hw
  obtain ⟨hR, o0, o1, o2, o3, o4, o5, o6, oc, o13, o14, o16, o17, o18, ov⟩ := id hO
  have hN := wN_i o0.1
  refine Ct.of [some (.ref m)] kt_X12_halt rfl (Nat.le_of_ble_eq_true rfl) rfl (fun d hd => ?_)
  generalize hX : xN E _ _ _ = X
  refine xg_aloadn 1 dX12_halt_0 rfl rfl rfl ?_
  refine xg_iconst 2 dX12_halt_1 rfl ?_
  refine xg_putI 5 kf_RX12_3 dX12_halt_2 rfl (by assumption) ?_
  refine xg_aloadn 6 dX12_halt_5 rfl rfl rfl ?_
  refine xg_aloadn 7 dX12_halt_6 rfl rfl rfl ?_
  refine xg_callV 10 12 [] _ kv_X12_isBusy ⟨_, _, rfl⟩ kl_RX12_278 dX12_halt_7 rfl (by assumption) (by omega) rfl rfl (Nat.le_of_ble_eq_true rfl) (by omega) ⟨Nat.le_refl _, Nat.le_refl _⟩ (ct_X12_isBusy hw hR) rfl ?_
  refine xg_dne 17 13 dX12_halt_10 rfl rfl (fun hb10 => ?_) (fun hb10 => ?_)
  · first
    | (exfalso; omega)
    | skip
      refine xg_iconst 18 dX12_halt_17 rfl ?_
      refine xg_iconst 19 dX12_halt_18 rfl ?_
      refine xg_callV 22 12 [_, _] _ kv_X12_throwsIf ⟨_, _, rfl⟩ kl_RX12_251 dX12_halt_19 rfl (by assumption) (by omega) rfl rfl (Nat.le_of_ble_eq_true rfl) (by omega) ⟨Nat.le_refl _, Nat.le_refl _⟩ (ct_throwsF hw) rfl ?_
      refine xg_ifeq 27 25 dX12_halt_22 rfl rfl (by first | omega | exact hR _ | exact ⟨hR _, by omega⟩ | exact ⟨by omega, hR _⟩ | exact ⟨hR _, hR _⟩) (fun hb22 => ?_) (fun hb22 => ?_)
      · skip
        exfalso; omega
      · exfalso; omega
  · first
    | (exfalso; omega)
    | skip
      refine xg_iconst 14 dX12_halt_13 rfl ?_
      refine xg_goto 18 dX12_halt_14 rfl ?_
      refine xg_iconst 19 dX12_halt_18 rfl ?_
      refine xg_callV 22 12 [_, _] _ kv_X12_throwsIf ⟨_, _, rfl⟩ kl_RX12_251 dX12_halt_19 rfl (by assumption) (by omega) rfl rfl (Nat.le_of_ble_eq_true rfl) (by omega) ⟨Nat.le_refl _, Nat.le_refl _⟩ (ct_throwsT hw) rfl ?_
      refine xg_ifeq 27 25 dX12_halt_22 rfl rfl (by first | omega | exact hR _ | exact ⟨hR _, by omega⟩ | exact ⟨by omega, hR _⟩ | exact ⟨hR _, hR _⟩) (fun hb22 => ?_) (fun hb22 => ?_)
      · exfalso; omega
      · skip
        refine xg_iconst 26 dX12_halt_25 rfl ?_
        subst hX
        exact xg_ireturn dX12_halt_26 rfl ⟨Nat.le_refl _, Nat.le_refl _⟩ ⟨rfl, by rw [upF_upF]⟩

set_option maxHeartbeats 4000000 in
set_option maxRecDepth 100000 in
theorem ct_X12_halt {E : xE} {z : Nat} {T : Nat → Nat × Int} {F : Nat → Nat → Int} {I : Nat → Int → Int} {P : Nat → Nat → Option Nat} {Y : Nat → Int → Option Nat} {m : Nat} {w : Int → Int} (hw : wM T P m) (hO : wOk w)(h7 : 0 ≤ F m 7 ∧ F m 7 ≤ 12) (hb : w 16 = 1) : Ct E 4 mX12_halt 0 0 [.ref m] (z, T, F, upA I (m + 1) w, P, Y) (xs m (some (J (sHaltN w))) z T (fRem (upF F m 0 0) m) (upA I (m + 5) (sActs (I (m + 5)) w (F m 7))) (sHalt w) P Y) := by
  obtain ⟨⟨q0, q1, q2, q3⟩, -⟩ := id hw
  obtain ⟨hR, o0, o1, o2, o3, o4, o5, o6, oc, o13, o14, o16, o17, o18, ov⟩ := id hO
  have hN := wN_i o0.1
  refine Ct.of [some (.ref m)] kt_X12_halt rfl (Nat.le_of_ble_eq_true rfl) rfl (fun d hd => ?_)
  generalize hX : xN E _ _ _ = X
  refine xg_aloadn 1 dX12_halt_0 rfl rfl rfl ?_
  refine xg_iconst 2 dX12_halt_1 rfl ?_
  refine xg_putI 5 kf_RX12_3 dX12_halt_2 rfl (by assumption) ?_
  refine xg_aloadn 6 dX12_halt_5 rfl rfl rfl ?_
  refine xg_aloadn 7 dX12_halt_6 rfl rfl rfl ?_
  refine xg_callV 10 12 [] _ kv_X12_isBusy ⟨_, _, rfl⟩ kl_RX12_278 dX12_halt_7 rfl (by assumption) (by omega) rfl rfl (Nat.le_of_ble_eq_true rfl) (by omega) ⟨Nat.le_refl _, Nat.le_refl _⟩ (ct_X12_isBusy hw hR) rfl ?_
  refine xg_dne 17 13 dX12_halt_10 rfl rfl (fun hb10 => ?_) (fun hb10 => ?_)
  · first
    | (exfalso; omega)
    | skip
      refine xg_iconst 18 dX12_halt_17 rfl ?_
      refine xg_iconst 19 dX12_halt_18 rfl ?_
      refine xg_callV 22 12 [_, _] _ kv_X12_throwsIf ⟨_, _, rfl⟩ kl_RX12_251 dX12_halt_19 rfl (by assumption) (by omega) rfl rfl (Nat.le_of_ble_eq_true rfl) (by omega) ⟨Nat.le_refl _, Nat.le_refl _⟩ (ct_throwsF hw) rfl ?_
      refine xg_ifeq 27 25 dX12_halt_22 rfl rfl (by first | omega | exact hR _ | exact ⟨hR _, by omega⟩ | exact ⟨by omega, hR _⟩ | exact ⟨hR _, hR _⟩) (fun hb22 => ?_) (fun hb22 => ?_)
      · skip
        refine xg_aloadn 28 dX12_halt_27 rfl rfl rfl ?_
        refine xg_callV 31 12 [] _ kv_X12_remembers ⟨_, _, rfl⟩ kl_RX12_382 dX12_halt_28 rfl (by assumption) (by omega) rfl rfl (Nat.le_of_ble_eq_true rfl) (by omega) ⟨Nat.le_refl _, Nat.le_refl _⟩ (ct_X12_remembers hw (by rw [upF_nk _ _ _ _ (show (7 : Nat) ≠ 0 by decide)]; exact h7)) rfl ?_
        rw [upF_nk _ _ _ _ (show (7 : Nat) ≠ 0 by decide)]
        refine xg_aloadn 32 dX12_halt_31 rfl rfl rfl ?_
        refine xg_callV 35 12 [] _ kv_X12_isHalted ⟨_, _, rfl⟩ kl_RX12_130 dX12_halt_32 rfl (by assumption) (by omega) rfl rfl (Nat.le_of_ble_eq_true rfl) (by omega) ⟨Nat.le_refl _, Nat.le_refl _⟩ (ct_X12_isHalted hw hO) rfl ?_
        subst hX
        exact xg_ireturn dX12_halt_35 rfl ⟨Nat.le_refl _, Nat.le_refl _⟩ ⟨rfl, _, xScr.rf, rfl⟩
      · exfalso; omega
  · first
    | (exfalso; omega)
    | skip
      refine xg_iconst 14 dX12_halt_13 rfl ?_
      refine xg_goto 18 dX12_halt_14 rfl ?_
      refine xg_iconst 19 dX12_halt_18 rfl ?_
      refine xg_callV 22 12 [_, _] _ kv_X12_throwsIf ⟨_, _, rfl⟩ kl_RX12_251 dX12_halt_19 rfl (by assumption) (by omega) rfl rfl (Nat.le_of_ble_eq_true rfl) (by omega) ⟨Nat.le_refl _, Nat.le_refl _⟩ (ct_throwsT hw) rfl ?_
      refine xg_ifeq 27 25 dX12_halt_22 rfl rfl (by first | omega | exact hR _ | exact ⟨hR _, by omega⟩ | exact ⟨by omega, hR _⟩ | exact ⟨hR _, hR _⟩) (fun hb22 => ?_) (fun hb22 => ?_)
      · exfalso; omega
      · skip
        exfalso; omega

theorem dX12_flush_0 : decode cX12_flush 0 = .ok (.aload_n 0, 1) := by decide +kernel
theorem dX12_flush_1 : decode cX12_flush 1 = .ok (.iconst 0, 1) := by decide +kernel
theorem dX12_flush_2 : decode cX12_flush 2 = .ok (.putfield 3, 3) := by decide +kernel
theorem dX12_flush_5 : decode cX12_flush 5 = .ok (.aload_n 0, 1) := by decide +kernel
theorem dX12_flush_6 : decode cX12_flush 6 = .ok (.bipush 19, 2) := by decide +kernel
theorem dX12_flush_8 : decode cX12_flush 8 = .ok (.invokevirtual 268, 3) := by decide +kernel
theorem dX12_flush_11 : decode cX12_flush 11 = .ok (.istore_n 1, 1) := by decide +kernel
theorem dX12_flush_12 : decode cX12_flush 12 = .ok (.aload_n 0, 1) := by decide +kernel
theorem dX12_flush_13 : decode cX12_flush 13 = .ok (.iload_n 1, 1) := by decide +kernel
theorem dX12_flush_14 : decode cX12_flush 14 = .ok (.ifCond .eq 10, 3) := by decide +kernel
theorem dX12_flush_17 : decode cX12_flush 17 = .ok (.aload_n 0, 1) := by decide +kernel
theorem dX12_flush_18 : decode cX12_flush 18 = .ok (.invokevirtual 352, 3) := by decide +kernel
theorem dX12_flush_21 : decode cX12_flush 21 = .ok (.ifCond .eq 7, 3) := by decide +kernel
theorem dX12_flush_24 : decode cX12_flush 24 = .ok (.iconst 1, 1) := by decide +kernel
theorem dX12_flush_25 : decode cX12_flush 25 = .ok (.goto 4, 3) := by decide +kernel
theorem dX12_flush_28 : decode cX12_flush 28 = .ok (.iconst 0, 1) := by decide +kernel
theorem dX12_flush_29 : decode cX12_flush 29 = .ok (.iconst 1, 1) := by decide +kernel
theorem dX12_flush_30 : decode cX12_flush 30 = .ok (.invokevirtual 251, 3) := by decide +kernel
theorem dX12_flush_33 : decode cX12_flush 33 = .ok (.ifCond .eq 5, 3) := by decide +kernel
theorem dX12_flush_36 : decode cX12_flush 36 = .ok (.iconst 0, 1) := by decide +kernel
theorem dX12_flush_37 : decode cX12_flush 37 = .ok (.ireturn, 1) := by decide +kernel
theorem dX12_flush_38 : decode cX12_flush 38 = .ok (.aload_n 0, 1) := by decide +kernel
theorem dX12_flush_39 : decode cX12_flush 39 = .ok (.invokevirtual 382, 3) := by decide +kernel
theorem dX12_flush_42 : decode cX12_flush 42 = .ok (.aload_n 0, 1) := by decide +kernel
theorem dX12_flush_43 : decode cX12_flush 43 = .ok (.invokevirtual 364, 3) := by decide +kernel
theorem dX12_flush_46 : decode cX12_flush 46 = .ok (.iload_n 1, 1) := by decide +kernel
theorem dX12_flush_47 : decode cX12_flush 47 = .ok (.ireturn, 1) := by decide +kernel
set_option maxHeartbeats 4000000 in
set_option maxRecDepth 100000 in
theorem ct_X12_flush_t1 {E : xE} {z : Nat} {T : Nat → Nat × Int} {F : Nat → Nat → Int} {I : Nat → Int → Int} {P : Nat → Nat → Option Nat} {Y : Nat → Int → Option Nat} {m : Nat} {w : Int → Int} (hw : wM T P m) (hO : wOk w) (hb : sEnt w 19 = 0 ∨ sCrowd w = true) : Ct E 4 mX12_flush 0 0 [.ref m] (z, T, F, upA I (m + 1) w, P, Y) (xd (some (J 0)) (z, T, upF F m 0 1, upA I (m + 1) (w), P, Y)) := by
  obtain ⟨⟨q0, q1, q2, q3⟩, -⟩ := id hw
  obtain ⟨hR, o0, o1, o2, o3, o4, o5, o6, oc, o13, o14, o16, o17, o18, ov⟩ := id hO
  have hN := wN_i o0.1
  have heb := sEnt_bd w 19
  refine Ct.of [some (.ref m), none] kt_X12_flush rfl (Nat.le_of_ble_eq_true rfl) rfl (fun d hd => ?_)
  generalize hX : xN E _ _ _ = X
  refine xg_aloadn 1 dX12_flush_0 rfl rfl rfl ?_
  refine xg_iconst 2 dX12_flush_1 rfl ?_
  refine xg_putI 5 kf_RX12_3 dX12_flush_2 rfl (by assumption) ?_
  refine xg_aloadn 6 dX12_flush_5 rfl rfl rfl ?_
  refine xg_bipush 8 dX12_flush_6 rfl (by decide) ?_
  refine xg_callV 11 12 [_] _ kv_X12_entriesOf ⟨_, _, rfl⟩ kl_RX12_268 dX12_flush_8 rfl (by assumption) (by omega) rfl rfl (Nat.le_of_ble_eq_true rfl) (by omega) ⟨Nat.le_refl _, Nat.le_refl _⟩ (ct_X12_entriesOf hw hR (by omega)) rfl ?_
  refine xg_istoren 12 _ dX12_flush_11 rfl rfl rfl (by decide) (Or.inr rfl) ?_
  refine xg_aloadn 13 dX12_flush_12 rfl rfl rfl ?_
  refine xg_iloadn 14 dX12_flush_13 rfl rfl rfl ?_
  refine xg_ifeq 24 17 dX12_flush_14 rfl rfl (by first | omega | exact hR _ | exact ⟨hR _, by omega⟩ | exact ⟨by omega, hR _⟩ | exact ⟨hR _, hR _⟩) (fun hb14 => ?_) (fun hb14 => ?_)
  · first
    | (exfalso; omega)
    | skip
      refine xg_iconst 25 dX12_flush_24 rfl ?_
      refine xg_goto 29 dX12_flush_25 rfl ?_
      refine xg_iconst 30 dX12_flush_29 rfl ?_
      refine xg_callV 33 12 [_, _] _ kv_X12_throwsIf ⟨_, _, rfl⟩ kl_RX12_251 dX12_flush_30 rfl (by assumption) (by omega) rfl rfl (Nat.le_of_ble_eq_true rfl) (by omega) ⟨Nat.le_refl _, Nat.le_refl _⟩ (ct_throwsT hw) rfl ?_
      refine xg_ifeq 38 36 dX12_flush_33 rfl rfl (by first | omega | exact hR _ | exact ⟨hR _, by omega⟩ | exact ⟨by omega, hR _⟩ | exact ⟨hR _, hR _⟩) (fun hb33 => ?_) (fun hb33 => ?_)
      · exfalso; omega
      · skip
        refine xg_iconst 37 dX12_flush_36 rfl ?_
        subst hX
        exact xg_ireturn dX12_flush_37 rfl ⟨Nat.le_refl _, Nat.le_refl _⟩ ⟨rfl, by rw [upF_upF]⟩
  · first
    | (exfalso; omega)
    | skip
      refine xg_aloadn 18 dX12_flush_17 rfl rfl rfl ?_
      refine xg_callV 21 12 [] _ kv_X12_isCrowded ⟨_, _, rfl⟩ kl_RX12_352 dX12_flush_18 rfl (by assumption) (by omega) rfl rfl (Nat.le_of_ble_eq_true rfl) (by omega) ⟨Nat.le_refl _, Nat.le_refl _⟩ (ct_X12_isCrowded hw hO) rfl ?_
      refine xg_beq 28 24 dX12_flush_21 rfl rfl (fun hb21 => ?_) (fun hb21 => ?_)
      · skip
        refine xg_iconst 29 dX12_flush_28 rfl ?_
        refine xg_iconst 30 dX12_flush_29 rfl ?_
        refine xg_callV 33 12 [_, _] _ kv_X12_throwsIf ⟨_, _, rfl⟩ kl_RX12_251 dX12_flush_30 rfl (by assumption) (by omega) rfl rfl (Nat.le_of_ble_eq_true rfl) (by omega) ⟨Nat.le_refl _, Nat.le_refl _⟩ (ct_throwsF hw) rfl ?_
        refine xg_ifeq 38 36 dX12_flush_33 rfl rfl (by first | omega | exact hR _ | exact ⟨hR _, by omega⟩ | exact ⟨by omega, hR _⟩ | exact ⟨hR _, hR _⟩) (fun hb33 => ?_) (fun hb33 => ?_)
        · skip
          exfalso; rcases hb with q | q
          · omega
          · rw [q] at hb21; cases hb21
        · exfalso; omega
      · skip
        refine xg_iconst 25 dX12_flush_24 rfl ?_
        refine xg_goto 29 dX12_flush_25 rfl ?_
        refine xg_iconst 30 dX12_flush_29 rfl ?_
        refine xg_callV 33 12 [_, _] _ kv_X12_throwsIf ⟨_, _, rfl⟩ kl_RX12_251 dX12_flush_30 rfl (by assumption) (by omega) rfl rfl (Nat.le_of_ble_eq_true rfl) (by omega) ⟨Nat.le_refl _, Nat.le_refl _⟩ (ct_throwsT hw) rfl ?_
        refine xg_ifeq 38 36 dX12_flush_33 rfl rfl (by first | omega | exact hR _ | exact ⟨hR _, by omega⟩ | exact ⟨by omega, hR _⟩ | exact ⟨hR _, hR _⟩) (fun hb33 => ?_) (fun hb33 => ?_)
        · exfalso; omega
        · skip
          refine xg_iconst 37 dX12_flush_36 rfl ?_
          subst hX
          exact xg_ireturn dX12_flush_37 rfl ⟨Nat.le_refl _, Nat.le_refl _⟩ ⟨rfl, by rw [upF_upF]⟩

set_option maxHeartbeats 4000000 in
set_option maxRecDepth 100000 in
theorem ct_X12_flush {E : xE} {z : Nat} {T : Nat → Nat × Int} {F : Nat → Nat → Int} {I : Nat → Int → Int} {P : Nat → Nat → Option Nat} {Y : Nat → Int → Option Nat} {m : Nat} {w : Int → Int} (hw : wM T P m) (hO : wOk w)(h7 : 0 ≤ F m 7 ∧ F m 7 ≤ 12) (hb : sEnt w 19 ≠ 0 ∧ sCrowd w = false) : Ct E 4 mX12_flush 0 0 [.ref m] (z, T, F, upA I (m + 1) w, P, Y) (xs m (some (J (sEnt w 19))) z T (fRem (upF F m 0 0) m) (upA I (m + 5) (sActs (I (m + 5)) w (F m 7))) (sFlush w) P Y) := by
  obtain ⟨⟨q0, q1, q2, q3⟩, -⟩ := id hw
  obtain ⟨hR, o0, o1, o2, o3, o4, o5, o6, oc, o13, o14, o16, o17, o18, ov⟩ := id hO
  have hN := wN_i o0.1
  have heb := sEnt_bd w 19
  refine Ct.of [some (.ref m), none] kt_X12_flush rfl (Nat.le_of_ble_eq_true rfl) rfl (fun d hd => ?_)
  generalize hX : xN E _ _ _ = X
  refine xg_aloadn 1 dX12_flush_0 rfl rfl rfl ?_
  refine xg_iconst 2 dX12_flush_1 rfl ?_
  refine xg_putI 5 kf_RX12_3 dX12_flush_2 rfl (by assumption) ?_
  refine xg_aloadn 6 dX12_flush_5 rfl rfl rfl ?_
  refine xg_bipush 8 dX12_flush_6 rfl (by decide) ?_
  refine xg_callV 11 12 [_] _ kv_X12_entriesOf ⟨_, _, rfl⟩ kl_RX12_268 dX12_flush_8 rfl (by assumption) (by omega) rfl rfl (Nat.le_of_ble_eq_true rfl) (by omega) ⟨Nat.le_refl _, Nat.le_refl _⟩ (ct_X12_entriesOf hw hR (by omega)) rfl ?_
  refine xg_istoren 12 _ dX12_flush_11 rfl rfl rfl (by decide) (Or.inr rfl) ?_
  refine xg_aloadn 13 dX12_flush_12 rfl rfl rfl ?_
  refine xg_iloadn 14 dX12_flush_13 rfl rfl rfl ?_
  refine xg_ifeq 24 17 dX12_flush_14 rfl rfl (by first | omega | exact hR _ | exact ⟨hR _, by omega⟩ | exact ⟨by omega, hR _⟩ | exact ⟨hR _, hR _⟩) (fun hb14 => ?_) (fun hb14 => ?_)
  · first
    | (exfalso; omega)
    | skip
      refine xg_iconst 25 dX12_flush_24 rfl ?_
      refine xg_goto 29 dX12_flush_25 rfl ?_
      refine xg_iconst 30 dX12_flush_29 rfl ?_
      refine xg_callV 33 12 [_, _] _ kv_X12_throwsIf ⟨_, _, rfl⟩ kl_RX12_251 dX12_flush_30 rfl (by assumption) (by omega) rfl rfl (Nat.le_of_ble_eq_true rfl) (by omega) ⟨Nat.le_refl _, Nat.le_refl _⟩ (ct_throwsT hw) rfl ?_
      refine xg_ifeq 38 36 dX12_flush_33 rfl rfl (by first | omega | exact hR _ | exact ⟨hR _, by omega⟩ | exact ⟨by omega, hR _⟩ | exact ⟨hR _, hR _⟩) (fun hb33 => ?_) (fun hb33 => ?_)
      · exfalso; omega
      · skip
        exfalso; rw [hb.2] at hb21; cases hb21
  · first
    | (exfalso; omega)
    | skip
      refine xg_aloadn 18 dX12_flush_17 rfl rfl rfl ?_
      refine xg_callV 21 12 [] _ kv_X12_isCrowded ⟨_, _, rfl⟩ kl_RX12_352 dX12_flush_18 rfl (by assumption) (by omega) rfl rfl (Nat.le_of_ble_eq_true rfl) (by omega) ⟨Nat.le_refl _, Nat.le_refl _⟩ (ct_X12_isCrowded hw hO) rfl ?_
      refine xg_beq 28 24 dX12_flush_21 rfl rfl (fun hb21 => ?_) (fun hb21 => ?_)
      · skip
        refine xg_iconst 29 dX12_flush_28 rfl ?_
        refine xg_iconst 30 dX12_flush_29 rfl ?_
        refine xg_callV 33 12 [_, _] _ kv_X12_throwsIf ⟨_, _, rfl⟩ kl_RX12_251 dX12_flush_30 rfl (by assumption) (by omega) rfl rfl (Nat.le_of_ble_eq_true rfl) (by omega) ⟨Nat.le_refl _, Nat.le_refl _⟩ (ct_throwsF hw) rfl ?_
        refine xg_ifeq 38 36 dX12_flush_33 rfl rfl (by first | omega | exact hR _ | exact ⟨hR _, by omega⟩ | exact ⟨by omega, hR _⟩ | exact ⟨hR _, hR _⟩) (fun hb33 => ?_) (fun hb33 => ?_)
        · skip
          refine xg_aloadn 39 dX12_flush_38 rfl rfl rfl ?_
          refine xg_callV 42 12 [] _ kv_X12_remembers ⟨_, _, rfl⟩ kl_RX12_382 dX12_flush_39 rfl (by assumption) (by omega) rfl rfl (Nat.le_of_ble_eq_true rfl) (by omega) ⟨Nat.le_refl _, Nat.le_refl _⟩ (ct_X12_remembers hw (by rw [upF_nk _ _ _ _ (show (7 : Nat) ≠ 0 by decide)]; exact h7)) rfl ?_
          rw [upF_nk _ _ _ _ (show (7 : Nat) ≠ 0 by decide)]
          refine xg_aloadn 43 dX12_flush_42 rfl rfl rfl ?_
          refine xg_callV 46 12 [] _ kv_X12_isFlushed ⟨_, _, rfl⟩ kl_RX12_364 dX12_flush_43 rfl (by assumption) (by omega) rfl rfl (Nat.le_of_ble_eq_true rfl) (by omega) ⟨Nat.le_refl _, Nat.le_refl _⟩ (ct_X12_isFlushed hw hO (sCrowd_lt hO hb.2)) rfl ?_
          refine xg_iloadn 47 dX12_flush_46 rfl rfl rfl ?_
          subst hX
          exact xg_ireturn dX12_flush_47 rfl ⟨Nat.le_refl _, Nat.le_refl _⟩ ⟨rfl, _, xScr.rf, rfl⟩
        · exfalso; omega
      · skip
        refine xg_iconst 25 dX12_flush_24 rfl ?_
        refine xg_goto 29 dX12_flush_25 rfl ?_
        refine xg_iconst 30 dX12_flush_29 rfl ?_
        refine xg_callV 33 12 [_, _] _ kv_X12_throwsIf ⟨_, _, rfl⟩ kl_RX12_251 dX12_flush_30 rfl (by assumption) (by omega) rfl rfl (Nat.le_of_ble_eq_true rfl) (by omega) ⟨Nat.le_refl _, Nat.le_refl _⟩ (ct_throwsT hw) rfl ?_
        refine xg_ifeq 38 36 dX12_flush_33 rfl rfl (by first | omega | exact hR _ | exact ⟨hR _, by omega⟩ | exact ⟨by omega, hR _⟩ | exact ⟨hR _, hR _⟩) (fun hb33 => ?_) (fun hb33 => ?_)
        · exfalso; omega
        · skip
          exfalso; rw [hb.2] at hb21; cases hb21

def sPlan (w : Int → Int) (v : Int) : Int → Int := wS (sHalt w) 3 v
theorem sHalt_lo {w : Int → Int} (h : wOk w) {j : Int} (hj : 0 ≤ j ∧ j < 14) : sHalt w j = w j := by
  have o0 := h.2.1
  unfold sHalt
  split
  · have e : sTold w 3 (w 17) (sEnt w 79) 0 = w 0 := sTold_lo _ _ _ _ (by omega) (by omega)
    have e2 : sTold w 3 (w 17) (sEnt w 79) j = w j := sTold_lo _ _ _ _ (by omega) (by omega)
    unfold sNoMore
    rw [wS_ne _ _ _ (by omega), show wE (wI0 (sTold w 3 (w 17) (sEnt w 79)) (sTold w 3 (w 17) (sEnt w 79) 0)) 79 60 j = wI0 (sTold w 3 (w 17) (sEnt w 79)) (sTold w 3 (w 17) (sEnt w 79) 0) j from if_neg (by omega), show wI0 (sTold w 3 (w 17) (sEnt w 79)) (sTold w 3 (w 17) (sEnt w 79) 0) j = sTold w 3 (w 17) (sEnt w 79) j from if_neg (by omega), e2]
  · rfl
theorem dX12_plan_0 : decode cX12_plan 0 = .ok (.aload_n 0, 1) := by decide +kernel
theorem dX12_plan_1 : decode cX12_plan 1 = .ok (.iconst 0, 1) := by decide +kernel
theorem dX12_plan_2 : decode cX12_plan 2 = .ok (.putfield 3, 3) := by decide +kernel
theorem dX12_plan_5 : decode cX12_plan 5 = .ok (.aload_n 0, 1) := by decide +kernel
theorem dX12_plan_6 : decode cX12_plan 6 = .ok (.invokevirtual 382, 3) := by decide +kernel
theorem dX12_plan_9 : decode cX12_plan 9 = .ok (.aload_n 0, 1) := by decide +kernel
theorem dX12_plan_10 : decode cX12_plan 10 = .ok (.invokevirtual 130, 3) := by decide +kernel
theorem dX12_plan_13 : decode cX12_plan 13 = .ok (.pop, 1) := by decide +kernel
theorem dX12_plan_14 : decode cX12_plan 14 = .ok (.aload_n 0, 1) := by decide +kernel
theorem dX12_plan_15 : decode cX12_plan 15 = .ok (.getfield 13, 3) := by decide +kernel
theorem dX12_plan_18 : decode cX12_plan 18 = .ok (.iconst 3, 1) := by decide +kernel
theorem dX12_plan_19 : decode cX12_plan 19 = .ok (.iaload, 1) := by decide +kernel
theorem dX12_plan_20 : decode cX12_plan 20 = .ok (.iconst 1, 1) := by decide +kernel
theorem dX12_plan_21 : decode cX12_plan 21 = .ok (.if_icmp .ne 7, 3) := by decide +kernel
theorem dX12_plan_24 : decode cX12_plan 24 = .ok (.iconst 1, 1) := by decide +kernel
theorem dX12_plan_25 : decode cX12_plan 25 = .ok (.goto 4, 3) := by decide +kernel
theorem dX12_plan_28 : decode cX12_plan 28 = .ok (.iconst 0, 1) := by decide +kernel
theorem dX12_plan_29 : decode cX12_plan 29 = .ok (.istore_n 2, 1) := by decide +kernel
theorem dX12_plan_30 : decode cX12_plan 30 = .ok (.aload_n 0, 1) := by decide +kernel
theorem dX12_plan_31 : decode cX12_plan 31 = .ok (.getfield 13, 3) := by decide +kernel
theorem dX12_plan_34 : decode cX12_plan 34 = .ok (.iconst 3, 1) := by decide +kernel
theorem dX12_plan_35 : decode cX12_plan 35 = .ok (.iload_n 1, 1) := by decide +kernel
theorem dX12_plan_36 : decode cX12_plan 36 = .ok (.ifCond .eq 7, 3) := by decide +kernel
theorem dX12_plan_39 : decode cX12_plan 39 = .ok (.iconst 1, 1) := by decide +kernel
theorem dX12_plan_40 : decode cX12_plan 40 = .ok (.goto 4, 3) := by decide +kernel
theorem dX12_plan_43 : decode cX12_plan 43 = .ok (.iconst 0, 1) := by decide +kernel
theorem dX12_plan_44 : decode cX12_plan 44 = .ok (.iastore, 1) := by decide +kernel
theorem dX12_plan_45 : decode cX12_plan 45 = .ok (.iload_n 2, 1) := by decide +kernel
theorem dX12_plan_46 : decode cX12_plan 46 = .ok (.iload_n 1, 1) := by decide +kernel
theorem dX12_plan_47 : decode cX12_plan 47 = .ok (.if_icmp .eq 7, 3) := by decide +kernel
theorem dX12_plan_50 : decode cX12_plan 50 = .ok (.iconst 1, 1) := by decide +kernel
theorem dX12_plan_51 : decode cX12_plan 51 = .ok (.goto 4, 3) := by decide +kernel
theorem dX12_plan_54 : decode cX12_plan 54 = .ok (.iconst 0, 1) := by decide +kernel
theorem dX12_plan_55 : decode cX12_plan 55 = .ok (.ireturn, 1) := by decide +kernel
set_option maxHeartbeats 4000000 in
set_option maxRecDepth 100000 in
theorem ct_X12_plan_t {E : xE} {z : Nat} {T : Nat → Nat × Int} {F : Nat → Nat → Int} {I : Nat → Int → Int} {P : Nat → Nat → Option Nat} {Y : Nat → Int → Option Nat} {m : Nat} {w : Int → Int} (hw : wM T P m) (hO : wOk w)(h7 : 0 ≤ F m 7 ∧ F m 7 ≤ 12) : Ct E 4 mX12_plan 0 0 [.ref m, J 1] (z, T, F, upA I (m + 1) w, P, Y) (xs m (some (J (if w 3 = 1 then 0 else 1))) z T (fRem (upF F m 0 0) m) (upA I (m + 5) (sActs (I (m + 5)) w (F m 7))) (sPlan w 1) P Y) := by
  obtain ⟨⟨q0, q1, q2, q3⟩, -⟩ := id hw
  obtain ⟨hR, o0, o1, o2, o3, o4, o5, o6, oc, o13, o14, o16, o17, o18, ov⟩ := id hO
  have hN := wN_i o0.1
  have hOh := wOk_halt hO
  have h3 := sHalt_lo hO (j := 3) (by omega)
  refine Ct.of [some (.ref m), some (J 1), none] kt_X12_plan rfl (Nat.le_of_ble_eq_true rfl) rfl (fun d hd => ?_)
  generalize hX : xN E _ _ _ = X
  refine xg_aloadn 1 dX12_plan_0 rfl rfl rfl ?_
  refine xg_iconst 2 dX12_plan_1 rfl ?_
  refine xg_putI 5 kf_RX12_3 dX12_plan_2 rfl (by assumption) ?_
  refine xg_aloadn 6 dX12_plan_5 rfl rfl rfl ?_
  refine xg_callV 9 12 [] _ kv_X12_remembers ⟨_, _, rfl⟩ kl_RX12_382 dX12_plan_6 rfl (by assumption) (by omega) rfl rfl (Nat.le_of_ble_eq_true rfl) (by omega) ⟨Nat.le_refl _, Nat.le_refl _⟩ (ct_X12_remembers hw (by rw [upF_nk _ _ _ _ (show (7 : Nat) ≠ 0 by decide)]; exact h7)) rfl ?_
  rw [upF_nk _ _ _ _ (show (7 : Nat) ≠ 0 by decide)]
  refine xg_aloadn 10 dX12_plan_9 rfl rfl rfl ?_
  refine xg_callV 13 12 [] _ kv_X12_isHalted ⟨_, _, rfl⟩ kl_RX12_130 dX12_plan_10 rfl (by assumption) (by omega) rfl rfl (Nat.le_of_ble_eq_true rfl) (by omega) ⟨Nat.le_refl _, Nat.le_refl _⟩ (ct_X12_isHalted hw hO) rfl ?_
  refine xg_pop 14 dX12_plan_13 rfl rfl ?_
  refine xg_aloadn 15 dX12_plan_14 rfl rfl rfl ?_
  refine xg_getP 18 kf_RX12_13 dX12_plan_15 rfl (by assumption) (by assumption) ?_
  refine xg_iconst 19 dX12_plan_18 rfl ?_
  refine xg_ialdW 20 dX12_plan_19 rfl (by assumption) (by first | omega | exact hR _ | exact ⟨hR _, by omega⟩ | exact ⟨by omega, hR _⟩ | exact ⟨hR _, hR _⟩) ?_
  rw [h3]
  refine xg_iconst 21 dX12_plan_20 rfl ?_
  refine xg_icne 28 24 dX12_plan_21 rfl rfl (by first | omega | exact hR _ | exact ⟨hR _, by omega⟩ | exact ⟨by omega, hR _⟩ | exact ⟨hR _, hR _⟩) (fun hb21 => ?_) (fun hb21 => ?_)
  · skip
    refine xg_iconst 29 dX12_plan_28 rfl ?_
    refine xg_istoren 30 _ dX12_plan_29 rfl rfl rfl (by decide) (Or.inr rfl) ?_
    refine xg_aloadn 31 dX12_plan_30 rfl rfl rfl ?_
    refine xg_getP 34 kf_RX12_13 dX12_plan_31 rfl (by assumption) (by assumption) ?_
    refine xg_iconst 35 dX12_plan_34 rfl ?_
    refine xg_iloadn 36 dX12_plan_35 rfl rfl rfl ?_
    refine xg_ifeq 43 39 dX12_plan_36 rfl rfl (by first | omega | exact hR _ | exact ⟨hR _, by omega⟩ | exact ⟨by omega, hR _⟩ | exact ⟨hR _, hR _⟩) (fun hb36 => ?_) (fun hb36 => ?_)
    · first
      | (exfalso; omega)
      | skip
        refine xg_iconst 44 dX12_plan_43 rfl ?_
        refine xg_iastW 45 dX12_plan_44 rfl (by assumption) (by first | omega | exact hR _ | exact ⟨hR _, by omega⟩ | exact ⟨by omega, hR _⟩ | exact ⟨hR _, hR _⟩) ?_
        refine xg_iloadn 46 dX12_plan_45 rfl rfl rfl ?_
        refine xg_iloadn 47 dX12_plan_46 rfl rfl rfl ?_
        refine xg_iceq 54 50 dX12_plan_47 rfl rfl (by first | omega | exact hR _ | exact ⟨hR _, by omega⟩ | exact ⟨by omega, hR _⟩ | exact ⟨hR _, hR _⟩) (fun hb47 => ?_) (fun hb47 => ?_)
        · first
          | (exfalso; omega)
          | skip
            refine xg_iconst 55 dX12_plan_54 rfl ?_
            subst hX
            exact xg_zreturn dX12_plan_55 rfl (by first | exact bI_01 _ | omega) ⟨Nat.le_refl _, Nat.le_refl _⟩ ⟨congrArg (fun v => some (J v)) (by first | rw [if_pos (by omega)] | rw [if_neg (by omega)]), _, xScr.rf, rfl⟩
        · first
          | (exfalso; omega)
          | skip
            refine xg_iconst 51 dX12_plan_50 rfl ?_
            refine xg_goto 55 dX12_plan_51 rfl ?_
            subst hX
            exact xg_zreturn dX12_plan_55 rfl (by first | exact bI_01 _ | omega) ⟨Nat.le_refl _, Nat.le_refl _⟩ ⟨congrArg (fun v => some (J v)) (by first | rw [if_pos (by omega)] | rw [if_neg (by omega)]), _, xScr.rf, rfl⟩
    · first
      | (exfalso; omega)
      | skip
        refine xg_iconst 40 dX12_plan_39 rfl ?_
        refine xg_goto 44 dX12_plan_40 rfl ?_
        refine xg_iastW 45 dX12_plan_44 rfl (by assumption) (by first | omega | exact hR _ | exact ⟨hR _, by omega⟩ | exact ⟨by omega, hR _⟩ | exact ⟨hR _, hR _⟩) ?_
        refine xg_iloadn 46 dX12_plan_45 rfl rfl rfl ?_
        refine xg_iloadn 47 dX12_plan_46 rfl rfl rfl ?_
        refine xg_iceq 54 50 dX12_plan_47 rfl rfl (by first | omega | exact hR _ | exact ⟨hR _, by omega⟩ | exact ⟨by omega, hR _⟩ | exact ⟨hR _, hR _⟩) (fun hb47 => ?_) (fun hb47 => ?_)
        · first
          | (exfalso; omega)
          | skip
            refine xg_iconst 55 dX12_plan_54 rfl ?_
            subst hX
            exact xg_zreturn dX12_plan_55 rfl (by first | exact bI_01 _ | omega) ⟨Nat.le_refl _, Nat.le_refl _⟩ ⟨congrArg (fun v => some (J v)) (by first | rw [if_pos (by omega)] | rw [if_neg (by omega)]), _, xScr.rf, rfl⟩
        · first
          | (exfalso; omega)
          | skip
            refine xg_iconst 51 dX12_plan_50 rfl ?_
            refine xg_goto 55 dX12_plan_51 rfl ?_
            subst hX
            exact xg_zreturn dX12_plan_55 rfl (by first | exact bI_01 _ | omega) ⟨Nat.le_refl _, Nat.le_refl _⟩ ⟨congrArg (fun v => some (J v)) (by first | rw [if_pos (by omega)] | rw [if_neg (by omega)]), _, xScr.rf, rfl⟩
  · skip
    refine xg_iconst 25 dX12_plan_24 rfl ?_
    refine xg_goto 29 dX12_plan_25 rfl ?_
    refine xg_istoren 30 _ dX12_plan_29 rfl rfl rfl (by decide) (Or.inr rfl) ?_
    refine xg_aloadn 31 dX12_plan_30 rfl rfl rfl ?_
    refine xg_getP 34 kf_RX12_13 dX12_plan_31 rfl (by assumption) (by assumption) ?_
    refine xg_iconst 35 dX12_plan_34 rfl ?_
    refine xg_iloadn 36 dX12_plan_35 rfl rfl rfl ?_
    refine xg_ifeq 43 39 dX12_plan_36 rfl rfl (by first | omega | exact hR _ | exact ⟨hR _, by omega⟩ | exact ⟨by omega, hR _⟩ | exact ⟨hR _, hR _⟩) (fun hb36 => ?_) (fun hb36 => ?_)
    · first
      | (exfalso; omega)
      | skip
        refine xg_iconst 44 dX12_plan_43 rfl ?_
        refine xg_iastW 45 dX12_plan_44 rfl (by assumption) (by first | omega | exact hR _ | exact ⟨hR _, by omega⟩ | exact ⟨by omega, hR _⟩ | exact ⟨hR _, hR _⟩) ?_
        refine xg_iloadn 46 dX12_plan_45 rfl rfl rfl ?_
        refine xg_iloadn 47 dX12_plan_46 rfl rfl rfl ?_
        refine xg_iceq 54 50 dX12_plan_47 rfl rfl (by first | omega | exact hR _ | exact ⟨hR _, by omega⟩ | exact ⟨by omega, hR _⟩ | exact ⟨hR _, hR _⟩) (fun hb47 => ?_) (fun hb47 => ?_)
        · first
          | (exfalso; omega)
          | skip
            refine xg_iconst 55 dX12_plan_54 rfl ?_
            subst hX
            exact xg_zreturn dX12_plan_55 rfl (by first | exact bI_01 _ | omega) ⟨Nat.le_refl _, Nat.le_refl _⟩ ⟨congrArg (fun v => some (J v)) (by first | rw [if_pos (by omega)] | rw [if_neg (by omega)]), _, xScr.rf, rfl⟩
        · first
          | (exfalso; omega)
          | skip
            refine xg_iconst 51 dX12_plan_50 rfl ?_
            refine xg_goto 55 dX12_plan_51 rfl ?_
            subst hX
            exact xg_zreturn dX12_plan_55 rfl (by first | exact bI_01 _ | omega) ⟨Nat.le_refl _, Nat.le_refl _⟩ ⟨congrArg (fun v => some (J v)) (by first | rw [if_pos (by omega)] | rw [if_neg (by omega)]), _, xScr.rf, rfl⟩
    · first
      | (exfalso; omega)
      | skip
        refine xg_iconst 40 dX12_plan_39 rfl ?_
        refine xg_goto 44 dX12_plan_40 rfl ?_
        refine xg_iastW 45 dX12_plan_44 rfl (by assumption) (by first | omega | exact hR _ | exact ⟨hR _, by omega⟩ | exact ⟨by omega, hR _⟩ | exact ⟨hR _, hR _⟩) ?_
        refine xg_iloadn 46 dX12_plan_45 rfl rfl rfl ?_
        refine xg_iloadn 47 dX12_plan_46 rfl rfl rfl ?_
        refine xg_iceq 54 50 dX12_plan_47 rfl rfl (by first | omega | exact hR _ | exact ⟨hR _, by omega⟩ | exact ⟨by omega, hR _⟩ | exact ⟨hR _, hR _⟩) (fun hb47 => ?_) (fun hb47 => ?_)
        · first
          | (exfalso; omega)
          | skip
            refine xg_iconst 55 dX12_plan_54 rfl ?_
            subst hX
            exact xg_zreturn dX12_plan_55 rfl (by first | exact bI_01 _ | omega) ⟨Nat.le_refl _, Nat.le_refl _⟩ ⟨congrArg (fun v => some (J v)) (by first | rw [if_pos (by omega)] | rw [if_neg (by omega)]), _, xScr.rf, rfl⟩
        · first
          | (exfalso; omega)
          | skip
            refine xg_iconst 51 dX12_plan_50 rfl ?_
            refine xg_goto 55 dX12_plan_51 rfl ?_
            subst hX
            exact xg_zreturn dX12_plan_55 rfl (by first | exact bI_01 _ | omega) ⟨Nat.le_refl _, Nat.le_refl _⟩ ⟨congrArg (fun v => some (J v)) (by first | rw [if_pos (by omega)] | rw [if_neg (by omega)]), _, xScr.rf, rfl⟩

set_option maxHeartbeats 4000000 in
set_option maxRecDepth 100000 in
theorem ct_X12_plan_f {E : xE} {z : Nat} {T : Nat → Nat × Int} {F : Nat → Nat → Int} {I : Nat → Int → Int} {P : Nat → Nat → Option Nat} {Y : Nat → Int → Option Nat} {m : Nat} {w : Int → Int} (hw : wM T P m) (hO : wOk w)(h7 : 0 ≤ F m 7 ∧ F m 7 ≤ 12) : Ct E 4 mX12_plan 0 0 [.ref m, J 0] (z, T, F, upA I (m + 1) w, P, Y) (xs m (some (J (if w 3 = 0 then 0 else 1))) z T (fRem (upF F m 0 0) m) (upA I (m + 5) (sActs (I (m + 5)) w (F m 7))) (sPlan w 0) P Y) := by
  obtain ⟨⟨q0, q1, q2, q3⟩, -⟩ := id hw
  obtain ⟨hR, o0, o1, o2, o3, o4, o5, o6, oc, o13, o14, o16, o17, o18, ov⟩ := id hO
  have hN := wN_i o0.1
  have hOh := wOk_halt hO
  have h3 := sHalt_lo hO (j := 3) (by omega)
  refine Ct.of [some (.ref m), some (J 0), none] kt_X12_plan rfl (Nat.le_of_ble_eq_true rfl) rfl (fun d hd => ?_)
  generalize hX : xN E _ _ _ = X
  refine xg_aloadn 1 dX12_plan_0 rfl rfl rfl ?_
  refine xg_iconst 2 dX12_plan_1 rfl ?_
  refine xg_putI 5 kf_RX12_3 dX12_plan_2 rfl (by assumption) ?_
  refine xg_aloadn 6 dX12_plan_5 rfl rfl rfl ?_
  refine xg_callV 9 12 [] _ kv_X12_remembers ⟨_, _, rfl⟩ kl_RX12_382 dX12_plan_6 rfl (by assumption) (by omega) rfl rfl (Nat.le_of_ble_eq_true rfl) (by omega) ⟨Nat.le_refl _, Nat.le_refl _⟩ (ct_X12_remembers hw (by rw [upF_nk _ _ _ _ (show (7 : Nat) ≠ 0 by decide)]; exact h7)) rfl ?_
  rw [upF_nk _ _ _ _ (show (7 : Nat) ≠ 0 by decide)]
  refine xg_aloadn 10 dX12_plan_9 rfl rfl rfl ?_
  refine xg_callV 13 12 [] _ kv_X12_isHalted ⟨_, _, rfl⟩ kl_RX12_130 dX12_plan_10 rfl (by assumption) (by omega) rfl rfl (Nat.le_of_ble_eq_true rfl) (by omega) ⟨Nat.le_refl _, Nat.le_refl _⟩ (ct_X12_isHalted hw hO) rfl ?_
  refine xg_pop 14 dX12_plan_13 rfl rfl ?_
  refine xg_aloadn 15 dX12_plan_14 rfl rfl rfl ?_
  refine xg_getP 18 kf_RX12_13 dX12_plan_15 rfl (by assumption) (by assumption) ?_
  refine xg_iconst 19 dX12_plan_18 rfl ?_
  refine xg_ialdW 20 dX12_plan_19 rfl (by assumption) (by first | omega | exact hR _ | exact ⟨hR _, by omega⟩ | exact ⟨by omega, hR _⟩ | exact ⟨hR _, hR _⟩) ?_
  rw [h3]
  refine xg_iconst 21 dX12_plan_20 rfl ?_
  refine xg_icne 28 24 dX12_plan_21 rfl rfl (by first | omega | exact hR _ | exact ⟨hR _, by omega⟩ | exact ⟨by omega, hR _⟩ | exact ⟨hR _, hR _⟩) (fun hb21 => ?_) (fun hb21 => ?_)
  · skip
    refine xg_iconst 29 dX12_plan_28 rfl ?_
    refine xg_istoren 30 _ dX12_plan_29 rfl rfl rfl (by decide) (Or.inr rfl) ?_
    refine xg_aloadn 31 dX12_plan_30 rfl rfl rfl ?_
    refine xg_getP 34 kf_RX12_13 dX12_plan_31 rfl (by assumption) (by assumption) ?_
    refine xg_iconst 35 dX12_plan_34 rfl ?_
    refine xg_iloadn 36 dX12_plan_35 rfl rfl rfl ?_
    refine xg_ifeq 43 39 dX12_plan_36 rfl rfl (by first | omega | exact hR _ | exact ⟨hR _, by omega⟩ | exact ⟨by omega, hR _⟩ | exact ⟨hR _, hR _⟩) (fun hb36 => ?_) (fun hb36 => ?_)
    · first
      | (exfalso; omega)
      | skip
        refine xg_iconst 44 dX12_plan_43 rfl ?_
        refine xg_iastW 45 dX12_plan_44 rfl (by assumption) (by first | omega | exact hR _ | exact ⟨hR _, by omega⟩ | exact ⟨by omega, hR _⟩ | exact ⟨hR _, hR _⟩) ?_
        refine xg_iloadn 46 dX12_plan_45 rfl rfl rfl ?_
        refine xg_iloadn 47 dX12_plan_46 rfl rfl rfl ?_
        refine xg_iceq 54 50 dX12_plan_47 rfl rfl (by first | omega | exact hR _ | exact ⟨hR _, by omega⟩ | exact ⟨by omega, hR _⟩ | exact ⟨hR _, hR _⟩) (fun hb47 => ?_) (fun hb47 => ?_)
        · first
          | (exfalso; omega)
          | skip
            refine xg_iconst 55 dX12_plan_54 rfl ?_
            subst hX
            exact xg_zreturn dX12_plan_55 rfl (by first | exact bI_01 _ | omega) ⟨Nat.le_refl _, Nat.le_refl _⟩ ⟨congrArg (fun v => some (J v)) (by first | rw [if_pos (by omega)] | rw [if_neg (by omega)]), _, xScr.rf, rfl⟩
        · first
          | (exfalso; omega)
          | skip
            refine xg_iconst 51 dX12_plan_50 rfl ?_
            refine xg_goto 55 dX12_plan_51 rfl ?_
            subst hX
            exact xg_zreturn dX12_plan_55 rfl (by first | exact bI_01 _ | omega) ⟨Nat.le_refl _, Nat.le_refl _⟩ ⟨congrArg (fun v => some (J v)) (by first | rw [if_pos (by omega)] | rw [if_neg (by omega)]), _, xScr.rf, rfl⟩
    · first
      | (exfalso; omega)
      | skip
        refine xg_iconst 40 dX12_plan_39 rfl ?_
        refine xg_goto 44 dX12_plan_40 rfl ?_
        refine xg_iastW 45 dX12_plan_44 rfl (by assumption) (by first | omega | exact hR _ | exact ⟨hR _, by omega⟩ | exact ⟨by omega, hR _⟩ | exact ⟨hR _, hR _⟩) ?_
        refine xg_iloadn 46 dX12_plan_45 rfl rfl rfl ?_
        refine xg_iloadn 47 dX12_plan_46 rfl rfl rfl ?_
        refine xg_iceq 54 50 dX12_plan_47 rfl rfl (by first | omega | exact hR _ | exact ⟨hR _, by omega⟩ | exact ⟨by omega, hR _⟩ | exact ⟨hR _, hR _⟩) (fun hb47 => ?_) (fun hb47 => ?_)
        · first
          | (exfalso; omega)
          | skip
            refine xg_iconst 55 dX12_plan_54 rfl ?_
            subst hX
            exact xg_zreturn dX12_plan_55 rfl (by first | exact bI_01 _ | omega) ⟨Nat.le_refl _, Nat.le_refl _⟩ ⟨congrArg (fun v => some (J v)) (by first | rw [if_pos (by omega)] | rw [if_neg (by omega)]), _, xScr.rf, rfl⟩
        · first
          | (exfalso; omega)
          | skip
            refine xg_iconst 51 dX12_plan_50 rfl ?_
            refine xg_goto 55 dX12_plan_51 rfl ?_
            subst hX
            exact xg_zreturn dX12_plan_55 rfl (by first | exact bI_01 _ | omega) ⟨Nat.le_refl _, Nat.le_refl _⟩ ⟨congrArg (fun v => some (J v)) (by first | rw [if_pos (by omega)] | rw [if_neg (by omega)]), _, xScr.rf, rfl⟩
  · skip
    refine xg_iconst 25 dX12_plan_24 rfl ?_
    refine xg_goto 29 dX12_plan_25 rfl ?_
    refine xg_istoren 30 _ dX12_plan_29 rfl rfl rfl (by decide) (Or.inr rfl) ?_
    refine xg_aloadn 31 dX12_plan_30 rfl rfl rfl ?_
    refine xg_getP 34 kf_RX12_13 dX12_plan_31 rfl (by assumption) (by assumption) ?_
    refine xg_iconst 35 dX12_plan_34 rfl ?_
    refine xg_iloadn 36 dX12_plan_35 rfl rfl rfl ?_
    refine xg_ifeq 43 39 dX12_plan_36 rfl rfl (by first | omega | exact hR _ | exact ⟨hR _, by omega⟩ | exact ⟨by omega, hR _⟩ | exact ⟨hR _, hR _⟩) (fun hb36 => ?_) (fun hb36 => ?_)
    · first
      | (exfalso; omega)
      | skip
        refine xg_iconst 44 dX12_plan_43 rfl ?_
        refine xg_iastW 45 dX12_plan_44 rfl (by assumption) (by first | omega | exact hR _ | exact ⟨hR _, by omega⟩ | exact ⟨by omega, hR _⟩ | exact ⟨hR _, hR _⟩) ?_
        refine xg_iloadn 46 dX12_plan_45 rfl rfl rfl ?_
        refine xg_iloadn 47 dX12_plan_46 rfl rfl rfl ?_
        refine xg_iceq 54 50 dX12_plan_47 rfl rfl (by first | omega | exact hR _ | exact ⟨hR _, by omega⟩ | exact ⟨by omega, hR _⟩ | exact ⟨hR _, hR _⟩) (fun hb47 => ?_) (fun hb47 => ?_)
        · first
          | (exfalso; omega)
          | skip
            refine xg_iconst 55 dX12_plan_54 rfl ?_
            subst hX
            exact xg_zreturn dX12_plan_55 rfl (by first | exact bI_01 _ | omega) ⟨Nat.le_refl _, Nat.le_refl _⟩ ⟨congrArg (fun v => some (J v)) (by first | rw [if_pos (by omega)] | rw [if_neg (by omega)]), _, xScr.rf, rfl⟩
        · first
          | (exfalso; omega)
          | skip
            refine xg_iconst 51 dX12_plan_50 rfl ?_
            refine xg_goto 55 dX12_plan_51 rfl ?_
            subst hX
            exact xg_zreturn dX12_plan_55 rfl (by first | exact bI_01 _ | omega) ⟨Nat.le_refl _, Nat.le_refl _⟩ ⟨congrArg (fun v => some (J v)) (by first | rw [if_pos (by omega)] | rw [if_neg (by omega)]), _, xScr.rf, rfl⟩
    · first
      | (exfalso; omega)
      | skip
        refine xg_iconst 40 dX12_plan_39 rfl ?_
        refine xg_goto 44 dX12_plan_40 rfl ?_
        refine xg_iastW 45 dX12_plan_44 rfl (by assumption) (by first | omega | exact hR _ | exact ⟨hR _, by omega⟩ | exact ⟨by omega, hR _⟩ | exact ⟨hR _, hR _⟩) ?_
        refine xg_iloadn 46 dX12_plan_45 rfl rfl rfl ?_
        refine xg_iloadn 47 dX12_plan_46 rfl rfl rfl ?_
        refine xg_iceq 54 50 dX12_plan_47 rfl rfl (by first | omega | exact hR _ | exact ⟨hR _, by omega⟩ | exact ⟨by omega, hR _⟩ | exact ⟨hR _, hR _⟩) (fun hb47 => ?_) (fun hb47 => ?_)
        · first
          | (exfalso; omega)
          | skip
            refine xg_iconst 55 dX12_plan_54 rfl ?_
            subst hX
            exact xg_zreturn dX12_plan_55 rfl (by first | exact bI_01 _ | omega) ⟨Nat.le_refl _, Nat.le_refl _⟩ ⟨congrArg (fun v => some (J v)) (by first | rw [if_pos (by omega)] | rw [if_neg (by omega)]), _, xScr.rf, rfl⟩
        · first
          | (exfalso; omega)
          | skip
            refine xg_iconst 51 dX12_plan_50 rfl ?_
            refine xg_goto 55 dX12_plan_51 rfl ?_
            subst hX
            exact xg_zreturn dX12_plan_55 rfl (by first | exact bI_01 _ | omega) ⟨Nat.le_refl _, Nat.le_refl _⟩ ⟨congrArg (fun v => some (J v)) (by first | rw [if_pos (by omega)] | rw [if_neg (by omega)]), _, xScr.rf, rfl⟩

