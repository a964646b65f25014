theorem xScr.acts {m : Nat} {I Ia : Nat → Int → Int} (h : xScr m I Ia) (w : Int → Int) (k : Int) : xScr m (upA I (m + 5) (sActs (I (m + 5)) w k)) (upA Ia (m + 5) (sActs (Ia (m + 5)) w k)) := by
  intro b hb
  by_cases e : b = m + 5
  · subst e; rw [upA_at, upA_at, h _ (by omega)]
  · rw [upA_na _ _ _ e, upA_na _ _ _ e]; exact h b hb
theorem wCo_back {w W u : Int → Int} (h : wHi w W) : wCo W (wCo u w 0 1903) 0 1903 = w := by
  funext j
  unfold wCo
  by_cases hj : 0 ≤ j ∧ j < 0 + 1903
  · rw [if_pos hj, if_pos (by omega)]; congr 1; omega
  · rw [if_neg hj]; exact h.2 j (by omega)
set_option maxHeartbeats 4000000 in
set_option maxRecDepth 100000 in
theorem ct_X12_work {E : xE} {z : Nat} {T : Nat → Nat × Int} {F : Nat → Nat → Int} {I : Nat → Int → Int} {P : Nat → Nat → Option Nat} {Y : Nat → Int → Option Nat} {m : Nat} {w : Int → Int} (hw : wM T P m) (hO : wOk w) (hL : wLw w) (h7 : 0 ≤ F m 7 ∧ F m 7 ≤ 12) (hb : w 16 = 1 ∨ sDM w 4 ≠ -1) : Ct E 11 mX12_work 0 0 [.ref m] (z, T, F, upA I (m + 1) w, P, Y) (xs m (some (J (sPaidD (sBeg w) 0))) z T (fRem (upF F m 0 0) m) (upA I (m + 5) (sActs (I (m + 5)) w (F m 7))) (sPaid (sBeg w) 0) P Y) := by
  obtain ⟨⟨q0, q1, q2, q3⟩, -⟩ := id hw
  obtain ⟨hR, o0, o1, o2, o3, o4, o5, o6, oc, o13, o14, o16, o17, o18, ov⟩ := id hO
  have hN := wN_i o0.1
  have hdb := sDM_bd w 4
  have hOb := wOk_beg hO
  have hLb := wLw_hi (wHi_beg hO) hL
  refine Ct.of [some (.ref m)] kt_X12_work rfl (Nat.le_of_ble_eq_true rfl) rfl (fun d hd => ?_)
  generalize hX : xN E _ _ _ = X
  refine xg_aloadn 1 dX12_work_0 rfl rfl rfl ?_
  refine xg_iconst 2 dX12_work_1 rfl ?_
  refine xg_putI 5 kf_RX12_3 dX12_work_2 rfl (by assumption) ?_
  refine xg_aloadn 6 dX12_work_5 rfl rfl rfl ?_
  refine xg_aloadn 7 dX12_work_6 rfl rfl rfl ?_
  refine xg_callV 10 12 [] _ kv_X12_isBusy ⟨_, _, rfl⟩ kl_RX12_278 dX12_work_7 rfl (by assumption) (by omega) rfl rfl (Nat.le_of_ble_eq_true rfl) (by omega) ⟨Nat.le_refl _, Nat.le_refl _⟩ (ct_X12_isBusy hw hR) rfl ?_
  refine xg_dne 25 13 dX12_work_10 rfl rfl (fun hb10 => ?_) (fun hb10 => ?_)
  · first
    | (exfalso; omega)
    | skip
      refine xg_iconst 26 dX12_work_25 rfl ?_
      refine xg_iconst 27 dX12_work_26 rfl ?_
      refine xg_callV 30 12 [_, _] _ kv_X12_throwsIf ⟨_, _, rfl⟩ kl_RX12_251 dX12_work_27 rfl (by assumption) (by omega) rfl rfl (Nat.le_of_ble_eq_true rfl) (by omega) ⟨Nat.le_refl _, Nat.le_refl _⟩ (ct_throwsF hw) rfl ?_
      refine xg_ifeq 35 33 dX12_work_30 rfl rfl (by first | omega | exact hR _ | exact ⟨hR _, by omega⟩ | exact ⟨by omega, hR _⟩ | exact ⟨hR _, hR _⟩) (fun hb30 => ?_) (fun hb30 => ?_)
      · skip
        refine xg_aloadn 36 dX12_work_35 rfl rfl rfl ?_
        refine xg_callV 39 12 [] _ kv_X12_remembers ⟨_, _, rfl⟩ kl_RX12_382 dX12_work_36 rfl (by assumption) (by omega) rfl rfl (Nat.le_of_ble_eq_true rfl) (by omega) ⟨Nat.le_refl _, Nat.le_refl _⟩ (ct_X12_remembers hw (by rw [upF_nk _ _ _ _ (show (7 : Nat) ≠ 0 by decide)]; exact h7)) rfl ?_
        rw [upF_nk _ _ _ _ (show (7 : Nat) ≠ 0 by decide)]
        refine xg_aloadn 40 dX12_work_39 rfl rfl rfl ?_
        refine xg_callVs 43 12 [] _ kv_X12_mayBegin ⟨_, _, rfl⟩ kl_RX12_355 dX12_work_40 rfl (by assumption) (by omega) rfl rfl (Nat.le_of_ble_eq_true rfl) (by omega) ⟨Nat.le_refl _, Nat.le_refl _⟩ (ct_X12_mayBegin hw hO hL) rfl (fun Ib hIb => ?_)
        refine xg_aloadn 44 dX12_work_43 rfl rfl rfl ?_
        refine xg_iconst 45 dX12_work_44 rfl ?_
        refine xg_callVs 48 12 [_] _ kv_X12_paidSlice ⟨_, _, rfl⟩ kl_RX12_361 dX12_work_45 rfl (by assumption) (by omega) rfl rfl (Nat.le_of_ble_eq_true rfl) (by omega) ⟨Nat.le_refl _, Nat.le_refl _⟩ (ct_X12_paidSlice hw hOb hLb (by omega)) rfl (fun Ic hIc => ?_)
        subst hX
        exact xg_ireturn dX12_work_48 rfl ⟨Nat.le_refl _, Nat.le_refl _⟩ ⟨rfl, Ic, hIb.tr hIc, rfl⟩
      · exfalso; omega
  · first
    | (exfalso; omega)
    | skip
      refine xg_aloadn 14 dX12_work_13 rfl rfl rfl ?_
      refine xg_callVs 17 12 [] _ kv_X12_dueMost ⟨_, _, rfl⟩ kl_RX12_309 dX12_work_14 rfl (by assumption) (by omega) rfl rfl (Nat.le_of_ble_eq_true rfl) (by omega) ⟨Nat.le_refl _, Nat.le_refl _⟩ (ct_X12_dueMost hw hO hL) rfl (fun Ia hIa => ?_)
      refine xg_iconst 18 dX12_work_17 rfl ?_
      refine xg_icne 25 21 dX12_work_18 rfl rfl (by first | omega | exact hR _ | exact ⟨hR _, by omega⟩ | exact ⟨by omega, hR _⟩ | exact ⟨hR _, hR _⟩) (fun hb18 => ?_) (fun hb18 => ?_)
      · first
        | (exfalso; omega)
        | skip
          refine xg_iconst 26 dX12_work_25 rfl ?_
          refine xg_iconst 27 dX12_work_26 rfl ?_
          refine xg_callV 30 12 [_, _] _ kv_X12_throwsIf ⟨_, _, rfl⟩ kl_RX12_251 dX12_work_27 rfl (by assumption) (by omega) rfl rfl (Nat.le_of_ble_eq_true rfl) (by omega) ⟨Nat.le_refl _, Nat.le_refl _⟩ (ct_throwsF hw) rfl ?_
          refine xg_ifeq 35 33 dX12_work_30 rfl rfl (by first | omega | exact hR _ | exact ⟨hR _, by omega⟩ | exact ⟨by omega, hR _⟩ | exact ⟨hR _, hR _⟩) (fun hb30 => ?_) (fun hb30 => ?_)
          · skip
            refine xg_aloadn 36 dX12_work_35 rfl rfl rfl ?_
            refine xg_callV 39 12 [] _ kv_X12_remembers ⟨_, _, rfl⟩ kl_RX12_382 dX12_work_36 rfl (by assumption) (by omega) rfl rfl (Nat.le_of_ble_eq_true rfl) (by omega) ⟨Nat.le_refl _, Nat.le_refl _⟩ (ct_X12_remembers hw (by rw [upF_nk _ _ _ _ (show (7 : Nat) ≠ 0 by decide)]; exact h7)) rfl ?_
            rw [upF_nk _ _ _ _ (show (7 : Nat) ≠ 0 by decide)]
            refine xg_aloadn 40 dX12_work_39 rfl rfl rfl ?_
            refine xg_callVs 43 12 [] _ kv_X12_mayBegin ⟨_, _, rfl⟩ kl_RX12_355 dX12_work_40 rfl (by assumption) (by omega) rfl rfl (Nat.le_of_ble_eq_true rfl) (by omega) ⟨Nat.le_refl _, Nat.le_refl _⟩ (ct_X12_mayBegin hw hO hL) rfl (fun Ib hIb => ?_)
            refine xg_aloadn 44 dX12_work_43 rfl rfl rfl ?_
            refine xg_iconst 45 dX12_work_44 rfl ?_
            refine xg_callVs 48 12 [_] _ kv_X12_paidSlice ⟨_, _, rfl⟩ kl_RX12_361 dX12_work_45 rfl (by assumption) (by omega) rfl rfl (Nat.le_of_ble_eq_true rfl) (by omega) ⟨Nat.le_refl _, Nat.le_refl _⟩ (ct_X12_paidSlice hw hOb hLb (by omega)) rfl (fun Ic hIc => ?_)
            subst hX
            exact xg_ireturn dX12_work_48 rfl ⟨Nat.le_refl _, Nat.le_refl _⟩ ⟨rfl, Ic, (hIa.acts w (F m 7)).tr (hIb.tr hIc), rfl⟩
          · exfalso; omega
      · first
        | (exfalso; omega)
        | skip
          refine xg_iconst 22 dX12_work_21 rfl ?_
          refine xg_goto 26 dX12_work_22 rfl ?_
          refine xg_iconst 27 dX12_work_26 rfl ?_
          refine xg_callV 30 12 [_, _] _ kv_X12_throwsIf ⟨_, _, rfl⟩ kl_RX12_251 dX12_work_27 rfl (by assumption) (by omega) rfl rfl (Nat.le_of_ble_eq_true rfl) (by omega) ⟨Nat.le_refl _, Nat.le_refl _⟩ (ct_throwsT hw) rfl ?_
          refine xg_ifeq 35 33 dX12_work_30 rfl rfl (by first | omega | exact hR _ | exact ⟨hR _, by omega⟩ | exact ⟨by omega, hR _⟩ | exact ⟨hR _, hR _⟩) (fun hb30 => ?_) (fun hb30 => ?_)
          · exfalso; omega
          · skip
            exfalso; omega

def tuneOk (a n : Int) : Prop := (a = 0 ∧ 2 ≤ n ∧ n ≤ 4) ∨ (a = 1 ∧ 2 ≤ n ∧ n ≤ 6) ∨ (a = 2 ∧ 0 ≤ n ∧ n ≤ 9)
def sTune (w : Int → Int) (a n : Int) : Int → Int := wS (if a < 2 then sHalt w else w) (4 + a) n
theorem dX12_tune_0 : decode cX12_tune 0 = .ok (.aload_n 0, 1) := by decide +kernel
theorem dX12_tune_1 : decode cX12_tune 1 = .ok (.iconst 0, 1) := by decide +kernel
theorem dX12_tune_2 : decode cX12_tune 2 = .ok (.putfield 3, 3) := by decide +kernel
theorem dX12_tune_5 : decode cX12_tune 5 = .ok (.aload_n 0, 1) := by decide +kernel
theorem dX12_tune_6 : decode cX12_tune 6 = .ok (.iload_n 1, 1) := by decide +kernel
theorem dX12_tune_7 : decode cX12_tune 7 = .ok (.iconst 0, 1) := by decide +kernel
theorem dX12_tune_8 : decode cX12_tune 8 = .ok (.iconst 2, 1) := by decide +kernel
theorem dX12_tune_9 : decode cX12_tune 9 = .ok (.invokestatic 70, 3) := by decide +kernel
theorem dX12_tune_12 : decode cX12_tune 12 = .ok (.ifCond .ne 7, 3) := by decide +kernel
theorem dX12_tune_15 : decode cX12_tune 15 = .ok (.iconst 1, 1) := by decide +kernel
theorem dX12_tune_16 : decode cX12_tune 16 = .ok (.goto 4, 3) := by decide +kernel
theorem dX12_tune_19 : decode cX12_tune 19 = .ok (.iconst 0, 1) := by decide +kernel
theorem dX12_tune_20 : decode cX12_tune 20 = .ok (.iconst 1, 1) := by decide +kernel
theorem dX12_tune_21 : decode cX12_tune 21 = .ok (.invokevirtual 251, 3) := by decide +kernel
theorem dX12_tune_24 : decode cX12_tune 24 = .ok (.ifCond .ne 53, 3) := by decide +kernel
theorem dX12_tune_27 : decode cX12_tune 27 = .ok (.aload_n 0, 1) := by decide +kernel
theorem dX12_tune_28 : decode cX12_tune 28 = .ok (.iload_n 2, 1) := by decide +kernel
theorem dX12_tune_29 : decode cX12_tune 29 = .ok (.iload_n 1, 1) := by decide +kernel
theorem dX12_tune_30 : decode cX12_tune 30 = .ok (.iconst 2, 1) := by decide +kernel
theorem dX12_tune_31 : decode cX12_tune 31 = .ok (.if_icmp .ne 7, 3) := by decide +kernel
theorem dX12_tune_34 : decode cX12_tune 34 = .ok (.iconst 0, 1) := by decide +kernel
theorem dX12_tune_35 : decode cX12_tune 35 = .ok (.goto 4, 3) := by decide +kernel
theorem dX12_tune_38 : decode cX12_tune 38 = .ok (.iconst 2, 1) := by decide +kernel
theorem dX12_tune_39 : decode cX12_tune 39 = .ok (.iload_n 1, 1) := by decide +kernel
theorem dX12_tune_40 : decode cX12_tune 40 = .ok (.ifCond .ne 7, 3) := by decide +kernel
theorem dX12_tune_43 : decode cX12_tune 43 = .ok (.iconst 4, 1) := by decide +kernel
theorem dX12_tune_44 : decode cX12_tune 44 = .ok (.goto 15, 3) := by decide +kernel
theorem dX12_tune_47 : decode cX12_tune 47 = .ok (.iload_n 1, 1) := by decide +kernel
theorem dX12_tune_48 : decode cX12_tune 48 = .ok (.iconst 1, 1) := by decide +kernel
theorem dX12_tune_49 : decode cX12_tune 49 = .ok (.if_icmp .ne 8, 3) := by decide +kernel
theorem dX12_tune_52 : decode cX12_tune 52 = .ok (.bipush 6, 2) := by decide +kernel
theorem dX12_tune_54 : decode cX12_tune 54 = .ok (.goto 5, 3) := by decide +kernel
theorem dX12_tune_57 : decode cX12_tune 57 = .ok (.bipush 9, 2) := by decide +kernel
theorem dX12_tune_59 : decode cX12_tune 59 = .ok (.invokestatic 70, 3) := by decide +kernel
theorem dX12_tune_62 : decode cX12_tune 62 = .ok (.ifCond .ne 7, 3) := by decide +kernel
theorem dX12_tune_65 : decode cX12_tune 65 = .ok (.iconst 1, 1) := by decide +kernel
theorem dX12_tune_66 : decode cX12_tune 66 = .ok (.goto 4, 3) := by decide +kernel
theorem dX12_tune_69 : decode cX12_tune 69 = .ok (.iconst 0, 1) := by decide +kernel
theorem dX12_tune_70 : decode cX12_tune 70 = .ok (.iconst 2, 1) := by decide +kernel
theorem dX12_tune_71 : decode cX12_tune 71 = .ok (.invokevirtual 251, 3) := by decide +kernel
theorem dX12_tune_74 : decode cX12_tune 74 = .ok (.ifCond .eq 5, 3) := by decide +kernel
theorem dX12_tune_77 : decode cX12_tune 77 = .ok (.iconst 0, 1) := by decide +kernel
theorem dX12_tune_78 : decode cX12_tune 78 = .ok (.ireturn, 1) := by decide +kernel
theorem dX12_tune_79 : decode cX12_tune 79 = .ok (.aload_n 0, 1) := by decide +kernel
theorem dX12_tune_80 : decode cX12_tune 80 = .ok (.invokevirtual 382, 3) := by decide +kernel
theorem dX12_tune_83 : decode cX12_tune 83 = .ok (.iload_n 1, 1) := by decide +kernel
theorem dX12_tune_84 : decode cX12_tune 84 = .ok (.iconst 2, 1) := by decide +kernel
theorem dX12_tune_85 : decode cX12_tune 85 = .ok (.if_icmp .ge 8, 3) := by decide +kernel
theorem dX12_tune_88 : decode cX12_tune 88 = .ok (.aload_n 0, 1) := by decide +kernel
theorem dX12_tune_89 : decode cX12_tune 89 = .ok (.invokevirtual 130, 3) := by decide +kernel
theorem dX12_tune_92 : decode cX12_tune 92 = .ok (.pop, 1) := by decide +kernel
theorem dX12_tune_93 : decode cX12_tune 93 = .ok (.aload_n 0, 1) := by decide +kernel
theorem dX12_tune_94 : decode cX12_tune 94 = .ok (.getfield 13, 3) := by decide +kernel
theorem dX12_tune_97 : decode cX12_tune 97 = .ok (.iconst 4, 1) := by decide +kernel
theorem dX12_tune_98 : decode cX12_tune 98 = .ok (.iload_n 1, 1) := by decide +kernel
theorem dX12_tune_99 : decode cX12_tune 99 = .ok (.iadd, 1) := by decide +kernel
theorem dX12_tune_100 : decode cX12_tune 100 = .ok (.iaload, 1) := by decide +kernel
theorem dX12_tune_101 : decode cX12_tune 101 = .ok (.istore_n 3, 1) := by decide +kernel
theorem dX12_tune_102 : decode cX12_tune 102 = .ok (.aload_n 0, 1) := by decide +kernel
theorem dX12_tune_103 : decode cX12_tune 103 = .ok (.getfield 13, 3) := by decide +kernel
theorem dX12_tune_106 : decode cX12_tune 106 = .ok (.iconst 4, 1) := by decide +kernel
theorem dX12_tune_107 : decode cX12_tune 107 = .ok (.iload_n 1, 1) := by decide +kernel
theorem dX12_tune_108 : decode cX12_tune 108 = .ok (.iadd, 1) := by decide +kernel
theorem dX12_tune_109 : decode cX12_tune 109 = .ok (.iload_n 2, 1) := by decide +kernel
theorem dX12_tune_110 : decode cX12_tune 110 = .ok (.iastore, 1) := by decide +kernel
theorem dX12_tune_111 : decode cX12_tune 111 = .ok (.iload_n 3, 1) := by decide +kernel
theorem dX12_tune_112 : decode cX12_tune 112 = .ok (.ireturn, 1) := by decide +kernel
set_option maxHeartbeats 4000000 in
set_option maxRecDepth 100000 in
theorem ct_X12_tune_t1 {E : xE} {z : Nat} {T : Nat → Nat × Int} {F : Nat → Nat → Int} {I : Nat → Int → Int} {P : Nat → Nat → Option Nat} {Y : Nat → Int → Option Nat} {m : Nat} {w : Int → Int} (hw : wM T P m) (hO : wOk w){v x : Int} (hv : -2147483648 ≤ v ∧ v < 2147483648) (hx : -2147483648 ≤ x ∧ x < 2147483648) (hb : ¬ (0 ≤ v ∧ v ≤ 2)) : Ct E 1 mX12_tune 0 0 [.ref m, J v, J x] (z, T, F, upA I (m + 1) w, P, Y) (xd (some (J 0)) (z, T, upF F m 0 1, upA I (m + 1) (w), P, Y)) := by
  obtain ⟨⟨q0, q1, q2, q3⟩, -⟩ := id hw
  obtain ⟨hR, o0, o1, o2, o3, o4, o5, o6, oc, o13, o14, o16, o17, o18, ov⟩ := id hO
  have hN := wN_i o0.1
  refine Ct.of [some (.ref m), some (J v), some (J x), none] kt_X12_tune rfl (Nat.le_of_ble_eq_true rfl) rfl (fun d hd => ?_)
  generalize hX : xN E _ _ _ = X
  refine xg_aloadn 1 dX12_tune_0 rfl rfl rfl ?_
  refine xg_iconst 2 dX12_tune_1 rfl ?_
  refine xg_putI 5 kf_RX12_3 dX12_tune_2 rfl (by assumption) ?_
  refine xg_aloadn 6 dX12_tune_5 rfl rfl rfl ?_
  refine xg_iloadn 7 dX12_tune_6 rfl rfl rfl ?_
  refine xg_iconst 8 dX12_tune_7 rfl ?_
  refine xg_iconst 9 dX12_tune_8 rfl ?_
  refine xg_callS 12 [_, _, _] _ ks_X12_in kl_RX12_70 dX12_tune_9 rfl rfl rfl (Nat.le_of_ble_eq_true rfl) (by omega) ⟨Nat.le_refl _, Nat.le_refl _⟩ (ct_X12_in (by omega)) rfl ?_
  refine xg_dne 19 15 dX12_tune_12 rfl rfl (fun hb12 => ?_) (fun hb12 => ?_)
  · first
    | (exfalso; omega)
    | skip
      refine xg_iconst 20 dX12_tune_19 rfl ?_
      refine xg_iconst 21 dX12_tune_20 rfl ?_
      refine xg_callV 24 12 [_, _] _ kv_X12_throwsIf ⟨_, _, rfl⟩ kl_RX12_251 dX12_tune_21 rfl (by assumption) (by omega) rfl rfl (Nat.le_of_ble_eq_true rfl) (by omega) ⟨Nat.le_refl _, Nat.le_refl _⟩ (ct_throwsF hw) rfl ?_
      refine xg_ifne 77 27 dX12_tune_24 rfl rfl (by first | omega | exact hR _ | exact ⟨hR _, by omega⟩ | exact ⟨by omega, hR _⟩ | exact ⟨hR _, hR _⟩) (fun hb24 => ?_) (fun hb24 => ?_)
      · exfalso; omega
      · skip
        refine xg_aloadn 28 dX12_tune_27 rfl rfl rfl ?_
        refine xg_iloadn 29 dX12_tune_28 rfl rfl rfl ?_
        refine xg_iloadn 30 dX12_tune_29 rfl rfl rfl ?_
        refine xg_iconst 31 dX12_tune_30 rfl ?_
        refine xg_icne 38 34 dX12_tune_31 rfl rfl (by first | omega | exact hR _ | exact ⟨hR _, by omega⟩ | exact ⟨by omega, hR _⟩ | exact ⟨hR _, hR _⟩) (fun hb31 => ?_) (fun hb31 => ?_)
        · first
          | (exfalso; omega)
          | skip
            refine xg_iconst 39 dX12_tune_38 rfl ?_
            refine xg_iloadn 40 dX12_tune_39 rfl rfl rfl ?_
            refine xg_ifne 47 43 dX12_tune_40 rfl rfl (by first | omega | exact hR _ | exact ⟨hR _, by omega⟩ | exact ⟨by omega, hR _⟩ | exact ⟨hR _, hR _⟩) (fun hb40 => ?_) (fun hb40 => ?_)
            · first
              | (exfalso; omega)
              | skip
                refine xg_iloadn 48 dX12_tune_47 rfl rfl rfl ?_
                refine xg_iconst 49 dX12_tune_48 rfl ?_
                refine xg_icne 57 52 dX12_tune_49 rfl rfl (by first | omega | exact hR _ | exact ⟨hR _, by omega⟩ | exact ⟨by omega, hR _⟩ | exact ⟨hR _, hR _⟩) (fun hb49 => ?_) (fun hb49 => ?_)
                · first
                  | (exfalso; omega)
                  | skip
                    refine xg_bipush 59 dX12_tune_57 rfl (by decide) ?_
                    refine xg_callS 62 [_, _, _] _ ks_X12_in kl_RX12_70 dX12_tune_59 rfl rfl rfl (Nat.le_of_ble_eq_true rfl) (by omega) ⟨Nat.le_refl _, Nat.le_refl _⟩ (ct_X12_in (by omega)) rfl ?_
                    refine xg_dne 69 65 dX12_tune_62 rfl rfl (fun hb62 => ?_) (fun hb62 => ?_)
                    · first
                      | (exfalso; omega)
                      | skip
                        refine xg_iconst 70 dX12_tune_69 rfl ?_
                        refine xg_iconst 71 dX12_tune_70 rfl ?_
                        refine xg_callV 74 12 [_, _] _ kv_X12_throwsIf ⟨_, _, rfl⟩ kl_RX12_251 dX12_tune_71 rfl (by assumption) (by omega) rfl rfl (Nat.le_of_ble_eq_true rfl) (by omega) ⟨Nat.le_refl _, Nat.le_refl _⟩ (ct_throwsF hw) rfl ?_
                        refine xg_ifeq 79 77 dX12_tune_74 rfl rfl (by first | omega | exact hR _ | exact ⟨hR _, by omega⟩ | exact ⟨by omega, hR _⟩ | exact ⟨hR _, hR _⟩) (fun hb74 => ?_) (fun hb74 => ?_)
                        · skip
                          exfalso; omega
                        · exfalso; omega
                    · first
                      | (exfalso; omega)
                      | skip
                        refine xg_iconst 66 dX12_tune_65 rfl ?_
                        refine xg_goto 70 dX12_tune_66 rfl ?_
                        refine xg_iconst 71 dX12_tune_70 rfl ?_
                        refine xg_callV 74 12 [_, _] _ kv_X12_throwsIf ⟨_, _, rfl⟩ kl_RX12_251 dX12_tune_71 rfl (by assumption) (by omega) rfl rfl (Nat.le_of_ble_eq_true rfl) (by omega) ⟨Nat.le_refl _, Nat.le_refl _⟩ (ct_throwsT hw) rfl ?_
                        refine xg_ifeq 79 77 dX12_tune_74 rfl rfl (by first | omega | exact hR _ | exact ⟨hR _, by omega⟩ | exact ⟨by omega, hR _⟩ | exact ⟨hR _, hR _⟩) (fun hb74 => ?_) (fun hb74 => ?_)
                        · exfalso; omega
                        · skip
                          refine xg_iconst 78 dX12_tune_77 rfl ?_
                          subst hX
                          exact xg_ireturn dX12_tune_78 rfl ⟨Nat.le_refl _, Nat.le_refl _⟩ ⟨rfl, by rw [upF_upF]⟩
                · first
                  | (exfalso; omega)
                  | skip
                    refine xg_bipush 54 dX12_tune_52 rfl (by decide) ?_
                    refine xg_goto 59 dX12_tune_54 rfl ?_
                    refine xg_callS 62 [_, _, _] _ ks_X12_in kl_RX12_70 dX12_tune_59 rfl rfl rfl (Nat.le_of_ble_eq_true rfl) (by omega) ⟨Nat.le_refl _, Nat.le_refl _⟩ (ct_X12_in (by omega)) rfl ?_
                    refine xg_dne 69 65 dX12_tune_62 rfl rfl (fun hb62 => ?_) (fun hb62 => ?_)
                    · first
                      | (exfalso; omega)
                      | skip
                        refine xg_iconst 70 dX12_tune_69 rfl ?_
                        refine xg_iconst 71 dX12_tune_70 rfl ?_
                        refine xg_callV 74 12 [_, _] _ kv_X12_throwsIf ⟨_, _, rfl⟩ kl_RX12_251 dX12_tune_71 rfl (by assumption) (by omega) rfl rfl (Nat.le_of_ble_eq_true rfl) (by omega) ⟨Nat.le_refl _, Nat.le_refl _⟩ (ct_throwsF hw) rfl ?_
                        refine xg_ifeq 79 77 dX12_tune_74 rfl rfl (by first | omega | exact hR _ | exact ⟨hR _, by omega⟩ | exact ⟨by omega, hR _⟩ | exact ⟨hR _, hR _⟩) (fun hb74 => ?_) (fun hb74 => ?_)
                        · skip
                          exfalso; omega
                        · exfalso; omega
                    · first
                      | (exfalso; omega)
                      | skip
                        refine xg_iconst 66 dX12_tune_65 rfl ?_
                        refine xg_goto 70 dX12_tune_66 rfl ?_
                        refine xg_iconst 71 dX12_tune_70 rfl ?_
                        refine xg_callV 74 12 [_, _] _ kv_X12_throwsIf ⟨_, _, rfl⟩ kl_RX12_251 dX12_tune_71 rfl (by assumption) (by omega) rfl rfl (Nat.le_of_ble_eq_true rfl) (by omega) ⟨Nat.le_refl _, Nat.le_refl _⟩ (ct_throwsT hw) rfl ?_
                        refine xg_ifeq 79 77 dX12_tune_74 rfl rfl (by first | omega | exact hR _ | exact ⟨hR _, by omega⟩ | exact ⟨by omega, hR _⟩ | exact ⟨hR _, hR _⟩) (fun hb74 => ?_) (fun hb74 => ?_)
                        · exfalso; omega
                        · skip
                          refine xg_iconst 78 dX12_tune_77 rfl ?_
                          subst hX
                          exact xg_ireturn dX12_tune_78 rfl ⟨Nat.le_refl _, Nat.le_refl _⟩ ⟨rfl, by rw [upF_upF]⟩
            · first
              | (exfalso; omega)
              | skip
                refine xg_iconst 44 dX12_tune_43 rfl ?_
                refine xg_goto 59 dX12_tune_44 rfl ?_
                refine xg_callS 62 [_, _, _] _ ks_X12_in kl_RX12_70 dX12_tune_59 rfl rfl rfl (Nat.le_of_ble_eq_true rfl) (by omega) ⟨Nat.le_refl _, Nat.le_refl _⟩ (ct_X12_in (by omega)) rfl ?_
                refine xg_dne 69 65 dX12_tune_62 rfl rfl (fun hb62 => ?_) (fun hb62 => ?_)
                · first
                  | (exfalso; omega)
                  | skip
                    refine xg_iconst 70 dX12_tune_69 rfl ?_
                    refine xg_iconst 71 dX12_tune_70 rfl ?_
                    refine xg_callV 74 12 [_, _] _ kv_X12_throwsIf ⟨_, _, rfl⟩ kl_RX12_251 dX12_tune_71 rfl (by assumption) (by omega) rfl rfl (Nat.le_of_ble_eq_true rfl) (by omega) ⟨Nat.le_refl _, Nat.le_refl _⟩ (ct_throwsF hw) rfl ?_
                    refine xg_ifeq 79 77 dX12_tune_74 rfl rfl (by first | omega | exact hR _ | exact ⟨hR _, by omega⟩ | exact ⟨by omega, hR _⟩ | exact ⟨hR _, hR _⟩) (fun hb74 => ?_) (fun hb74 => ?_)
                    · skip
                      exfalso; omega
                    · exfalso; omega
                · first
                  | (exfalso; omega)
                  | skip
                    refine xg_iconst 66 dX12_tune_65 rfl ?_
                    refine xg_goto 70 dX12_tune_66 rfl ?_
                    refine xg_iconst 71 dX12_tune_70 rfl ?_
                    refine xg_callV 74 12 [_, _] _ kv_X12_throwsIf ⟨_, _, rfl⟩ kl_RX12_251 dX12_tune_71 rfl (by assumption) (by omega) rfl rfl (Nat.le_of_ble_eq_true rfl) (by omega) ⟨Nat.le_refl _, Nat.le_refl _⟩ (ct_throwsT hw) rfl ?_
                    refine xg_ifeq 79 77 dX12_tune_74 rfl rfl (by first | omega | exact hR _ | exact ⟨hR _, by omega⟩ | exact ⟨by omega, hR _⟩ | exact ⟨hR _, hR _⟩) (fun hb74 => ?_) (fun hb74 => ?_)
                    · exfalso; omega
                    · skip
                      refine xg_iconst 78 dX12_tune_77 rfl ?_
                      subst hX
                      exact xg_ireturn dX12_tune_78 rfl ⟨Nat.le_refl _, Nat.le_refl _⟩ ⟨rfl, by rw [upF_upF]⟩
        · first
          | (exfalso; omega)
          | skip
            refine xg_iconst 35 dX12_tune_34 rfl ?_
            refine xg_goto 39 dX12_tune_35 rfl ?_
            refine xg_iloadn 40 dX12_tune_39 rfl rfl rfl ?_
            refine xg_ifne 47 43 dX12_tune_40 rfl rfl (by first | omega | exact hR _ | exact ⟨hR _, by omega⟩ | exact ⟨by omega, hR _⟩ | exact ⟨hR _, hR _⟩) (fun hb40 => ?_) (fun hb40 => ?_)
            · first
              | (exfalso; omega)
              | skip
                refine xg_iloadn 48 dX12_tune_47 rfl rfl rfl ?_
                refine xg_iconst 49 dX12_tune_48 rfl ?_
                refine xg_icne 57 52 dX12_tune_49 rfl rfl (by first | omega | exact hR _ | exact ⟨hR _, by omega⟩ | exact ⟨by omega, hR _⟩ | exact ⟨hR _, hR _⟩) (fun hb49 => ?_) (fun hb49 => ?_)
                · first
                  | (exfalso; omega)
                  | skip
                    refine xg_bipush 59 dX12_tune_57 rfl (by decide) ?_
                    refine xg_callS 62 [_, _, _] _ ks_X12_in kl_RX12_70 dX12_tune_59 rfl rfl rfl (Nat.le_of_ble_eq_true rfl) (by omega) ⟨Nat.le_refl _, Nat.le_refl _⟩ (ct_X12_in (by omega)) rfl ?_
                    refine xg_dne 69 65 dX12_tune_62 rfl rfl (fun hb62 => ?_) (fun hb62 => ?_)
                    · first
                      | (exfalso; omega)
                      | skip
                        refine xg_iconst 70 dX12_tune_69 rfl ?_
                        refine xg_iconst 71 dX12_tune_70 rfl ?_
                        refine xg_callV 74 12 [_, _] _ kv_X12_throwsIf ⟨_, _, rfl⟩ kl_RX12_251 dX12_tune_71 rfl (by assumption) (by omega) rfl rfl (Nat.le_of_ble_eq_true rfl) (by omega) ⟨Nat.le_refl _, Nat.le_refl _⟩ (ct_throwsF hw) rfl ?_
                        refine xg_ifeq 79 77 dX12_tune_74 rfl rfl (by first | omega | exact hR _ | exact ⟨hR _, by omega⟩ | exact ⟨by omega, hR _⟩ | exact ⟨hR _, hR _⟩) (fun hb74 => ?_) (fun hb74 => ?_)
                        · skip
                          exfalso; omega
                        · exfalso; omega
                    · first
                      | (exfalso; omega)
                      | skip
                        refine xg_iconst 66 dX12_tune_65 rfl ?_
                        refine xg_goto 70 dX12_tune_66 rfl ?_
                        refine xg_iconst 71 dX12_tune_70 rfl ?_
                        refine xg_callV 74 12 [_, _] _ kv_X12_throwsIf ⟨_, _, rfl⟩ kl_RX12_251 dX12_tune_71 rfl (by assumption) (by omega) rfl rfl (Nat.le_of_ble_eq_true rfl) (by omega) ⟨Nat.le_refl _, Nat.le_refl _⟩ (ct_throwsT hw) rfl ?_
                        refine xg_ifeq 79 77 dX12_tune_74 rfl rfl (by first | omega | exact hR _ | exact ⟨hR _, by omega⟩ | exact ⟨by omega, hR _⟩ | exact ⟨hR _, hR _⟩) (fun hb74 => ?_) (fun hb74 => ?_)
                        · exfalso; omega
                        · skip
                          refine xg_iconst 78 dX12_tune_77 rfl ?_
                          subst hX
                          exact xg_ireturn dX12_tune_78 rfl ⟨Nat.le_refl _, Nat.le_refl _⟩ ⟨rfl, by rw [upF_upF]⟩
                · first
                  | (exfalso; omega)
                  | skip
                    refine xg_bipush 54 dX12_tune_52 rfl (by decide) ?_
                    refine xg_goto 59 dX12_tune_54 rfl ?_
                    refine xg_callS 62 [_, _, _] _ ks_X12_in kl_RX12_70 dX12_tune_59 rfl rfl rfl (Nat.le_of_ble_eq_true rfl) (by omega) ⟨Nat.le_refl _, Nat.le_refl _⟩ (ct_X12_in (by omega)) rfl ?_
                    refine xg_dne 69 65 dX12_tune_62 rfl rfl (fun hb62 => ?_) (fun hb62 => ?_)
                    · first
                      | (exfalso; omega)
                      | skip
                        refine xg_iconst 70 dX12_tune_69 rfl ?_
                        refine xg_iconst 71 dX12_tune_70 rfl ?_
                        refine xg_callV 74 12 [_, _] _ kv_X12_throwsIf ⟨_, _, rfl⟩ kl_RX12_251 dX12_tune_71 rfl (by assumption) (by omega) rfl rfl (Nat.le_of_ble_eq_true rfl) (by omega) ⟨Nat.le_refl _, Nat.le_refl _⟩ (ct_throwsF hw) rfl ?_
                        refine xg_ifeq 79 77 dX12_tune_74 rfl rfl (by first | omega | exact hR _ | exact ⟨hR _, by omega⟩ | exact ⟨by omega, hR _⟩ | exact ⟨hR _, hR _⟩) (fun hb74 => ?_) (fun hb74 => ?_)
                        · skip
                          exfalso; omega
                        · exfalso; omega
                    · first
                      | (exfalso; omega)
                      | skip
                        refine xg_iconst 66 dX12_tune_65 rfl ?_
                        refine xg_goto 70 dX12_tune_66 rfl ?_
                        refine xg_iconst 71 dX12_tune_70 rfl ?_
                        refine xg_callV 74 12 [_, _] _ kv_X12_throwsIf ⟨_, _, rfl⟩ kl_RX12_251 dX12_tune_71 rfl (by assumption) (by omega) rfl rfl (Nat.le_of_ble_eq_true rfl) (by omega) ⟨Nat.le_refl _, Nat.le_refl _⟩ (ct_throwsT hw) rfl ?_
                        refine xg_ifeq 79 77 dX12_tune_74 rfl rfl (by first | omega | exact hR _ | exact ⟨hR _, by omega⟩ | exact ⟨by omega, hR _⟩ | exact ⟨hR _, hR _⟩) (fun hb74 => ?_) (fun hb74 => ?_)
                        · exfalso; omega
                        · skip
                          refine xg_iconst 78 dX12_tune_77 rfl ?_
                          subst hX
                          exact xg_ireturn dX12_tune_78 rfl ⟨Nat.le_refl _, Nat.le_refl _⟩ ⟨rfl, by rw [upF_upF]⟩
            · first
              | (exfalso; omega)
              | skip
                refine xg_iconst 44 dX12_tune_43 rfl ?_
                refine xg_goto 59 dX12_tune_44 rfl ?_
                refine xg_callS 62 [_, _, _] _ ks_X12_in kl_RX12_70 dX12_tune_59 rfl rfl rfl (Nat.le_of_ble_eq_true rfl) (by omega) ⟨Nat.le_refl _, Nat.le_refl _⟩ (ct_X12_in (by omega)) rfl ?_
                refine xg_dne 69 65 dX12_tune_62 rfl rfl (fun hb62 => ?_) (fun hb62 => ?_)
                · first
                  | (exfalso; omega)
                  | skip
                    refine xg_iconst 70 dX12_tune_69 rfl ?_
                    refine xg_iconst 71 dX12_tune_70 rfl ?_
                    refine xg_callV 74 12 [_, _] _ kv_X12_throwsIf ⟨_, _, rfl⟩ kl_RX12_251 dX12_tune_71 rfl (by assumption) (by omega) rfl rfl (Nat.le_of_ble_eq_true rfl) (by omega) ⟨Nat.le_refl _, Nat.le_refl _⟩ (ct_throwsF hw) rfl ?_
                    refine xg_ifeq 79 77 dX12_tune_74 rfl rfl (by first | omega | exact hR _ | exact ⟨hR _, by omega⟩ | exact ⟨by omega, hR _⟩ | exact ⟨hR _, hR _⟩) (fun hb74 => ?_) (fun hb74 => ?_)
                    · skip
                      exfalso; omega
                    · exfalso; omega
                · first
                  | (exfalso; omega)
                  | skip
                    refine xg_iconst 66 dX12_tune_65 rfl ?_
                    refine xg_goto 70 dX12_tune_66 rfl ?_
                    refine xg_iconst 71 dX12_tune_70 rfl ?_
                    refine xg_callV 74 12 [_, _] _ kv_X12_throwsIf ⟨_, _, rfl⟩ kl_RX12_251 dX12_tune_71 rfl (by assumption) (by omega) rfl rfl (Nat.le_of_ble_eq_true rfl) (by omega) ⟨Nat.le_refl _, Nat.le_refl _⟩ (ct_throwsT hw) rfl ?_
                    refine xg_ifeq 79 77 dX12_tune_74 rfl rfl (by first | omega | exact hR _ | exact ⟨hR _, by omega⟩ | exact ⟨by omega, hR _⟩ | exact ⟨hR _, hR _⟩) (fun hb74 => ?_) (fun hb74 => ?_)
                    · exfalso; omega
                    · skip
                      refine xg_iconst 78 dX12_tune_77 rfl ?_
                      subst hX
                      exact xg_ireturn dX12_tune_78 rfl ⟨Nat.le_refl _, Nat.le_refl _⟩ ⟨rfl, by rw [upF_upF]⟩
  · first
    | (exfalso; omega)
    | skip
      refine xg_iconst 16 dX12_tune_15 rfl ?_
      refine xg_goto 20 dX12_tune_16 rfl ?_
      refine xg_iconst 21 dX12_tune_20 rfl ?_
      refine xg_callV 24 12 [_, _] _ kv_X12_throwsIf ⟨_, _, rfl⟩ kl_RX12_251 dX12_tune_21 rfl (by assumption) (by omega) rfl rfl (Nat.le_of_ble_eq_true rfl) (by omega) ⟨Nat.le_refl _, Nat.le_refl _⟩ (ct_throwsT hw) rfl ?_
      refine xg_ifne 77 27 dX12_tune_24 rfl rfl (by first | omega | exact hR _ | exact ⟨hR _, by omega⟩ | exact ⟨by omega, hR _⟩ | exact ⟨hR _, hR _⟩) (fun hb24 => ?_) (fun hb24 => ?_)
      · skip
        refine xg_iconst 78 dX12_tune_77 rfl ?_
        subst hX
        exact xg_ireturn dX12_tune_78 rfl ⟨Nat.le_refl _, Nat.le_refl _⟩ ⟨rfl, by rw [upF_upF]⟩
      · exfalso; omega

set_option maxHeartbeats 4000000 in
set_option maxRecDepth 100000 in
theorem ct_X12_tune_t2 {E : xE} {z : Nat} {T : Nat → Nat × Int} {F : Nat → Nat → Int} {I : Nat → Int → Int} {P : Nat → Nat → Option Nat} {Y : Nat → Int → Option Nat} {m : Nat} {w : Int → Int} (hw : wM T P m) (hO : wOk w){v x : Int} (hv : -2147483648 ≤ v ∧ v < 2147483648) (hx : -2147483648 ≤ x ∧ x < 2147483648) (hb : (0 ≤ v ∧ v ≤ 2) ∧ ¬ tuneOk v x) : Ct E 1 mX12_tune 0 0 [.ref m, J v, J x] (z, T, F, upA I (m + 1) w, P, Y) (xd (some (J 0)) (z, T, upF F m 0 2, upA I (m + 1) (w), P, Y)) := by
  obtain ⟨⟨q0, q1, q2, q3⟩, -⟩ := id hw
  obtain ⟨hR, o0, o1, o2, o3, o4, o5, o6, oc, o13, o14, o16, o17, o18, ov⟩ := id hO
  have hN := wN_i o0.1
  unfold tuneOk at hb
  refine Ct.of [some (.ref m), some (J v), some (J x), none] kt_X12_tune rfl (Nat.le_of_ble_eq_true rfl) rfl (fun d hd => ?_)
  generalize hX : xN E _ _ _ = X
  refine xg_aloadn 1 dX12_tune_0 rfl rfl rfl ?_
  refine xg_iconst 2 dX12_tune_1 rfl ?_
  refine xg_putI 5 kf_RX12_3 dX12_tune_2 rfl (by assumption) ?_
  refine xg_aloadn 6 dX12_tune_5 rfl rfl rfl ?_
  refine xg_iloadn 7 dX12_tune_6 rfl rfl rfl ?_
  refine xg_iconst 8 dX12_tune_7 rfl ?_
  refine xg_iconst 9 dX12_tune_8 rfl ?_
  refine xg_callS 12 [_, _, _] _ ks_X12_in kl_RX12_70 dX12_tune_9 rfl rfl rfl (Nat.le_of_ble_eq_true rfl) (by omega) ⟨Nat.le_refl _, Nat.le_refl _⟩ (ct_X12_in (by omega)) rfl ?_
  refine xg_dne 19 15 dX12_tune_12 rfl rfl (fun hb12 => ?_) (fun hb12 => ?_)
  · first
    | (exfalso; omega)
    | skip
      refine xg_iconst 20 dX12_tune_19 rfl ?_
      refine xg_iconst 21 dX12_tune_20 rfl ?_
      refine xg_callV 24 12 [_, _] _ kv_X12_throwsIf ⟨_, _, rfl⟩ kl_RX12_251 dX12_tune_21 rfl (by assumption) (by omega) rfl rfl (Nat.le_of_ble_eq_true rfl) (by omega) ⟨Nat.le_refl _, Nat.le_refl _⟩ (ct_throwsF hw) rfl ?_
      refine xg_ifne 77 27 dX12_tune_24 rfl rfl (by first | omega | exact hR _ | exact ⟨hR _, by omega⟩ | exact ⟨by omega, hR _⟩ | exact ⟨hR _, hR _⟩) (fun hb24 => ?_) (fun hb24 => ?_)
      · exfalso; omega
      · skip
        refine xg_aloadn 28 dX12_tune_27 rfl rfl rfl ?_
        refine xg_iloadn 29 dX12_tune_28 rfl rfl rfl ?_
        refine xg_iloadn 30 dX12_tune_29 rfl rfl rfl ?_
        refine xg_iconst 31 dX12_tune_30 rfl ?_
        refine xg_icne 38 34 dX12_tune_31 rfl rfl (by first | omega | exact hR _ | exact ⟨hR _, by omega⟩ | exact ⟨by omega, hR _⟩ | exact ⟨hR _, hR _⟩) (fun hb31 => ?_) (fun hb31 => ?_)
        · first
          | (exfalso; omega)
          | skip
            refine xg_iconst 39 dX12_tune_38 rfl ?_
            refine xg_iloadn 40 dX12_tune_39 rfl rfl rfl ?_
            refine xg_ifne 47 43 dX12_tune_40 rfl rfl (by first | omega | exact hR _ | exact ⟨hR _, by omega⟩ | exact ⟨by omega, hR _⟩ | exact ⟨hR _, hR _⟩) (fun hb40 => ?_) (fun hb40 => ?_)
            · first
              | (exfalso; omega)
              | skip
                refine xg_iloadn 48 dX12_tune_47 rfl rfl rfl ?_
                refine xg_iconst 49 dX12_tune_48 rfl ?_
                refine xg_icne 57 52 dX12_tune_49 rfl rfl (by first | omega | exact hR _ | exact ⟨hR _, by omega⟩ | exact ⟨by omega, hR _⟩ | exact ⟨hR _, hR _⟩) (fun hb49 => ?_) (fun hb49 => ?_)
                · first
                  | (exfalso; omega)
                  | skip
                    refine xg_bipush 59 dX12_tune_57 rfl (by decide) ?_
                    refine xg_callS 62 [_, _, _] _ ks_X12_in kl_RX12_70 dX12_tune_59 rfl rfl rfl (Nat.le_of_ble_eq_true rfl) (by omega) ⟨Nat.le_refl _, Nat.le_refl _⟩ (ct_X12_in (by omega)) rfl ?_
                    refine xg_dne 69 65 dX12_tune_62 rfl rfl (fun hb62 => ?_) (fun hb62 => ?_)
                    · first
                      | (exfalso; omega)
                      | skip
                        refine xg_iconst 70 dX12_tune_69 rfl ?_
                        refine xg_iconst 71 dX12_tune_70 rfl ?_
                        refine xg_callV 74 12 [_, _] _ kv_X12_throwsIf ⟨_, _, rfl⟩ kl_RX12_251 dX12_tune_71 rfl (by assumption) (by omega) rfl rfl (Nat.le_of_ble_eq_true rfl) (by omega) ⟨Nat.le_refl _, Nat.le_refl _⟩ (ct_throwsF hw) rfl ?_
                        refine xg_ifeq 79 77 dX12_tune_74 rfl rfl (by first | omega | exact hR _ | exact ⟨hR _, by omega⟩ | exact ⟨by omega, hR _⟩ | exact ⟨hR _, hR _⟩) (fun hb74 => ?_) (fun hb74 => ?_)
                        · skip
                          exfalso; omega
                        · exfalso; omega
                    · first
                      | (exfalso; omega)
                      | skip
                        refine xg_iconst 66 dX12_tune_65 rfl ?_
                        refine xg_goto 70 dX12_tune_66 rfl ?_
                        refine xg_iconst 71 dX12_tune_70 rfl ?_
                        refine xg_callV 74 12 [_, _] _ kv_X12_throwsIf ⟨_, _, rfl⟩ kl_RX12_251 dX12_tune_71 rfl (by assumption) (by omega) rfl rfl (Nat.le_of_ble_eq_true rfl) (by omega) ⟨Nat.le_refl _, Nat.le_refl _⟩ (ct_throwsT hw) rfl ?_
                        refine xg_ifeq 79 77 dX12_tune_74 rfl rfl (by first | omega | exact hR _ | exact ⟨hR _, by omega⟩ | exact ⟨by omega, hR _⟩ | exact ⟨hR _, hR _⟩) (fun hb74 => ?_) (fun hb74 => ?_)
                        · exfalso; omega
                        · skip
                          refine xg_iconst 78 dX12_tune_77 rfl ?_
                          subst hX
                          exact xg_ireturn dX12_tune_78 rfl ⟨Nat.le_refl _, Nat.le_refl _⟩ ⟨rfl, by rw [upF_upF]⟩
                · first
                  | (exfalso; omega)
                  | skip
                    refine xg_bipush 54 dX12_tune_52 rfl (by decide) ?_
                    refine xg_goto 59 dX12_tune_54 rfl ?_
                    refine xg_callS 62 [_, _, _] _ ks_X12_in kl_RX12_70 dX12_tune_59 rfl rfl rfl (Nat.le_of_ble_eq_true rfl) (by omega) ⟨Nat.le_refl _, Nat.le_refl _⟩ (ct_X12_in (by omega)) rfl ?_
                    refine xg_dne 69 65 dX12_tune_62 rfl rfl (fun hb62 => ?_) (fun hb62 => ?_)
                    · first
                      | (exfalso; omega)
                      | skip
                        refine xg_iconst 70 dX12_tune_69 rfl ?_
                        refine xg_iconst 71 dX12_tune_70 rfl ?_
                        refine xg_callV 74 12 [_, _] _ kv_X12_throwsIf ⟨_, _, rfl⟩ kl_RX12_251 dX12_tune_71 rfl (by assumption) (by omega) rfl rfl (Nat.le_of_ble_eq_true rfl) (by omega) ⟨Nat.le_refl _, Nat.le_refl _⟩ (ct_throwsF hw) rfl ?_
                        refine xg_ifeq 79 77 dX12_tune_74 rfl rfl (by first | omega | exact hR _ | exact ⟨hR _, by omega⟩ | exact ⟨by omega, hR _⟩ | exact ⟨hR _, hR _⟩) (fun hb74 => ?_) (fun hb74 => ?_)
                        · skip
                          exfalso; omega
                        · exfalso; omega
                    · first
                      | (exfalso; omega)
                      | skip
                        refine xg_iconst 66 dX12_tune_65 rfl ?_
                        refine xg_goto 70 dX12_tune_66 rfl ?_
                        refine xg_iconst 71 dX12_tune_70 rfl ?_
                        refine xg_callV 74 12 [_, _] _ kv_X12_throwsIf ⟨_, _, rfl⟩ kl_RX12_251 dX12_tune_71 rfl (by assumption) (by omega) rfl rfl (Nat.le_of_ble_eq_true rfl) (by omega) ⟨Nat.le_refl _, Nat.le_refl _⟩ (ct_throwsT hw) rfl ?_
                        refine xg_ifeq 79 77 dX12_tune_74 rfl rfl (by first | omega | exact hR _ | exact ⟨hR _, by omega⟩ | exact ⟨by omega, hR _⟩ | exact ⟨hR _, hR _⟩) (fun hb74 => ?_) (fun hb74 => ?_)
                        · exfalso; omega
                        · skip
                          refine xg_iconst 78 dX12_tune_77 rfl ?_
                          subst hX
                          exact xg_ireturn dX12_tune_78 rfl ⟨Nat.le_refl _, Nat.le_refl _⟩ ⟨rfl, by rw [upF_upF]⟩
            · first
              | (exfalso; omega)
              | skip
                refine xg_iconst 44 dX12_tune_43 rfl ?_
                refine xg_goto 59 dX12_tune_44 rfl ?_
                refine xg_callS 62 [_, _, _] _ ks_X12_in kl_RX12_70 dX12_tune_59 rfl rfl rfl (Nat.le_of_ble_eq_true rfl) (by omega) ⟨Nat.le_refl _, Nat.le_refl _⟩ (ct_X12_in (by omega)) rfl ?_
                refine xg_dne 69 65 dX12_tune_62 rfl rfl (fun hb62 => ?_) (fun hb62 => ?_)
                · first
                  | (exfalso; omega)
                  | skip
                    refine xg_iconst 70 dX12_tune_69 rfl ?_
                    refine xg_iconst 71 dX12_tune_70 rfl ?_
                    refine xg_callV 74 12 [_, _] _ kv_X12_throwsIf ⟨_, _, rfl⟩ kl_RX12_251 dX12_tune_71 rfl (by assumption) (by omega) rfl rfl (Nat.le_of_ble_eq_true rfl) (by omega) ⟨Nat.le_refl _, Nat.le_refl _⟩ (ct_throwsF hw) rfl ?_
                    refine xg_ifeq 79 77 dX12_tune_74 rfl rfl (by first | omega | exact hR _ | exact ⟨hR _, by omega⟩ | exact ⟨by omega, hR _⟩ | exact ⟨hR _, hR _⟩) (fun hb74 => ?_) (fun hb74 => ?_)
                    · skip
                      exfalso; omega
                    · exfalso; omega
                · first
                  | (exfalso; omega)
                  | skip
                    refine xg_iconst 66 dX12_tune_65 rfl ?_
                    refine xg_goto 70 dX12_tune_66 rfl ?_
                    refine xg_iconst 71 dX12_tune_70 rfl ?_
                    refine xg_callV 74 12 [_, _] _ kv_X12_throwsIf ⟨_, _, rfl⟩ kl_RX12_251 dX12_tune_71 rfl (by assumption) (by omega) rfl rfl (Nat.le_of_ble_eq_true rfl) (by omega) ⟨Nat.le_refl _, Nat.le_refl _⟩ (ct_throwsT hw) rfl ?_
                    refine xg_ifeq 79 77 dX12_tune_74 rfl rfl (by first | omega | exact hR _ | exact ⟨hR _, by omega⟩ | exact ⟨by omega, hR _⟩ | exact ⟨hR _, hR _⟩) (fun hb74 => ?_) (fun hb74 => ?_)
                    · exfalso; omega
                    · skip
                      refine xg_iconst 78 dX12_tune_77 rfl ?_
                      subst hX
                      exact xg_ireturn dX12_tune_78 rfl ⟨Nat.le_refl _, Nat.le_refl _⟩ ⟨rfl, by rw [upF_upF]⟩
        · first
          | (exfalso; omega)
          | skip
            refine xg_iconst 35 dX12_tune_34 rfl ?_
            refine xg_goto 39 dX12_tune_35 rfl ?_
            refine xg_iloadn 40 dX12_tune_39 rfl rfl rfl ?_
            refine xg_ifne 47 43 dX12_tune_40 rfl rfl (by first | omega | exact hR _ | exact ⟨hR _, by omega⟩ | exact ⟨by omega, hR _⟩ | exact ⟨hR _, hR _⟩) (fun hb40 => ?_) (fun hb40 => ?_)
            · first
              | (exfalso; omega)
              | skip
                refine xg_iloadn 48 dX12_tune_47 rfl rfl rfl ?_
                refine xg_iconst 49 dX12_tune_48 rfl ?_
                refine xg_icne 57 52 dX12_tune_49 rfl rfl (by first | omega | exact hR _ | exact ⟨hR _, by omega⟩ | exact ⟨by omega, hR _⟩ | exact ⟨hR _, hR _⟩) (fun hb49 => ?_) (fun hb49 => ?_)
                · first
                  | (exfalso; omega)
                  | skip
                    refine xg_bipush 59 dX12_tune_57 rfl (by decide) ?_
                    refine xg_callS 62 [_, _, _] _ ks_X12_in kl_RX12_70 dX12_tune_59 rfl rfl rfl (Nat.le_of_ble_eq_true rfl) (by omega) ⟨Nat.le_refl _, Nat.le_refl _⟩ (ct_X12_in (by omega)) rfl ?_
                    refine xg_dne 69 65 dX12_tune_62 rfl rfl (fun hb62 => ?_) (fun hb62 => ?_)
                    · first
                      | (exfalso; omega)
                      | skip
                        refine xg_iconst 70 dX12_tune_69 rfl ?_
                        refine xg_iconst 71 dX12_tune_70 rfl ?_
                        refine xg_callV 74 12 [_, _] _ kv_X12_throwsIf ⟨_, _, rfl⟩ kl_RX12_251 dX12_tune_71 rfl (by assumption) (by omega) rfl rfl (Nat.le_of_ble_eq_true rfl) (by omega) ⟨Nat.le_refl _, Nat.le_refl _⟩ (ct_throwsF hw) rfl ?_
                        refine xg_ifeq 79 77 dX12_tune_74 rfl rfl (by first | omega | exact hR _ | exact ⟨hR _, by omega⟩ | exact ⟨by omega, hR _⟩ | exact ⟨hR _, hR _⟩) (fun hb74 => ?_) (fun hb74 => ?_)
                        · skip
                          exfalso; omega
                        · exfalso; omega
                    · first
                      | (exfalso; omega)
                      | skip
                        refine xg_iconst 66 dX12_tune_65 rfl ?_
                        refine xg_goto 70 dX12_tune_66 rfl ?_
                        refine xg_iconst 71 dX12_tune_70 rfl ?_
                        refine xg_callV 74 12 [_, _] _ kv_X12_throwsIf ⟨_, _, rfl⟩ kl_RX12_251 dX12_tune_71 rfl (by assumption) (by omega) rfl rfl (Nat.le_of_ble_eq_true rfl) (by omega) ⟨Nat.le_refl _, Nat.le_refl _⟩ (ct_throwsT hw) rfl ?_
                        refine xg_ifeq 79 77 dX12_tune_74 rfl rfl (by first | omega | exact hR _ | exact ⟨hR _, by omega⟩ | exact ⟨by omega, hR _⟩ | exact ⟨hR _, hR _⟩) (fun hb74 => ?_) (fun hb74 => ?_)
                        · exfalso; omega
                        · skip
                          refine xg_iconst 78 dX12_tune_77 rfl ?_
                          subst hX
                          exact xg_ireturn dX12_tune_78 rfl ⟨Nat.le_refl _, Nat.le_refl _⟩ ⟨rfl, by rw [upF_upF]⟩
                · first
                  | (exfalso; omega)
                  | skip
                    refine xg_bipush 54 dX12_tune_52 rfl (by decide) ?_
                    refine xg_goto 59 dX12_tune_54 rfl ?_
                    refine xg_callS 62 [_, _, _] _ ks_X12_in kl_RX12_70 dX12_tune_59 rfl rfl rfl (Nat.le_of_ble_eq_true rfl) (by omega) ⟨Nat.le_refl _, Nat.le_refl _⟩ (ct_X12_in (by omega)) rfl ?_
                    refine xg_dne 69 65 dX12_tune_62 rfl rfl (fun hb62 => ?_) (fun hb62 => ?_)
                    · first
                      | (exfalso; omega)
                      | skip
                        refine xg_iconst 70 dX12_tune_69 rfl ?_
                        refine xg_iconst 71 dX12_tune_70 rfl ?_
                        refine xg_callV 74 12 [_, _] _ kv_X12_throwsIf ⟨_, _, rfl⟩ kl_RX12_251 dX12_tune_71 rfl (by assumption) (by omega) rfl rfl (Nat.le_of_ble_eq_true rfl) (by omega) ⟨Nat.le_refl _, Nat.le_refl _⟩ (ct_throwsF hw) rfl ?_
                        refine xg_ifeq 79 77 dX12_tune_74 rfl rfl (by first | omega | exact hR _ | exact ⟨hR _, by omega⟩ | exact ⟨by omega, hR _⟩ | exact ⟨hR _, hR _⟩) (fun hb74 => ?_) (fun hb74 => ?_)
                        · skip
                          exfalso; omega
                        · exfalso; omega
                    · first
                      | (exfalso; omega)
                      | skip
                        refine xg_iconst 66 dX12_tune_65 rfl ?_
                        refine xg_goto 70 dX12_tune_66 rfl ?_
                        refine xg_iconst 71 dX12_tune_70 rfl ?_
                        refine xg_callV 74 12 [_, _] _ kv_X12_throwsIf ⟨_, _, rfl⟩ kl_RX12_251 dX12_tune_71 rfl (by assumption) (by omega) rfl rfl (Nat.le_of_ble_eq_true rfl) (by omega) ⟨Nat.le_refl _, Nat.le_refl _⟩ (ct_throwsT hw) rfl ?_
                        refine xg_ifeq 79 77 dX12_tune_74 rfl rfl (by first | omega | exact hR _ | exact ⟨hR _, by omega⟩ | exact ⟨by omega, hR _⟩ | exact ⟨hR _, hR _⟩) (fun hb74 => ?_) (fun hb74 => ?_)
                        · exfalso; omega
                        · skip
                          refine xg_iconst 78 dX12_tune_77 rfl ?_
                          subst hX
                          exact xg_ireturn dX12_tune_78 rfl ⟨Nat.le_refl _, Nat.le_refl _⟩ ⟨rfl, by rw [upF_upF]⟩
            · first
              | (exfalso; omega)
              | skip
                refine xg_iconst 44 dX12_tune_43 rfl ?_
                refine xg_goto 59 dX12_tune_44 rfl ?_
                refine xg_callS 62 [_, _, _] _ ks_X12_in kl_RX12_70 dX12_tune_59 rfl rfl rfl (Nat.le_of_ble_eq_true rfl) (by omega) ⟨Nat.le_refl _, Nat.le_refl _⟩ (ct_X12_in (by omega)) rfl ?_
                refine xg_dne 69 65 dX12_tune_62 rfl rfl (fun hb62 => ?_) (fun hb62 => ?_)
                · first
                  | (exfalso; omega)
                  | skip
                    refine xg_iconst 70 dX12_tune_69 rfl ?_
                    refine xg_iconst 71 dX12_tune_70 rfl ?_
                    refine xg_callV 74 12 [_, _] _ kv_X12_throwsIf ⟨_, _, rfl⟩ kl_RX12_251 dX12_tune_71 rfl (by assumption) (by omega) rfl rfl (Nat.le_of_ble_eq_true rfl) (by omega) ⟨Nat.le_refl _, Nat.le_refl _⟩ (ct_throwsF hw) rfl ?_
                    refine xg_ifeq 79 77 dX12_tune_74 rfl rfl (by first | omega | exact hR _ | exact ⟨hR _, by omega⟩ | exact ⟨by omega, hR _⟩ | exact ⟨hR _, hR _⟩) (fun hb74 => ?_) (fun hb74 => ?_)
                    · skip
                      exfalso; omega
                    · exfalso; omega
                · first
                  | (exfalso; omega)
                  | skip
                    refine xg_iconst 66 dX12_tune_65 rfl ?_
                    refine xg_goto 70 dX12_tune_66 rfl ?_
                    refine xg_iconst 71 dX12_tune_70 rfl ?_
                    refine xg_callV 74 12 [_, _] _ kv_X12_throwsIf ⟨_, _, rfl⟩ kl_RX12_251 dX12_tune_71 rfl (by assumption) (by omega) rfl rfl (Nat.le_of_ble_eq_true rfl) (by omega) ⟨Nat.le_refl _, Nat.le_refl _⟩ (ct_throwsT hw) rfl ?_
                    refine xg_ifeq 79 77 dX12_tune_74 rfl rfl (by first | omega | exact hR _ | exact ⟨hR _, by omega⟩ | exact ⟨by omega, hR _⟩ | exact ⟨hR _, hR _⟩) (fun hb74 => ?_) (fun hb74 => ?_)
                    · exfalso; omega
                    · skip
                      refine xg_iconst 78 dX12_tune_77 rfl ?_
                      subst hX
                      exact xg_ireturn dX12_tune_78 rfl ⟨Nat.le_refl _, Nat.le_refl _⟩ ⟨rfl, by rw [upF_upF]⟩
  · first
    | (exfalso; omega)
    | skip
      refine xg_iconst 16 dX12_tune_15 rfl ?_
      refine xg_goto 20 dX12_tune_16 rfl ?_
      refine xg_iconst 21 dX12_tune_20 rfl ?_
      refine xg_callV 24 12 [_, _] _ kv_X12_throwsIf ⟨_, _, rfl⟩ kl_RX12_251 dX12_tune_21 rfl (by assumption) (by omega) rfl rfl (Nat.le_of_ble_eq_true rfl) (by omega) ⟨Nat.le_refl _, Nat.le_refl _⟩ (ct_throwsT hw) rfl ?_
      refine xg_ifne 77 27 dX12_tune_24 rfl rfl (by first | omega | exact hR _ | exact ⟨hR _, by omega⟩ | exact ⟨by omega, hR _⟩ | exact ⟨hR _, hR _⟩) (fun hb24 => ?_) (fun hb24 => ?_)
      · skip
        refine xg_iconst 78 dX12_tune_77 rfl ?_
        subst hX
        exact xg_ireturn dX12_tune_78 rfl ⟨Nat.le_refl _, Nat.le_refl _⟩ ⟨rfl, by rw [upF_upF]⟩
      · exfalso; omega

set_option maxHeartbeats 4000000 in
set_option maxRecDepth 100000 in
theorem ct_X12_tune {E : xE} {z : Nat} {T : Nat → Nat × Int} {F : Nat → Nat → Int} {I : Nat → Int → Int} {P : Nat → Nat → Option Nat} {Y : Nat → Int → Option Nat} {m : Nat} {w : Int → Int} (hw : wM T P m) (hO : wOk w)(h7 : 0 ≤ F m 7 ∧ F m 7 ≤ 12) {v x : Int} (hb : tuneOk v x) : Ct E 4 mX12_tune 0 0 [.ref m, J v, J x] (z, T, F, upA I (m + 1) w, P, Y) (xs m (some (J (w (4 + v)))) z T (fRem (upF F m 0 0) m) (upA I (m + 5) (sActs (I (m + 5)) w (F m 7))) (sTune w v x) P Y) := by
  obtain ⟨⟨q0, q1, q2, q3⟩, -⟩ := id hw
  obtain ⟨hR, o0, o1, o2, o3, o4, o5, o6, oc, o13, o14, o16, o17, o18, ov⟩ := id hO
  have hN := wN_i o0.1
  unfold tuneOk at hb
  have hOh := wOk_halt hO
  have h4 := sHalt_lo hO (j := 4 + v) (by omega)
  refine Ct.of [some (.ref m), some (J v), some (J x), none] kt_X12_tune rfl (Nat.le_of_ble_eq_true rfl) rfl (fun d hd => ?_)
  generalize hX : xN E _ _ _ = X
  refine xg_aloadn 1 dX12_tune_0 rfl rfl rfl ?_
  refine xg_iconst 2 dX12_tune_1 rfl ?_
  refine xg_putI 5 kf_RX12_3 dX12_tune_2 rfl (by assumption) ?_
  refine xg_aloadn 6 dX12_tune_5 rfl rfl rfl ?_
  refine xg_iloadn 7 dX12_tune_6 rfl rfl rfl ?_
  refine xg_iconst 8 dX12_tune_7 rfl ?_
  refine xg_iconst 9 dX12_tune_8 rfl ?_
  refine xg_callS 12 [_, _, _] _ ks_X12_in kl_RX12_70 dX12_tune_9 rfl rfl rfl (Nat.le_of_ble_eq_true rfl) (by omega) ⟨Nat.le_refl _, Nat.le_refl _⟩ (ct_X12_in (by omega)) rfl ?_
  refine xg_dne 19 15 dX12_tune_12 rfl rfl (fun hb12 => ?_) (fun hb12 => ?_)
  · first
    | (exfalso; omega)
    | skip
      refine xg_iconst 20 dX12_tune_19 rfl ?_
      refine xg_iconst 21 dX12_tune_20 rfl ?_
      refine xg_callV 24 12 [_, _] _ kv_X12_throwsIf ⟨_, _, rfl⟩ kl_RX12_251 dX12_tune_21 rfl (by assumption) (by omega) rfl rfl (Nat.le_of_ble_eq_true rfl) (by omega) ⟨Nat.le_refl _, Nat.le_refl _⟩ (ct_throwsF hw) rfl ?_
      refine xg_ifne 77 27 dX12_tune_24 rfl rfl (by first | omega | exact hR _ | exact ⟨hR _, by omega⟩ | exact ⟨by omega, hR _⟩ | exact ⟨hR _, hR _⟩) (fun hb24 => ?_) (fun hb24 => ?_)
      · exfalso; omega
      · skip
        refine xg_aloadn 28 dX12_tune_27 rfl rfl rfl ?_
        refine xg_iloadn 29 dX12_tune_28 rfl rfl rfl ?_
        refine xg_iloadn 30 dX12_tune_29 rfl rfl rfl ?_
        refine xg_iconst 31 dX12_tune_30 rfl ?_
        refine xg_icne 38 34 dX12_tune_31 rfl rfl (by first | omega | exact hR _ | exact ⟨hR _, by omega⟩ | exact ⟨by omega, hR _⟩ | exact ⟨hR _, hR _⟩) (fun hb31 => ?_) (fun hb31 => ?_)
        · first
          | (exfalso; omega)
          | skip
            refine xg_iconst 39 dX12_tune_38 rfl ?_
            refine xg_iloadn 40 dX12_tune_39 rfl rfl rfl ?_
            refine xg_ifne 47 43 dX12_tune_40 rfl rfl (by first | omega | exact hR _ | exact ⟨hR _, by omega⟩ | exact ⟨by omega, hR _⟩ | exact ⟨hR _, hR _⟩) (fun hb40 => ?_) (fun hb40 => ?_)
            · first
              | (exfalso; omega)
              | skip
                refine xg_iloadn 48 dX12_tune_47 rfl rfl rfl ?_
                refine xg_iconst 49 dX12_tune_48 rfl ?_
                refine xg_icne 57 52 dX12_tune_49 rfl rfl (by first | omega | exact hR _ | exact ⟨hR _, by omega⟩ | exact ⟨by omega, hR _⟩ | exact ⟨hR _, hR _⟩) (fun hb49 => ?_) (fun hb49 => ?_)
                · first
                  | (exfalso; omega)
                  | skip
                    refine xg_bipush 59 dX12_tune_57 rfl (by decide) ?_
                    refine xg_callS 62 [_, _, _] _ ks_X12_in kl_RX12_70 dX12_tune_59 rfl rfl rfl (Nat.le_of_ble_eq_true rfl) (by omega) ⟨Nat.le_refl _, Nat.le_refl _⟩ (ct_X12_in (by omega)) rfl ?_
                    refine xg_dne 69 65 dX12_tune_62 rfl rfl (fun hb62 => ?_) (fun hb62 => ?_)
                    · first
                      | (exfalso; omega)
                      | skip
                        refine xg_iconst 70 dX12_tune_69 rfl ?_
                        refine xg_iconst 71 dX12_tune_70 rfl ?_
                        refine xg_callV 74 12 [_, _] _ kv_X12_throwsIf ⟨_, _, rfl⟩ kl_RX12_251 dX12_tune_71 rfl (by assumption) (by omega) rfl rfl (Nat.le_of_ble_eq_true rfl) (by omega) ⟨Nat.le_refl _, Nat.le_refl _⟩ (ct_throwsF hw) rfl ?_
                        refine xg_ifeq 79 77 dX12_tune_74 rfl rfl (by first | omega | exact hR _ | exact ⟨hR _, by omega⟩ | exact ⟨by omega, hR _⟩ | exact ⟨hR _, hR _⟩) (fun hb74 => ?_) (fun hb74 => ?_)
                        · skip
                          refine xg_aloadn 80 dX12_tune_79 rfl rfl rfl ?_
                          refine xg_callV 83 12 [] _ kv_X12_remembers ⟨_, _, rfl⟩ kl_RX12_382 dX12_tune_80 rfl (by assumption) (by omega) rfl rfl (Nat.le_of_ble_eq_true rfl) (by omega) ⟨Nat.le_refl _, Nat.le_refl _⟩ (ct_X12_remembers hw (by rw [upF_nk _ _ _ _ (show (7 : Nat) ≠ 0 by decide)]; exact h7)) rfl ?_
                          rw [upF_nk _ _ _ _ (show (7 : Nat) ≠ 0 by decide)]
                          refine xg_iloadn 84 dX12_tune_83 rfl rfl rfl ?_
                          refine xg_iconst 85 dX12_tune_84 rfl ?_
                          refine xg_icge 93 88 dX12_tune_85 rfl rfl (by first | omega | exact hR _ | exact ⟨hR _, by omega⟩ | exact ⟨by omega, hR _⟩ | exact ⟨hR _, hR _⟩) (fun hb85 => ?_) (fun hb85 => ?_)
                          · first
                            | (exfalso; omega)
                            | skip
                              refine xg_aloadn 94 dX12_tune_93 rfl rfl rfl ?_
                              refine xg_getP 97 kf_RX12_13 dX12_tune_94 rfl (by assumption) (by assumption) ?_
                              refine xg_iconst 98 dX12_tune_97 rfl ?_
                              refine xg_iloadn 99 dX12_tune_98 rfl rfl rfl ?_
                              refine xg_iadd 100 dX12_tune_99 rfl ?_
                              refine xg_ialdW 101 dX12_tune_100 rfl (by assumption) (by first | omega | exact hR _ | exact ⟨hR _, by omega⟩ | exact ⟨by omega, hR _⟩ | exact ⟨hR _, hR _⟩) ?_
                              refine xg_istoren 102 _ dX12_tune_101 rfl rfl rfl (by decide) (Or.inr rfl) ?_
                              refine xg_aloadn 103 dX12_tune_102 rfl rfl rfl ?_
                              refine xg_getP 106 kf_RX12_13 dX12_tune_103 rfl (by assumption) (by assumption) ?_
                              refine xg_iconst 107 dX12_tune_106 rfl ?_
                              refine xg_iloadn 108 dX12_tune_107 rfl rfl rfl ?_
                              refine xg_iadd 109 dX12_tune_108 rfl ?_
                              refine xg_iloadn 110 dX12_tune_109 rfl rfl rfl ?_
                              refine xg_iastW 111 dX12_tune_110 rfl (by assumption) (by first | omega | exact hR _ | exact ⟨hR _, by omega⟩ | exact ⟨by omega, hR _⟩ | exact ⟨hR _, hR _⟩) ?_
                              refine xg_iloadn 112 dX12_tune_111 rfl rfl rfl ?_
                              subst hX
                              exact xg_ireturn dX12_tune_112 rfl ⟨Nat.le_refl _, Nat.le_refl _⟩ ⟨by first | rfl | rw [h4], _, xScr.rf, by unfold sTune; first | (rw [if_pos (show v < 2 by omega)]; done) | (rw [if_neg (show ¬ v < 2 by omega)]; done)⟩
                          · first
                            | (exfalso; omega)
                            | skip
                              refine xg_aloadn 89 dX12_tune_88 rfl rfl rfl ?_
                              refine xg_callV 92 12 [] _ kv_X12_isHalted ⟨_, _, rfl⟩ kl_RX12_130 dX12_tune_89 rfl (by assumption) (by omega) rfl rfl (Nat.le_of_ble_eq_true rfl) (by omega) ⟨Nat.le_refl _, Nat.le_refl _⟩ (ct_X12_isHalted hw hO) rfl ?_
                              refine xg_pop 93 dX12_tune_92 rfl rfl ?_
                              refine xg_aloadn 94 dX12_tune_93 rfl rfl rfl ?_
                              refine xg_getP 97 kf_RX12_13 dX12_tune_94 rfl (by assumption) (by assumption) ?_
                              refine xg_iconst 98 dX12_tune_97 rfl ?_
                              refine xg_iloadn 99 dX12_tune_98 rfl rfl rfl ?_
                              refine xg_iadd 100 dX12_tune_99 rfl ?_
                              refine xg_ialdW 101 dX12_tune_100 rfl (by assumption) (by first | omega | exact hR _ | exact ⟨hR _, by omega⟩ | exact ⟨by omega, hR _⟩ | exact ⟨hR _, hR _⟩) ?_
                              refine xg_istoren 102 _ dX12_tune_101 rfl rfl rfl (by decide) (Or.inr rfl) ?_
                              refine xg_aloadn 103 dX12_tune_102 rfl rfl rfl ?_
                              refine xg_getP 106 kf_RX12_13 dX12_tune_103 rfl (by assumption) (by assumption) ?_
                              refine xg_iconst 107 dX12_tune_106 rfl ?_
                              refine xg_iloadn 108 dX12_tune_107 rfl rfl rfl ?_
                              refine xg_iadd 109 dX12_tune_108 rfl ?_
                              refine xg_iloadn 110 dX12_tune_109 rfl rfl rfl ?_
                              refine xg_iastW 111 dX12_tune_110 rfl (by assumption) (by first | omega | exact hR _ | exact ⟨hR _, by omega⟩ | exact ⟨by omega, hR _⟩ | exact ⟨hR _, hR _⟩) ?_
                              refine xg_iloadn 112 dX12_tune_111 rfl rfl rfl ?_
                              subst hX
                              exact xg_ireturn dX12_tune_112 rfl ⟨Nat.le_refl _, Nat.le_refl _⟩ ⟨by first | rfl | rw [h4], _, xScr.rf, by unfold sTune; first | (rw [if_pos (show v < 2 by omega)]; done) | (rw [if_neg (show ¬ v < 2 by omega)]; done)⟩
                        · exfalso; omega
                    · first
                      | (exfalso; omega)
                      | skip
                        refine xg_iconst 66 dX12_tune_65 rfl ?_
                        refine xg_goto 70 dX12_tune_66 rfl ?_
                        refine xg_iconst 71 dX12_tune_70 rfl ?_
                        refine xg_callV 74 12 [_, _] _ kv_X12_throwsIf ⟨_, _, rfl⟩ kl_RX12_251 dX12_tune_71 rfl (by assumption) (by omega) rfl rfl (Nat.le_of_ble_eq_true rfl) (by omega) ⟨Nat.le_refl _, Nat.le_refl _⟩ (ct_throwsT hw) rfl ?_
                        refine xg_ifeq 79 77 dX12_tune_74 rfl rfl (by first | omega | exact hR _ | exact ⟨hR _, by omega⟩ | exact ⟨by omega, hR _⟩ | exact ⟨hR _, hR _⟩) (fun hb74 => ?_) (fun hb74 => ?_)
                        · exfalso; omega
                        · skip
                          exfalso; omega
                · first
                  | (exfalso; omega)
                  | skip
                    refine xg_bipush 54 dX12_tune_52 rfl (by decide) ?_
                    refine xg_goto 59 dX12_tune_54 rfl ?_
                    refine xg_callS 62 [_, _, _] _ ks_X12_in kl_RX12_70 dX12_tune_59 rfl rfl rfl (Nat.le_of_ble_eq_true rfl) (by omega) ⟨Nat.le_refl _, Nat.le_refl _⟩ (ct_X12_in (by omega)) rfl ?_
                    refine xg_dne 69 65 dX12_tune_62 rfl rfl (fun hb62 => ?_) (fun hb62 => ?_)
                    · first
                      | (exfalso; omega)
                      | skip
                        refine xg_iconst 70 dX12_tune_69 rfl ?_
                        refine xg_iconst 71 dX12_tune_70 rfl ?_
                        refine xg_callV 74 12 [_, _] _ kv_X12_throwsIf ⟨_, _, rfl⟩ kl_RX12_251 dX12_tune_71 rfl (by assumption) (by omega) rfl rfl (Nat.le_of_ble_eq_true rfl) (by omega) ⟨Nat.le_refl _, Nat.le_refl _⟩ (ct_throwsF hw) rfl ?_
                        refine xg_ifeq 79 77 dX12_tune_74 rfl rfl (by first | omega | exact hR _ | exact ⟨hR _, by omega⟩ | exact ⟨by omega, hR _⟩ | exact ⟨hR _, hR _⟩) (fun hb74 => ?_) (fun hb74 => ?_)
                        · skip
                          refine xg_aloadn 80 dX12_tune_79 rfl rfl rfl ?_
                          refine xg_callV 83 12 [] _ kv_X12_remembers ⟨_, _, rfl⟩ kl_RX12_382 dX12_tune_80 rfl (by assumption) (by omega) rfl rfl (Nat.le_of_ble_eq_true rfl) (by omega) ⟨Nat.le_refl _, Nat.le_refl _⟩ (ct_X12_remembers hw (by rw [upF_nk _ _ _ _ (show (7 : Nat) ≠ 0 by decide)]; exact h7)) rfl ?_
                          rw [upF_nk _ _ _ _ (show (7 : Nat) ≠ 0 by decide)]
                          refine xg_iloadn 84 dX12_tune_83 rfl rfl rfl ?_
                          refine xg_iconst 85 dX12_tune_84 rfl ?_
                          refine xg_icge 93 88 dX12_tune_85 rfl rfl (by first | omega | exact hR _ | exact ⟨hR _, by omega⟩ | exact ⟨by omega, hR _⟩ | exact ⟨hR _, hR _⟩) (fun hb85 => ?_) (fun hb85 => ?_)
                          · first
                            | (exfalso; omega)
                            | skip
                              refine xg_aloadn 94 dX12_tune_93 rfl rfl rfl ?_
                              refine xg_getP 97 kf_RX12_13 dX12_tune_94 rfl (by assumption) (by assumption) ?_
                              refine xg_iconst 98 dX12_tune_97 rfl ?_
                              refine xg_iloadn 99 dX12_tune_98 rfl rfl rfl ?_
                              refine xg_iadd 100 dX12_tune_99 rfl ?_
                              refine xg_ialdW 101 dX12_tune_100 rfl (by assumption) (by first | omega | exact hR _ | exact ⟨hR _, by omega⟩ | exact ⟨by omega, hR _⟩ | exact ⟨hR _, hR _⟩) ?_
                              refine xg_istoren 102 _ dX12_tune_101 rfl rfl rfl (by decide) (Or.inr rfl) ?_
                              refine xg_aloadn 103 dX12_tune_102 rfl rfl rfl ?_
                              refine xg_getP 106 kf_RX12_13 dX12_tune_103 rfl (by assumption) (by assumption) ?_
                              refine xg_iconst 107 dX12_tune_106 rfl ?_
                              refine xg_iloadn 108 dX12_tune_107 rfl rfl rfl ?_
                              refine xg_iadd 109 dX12_tune_108 rfl ?_
                              refine xg_iloadn 110 dX12_tune_109 rfl rfl rfl ?_
                              refine xg_iastW 111 dX12_tune_110 rfl (by assumption) (by first | omega | exact hR _ | exact ⟨hR _, by omega⟩ | exact ⟨by omega, hR _⟩ | exact ⟨hR _, hR _⟩) ?_
                              refine xg_iloadn 112 dX12_tune_111 rfl rfl rfl ?_
                              subst hX
                              exact xg_ireturn dX12_tune_112 rfl ⟨Nat.le_refl _, Nat.le_refl _⟩ ⟨by first | rfl | rw [h4], _, xScr.rf, by unfold sTune; first | (rw [if_pos (show v < 2 by omega)]; done) | (rw [if_neg (show ¬ v < 2 by omega)]; done)⟩
                          · first
                            | (exfalso; omega)
                            | skip
                              refine xg_aloadn 89 dX12_tune_88 rfl rfl rfl ?_
                              refine xg_callV 92 12 [] _ kv_X12_isHalted ⟨_, _, rfl⟩ kl_RX12_130 dX12_tune_89 rfl (by assumption) (by omega) rfl rfl (Nat.le_of_ble_eq_true rfl) (by omega) ⟨Nat.le_refl _, Nat.le_refl _⟩ (ct_X12_isHalted hw hO) rfl ?_
                              refine xg_pop 93 dX12_tune_92 rfl rfl ?_
                              refine xg_aloadn 94 dX12_tune_93 rfl rfl rfl ?_
                              refine xg_getP 97 kf_RX12_13 dX12_tune_94 rfl (by assumption) (by assumption) ?_
                              refine xg_iconst 98 dX12_tune_97 rfl ?_
                              refine xg_iloadn 99 dX12_tune_98 rfl rfl rfl ?_
                              refine xg_iadd 100 dX12_tune_99 rfl ?_
                              refine xg_ialdW 101 dX12_tune_100 rfl (by assumption) (by first | omega | exact hR _ | exact ⟨hR _, by omega⟩ | exact ⟨by omega, hR _⟩ | exact ⟨hR _, hR _⟩) ?_
                              refine xg_istoren 102 _ dX12_tune_101 rfl rfl rfl (by decide) (Or.inr rfl) ?_
                              refine xg_aloadn 103 dX12_tune_102 rfl rfl rfl ?_
                              refine xg_getP 106 kf_RX12_13 dX12_tune_103 rfl (by assumption) (by assumption) ?_
                              refine xg_iconst 107 dX12_tune_106 rfl ?_
                              refine xg_iloadn 108 dX12_tune_107 rfl rfl rfl ?_
                              refine xg_iadd 109 dX12_tune_108 rfl ?_
                              refine xg_iloadn 110 dX12_tune_109 rfl rfl rfl ?_
                              refine xg_iastW 111 dX12_tune_110 rfl (by assumption) (by first | omega | exact hR _ | exact ⟨hR _, by omega⟩ | exact ⟨by omega, hR _⟩ | exact ⟨hR _, hR _⟩) ?_
                              refine xg_iloadn 112 dX12_tune_111 rfl rfl rfl ?_
                              subst hX
                              exact xg_ireturn dX12_tune_112 rfl ⟨Nat.le_refl _, Nat.le_refl _⟩ ⟨by first | rfl | rw [h4], _, xScr.rf, by unfold sTune; first | (rw [if_pos (show v < 2 by omega)]; done) | (rw [if_neg (show ¬ v < 2 by omega)]; done)⟩
                        · exfalso; omega
                    · first
                      | (exfalso; omega)
                      | skip
                        refine xg_iconst 66 dX12_tune_65 rfl ?_
                        refine xg_goto 70 dX12_tune_66 rfl ?_
                        refine xg_iconst 71 dX12_tune_70 rfl ?_
                        refine xg_callV 74 12 [_, _] _ kv_X12_throwsIf ⟨_, _, rfl⟩ kl_RX12_251 dX12_tune_71 rfl (by assumption) (by omega) rfl rfl (Nat.le_of_ble_eq_true rfl) (by omega) ⟨Nat.le_refl _, Nat.le_refl _⟩ (ct_throwsT hw) rfl ?_
                        refine xg_ifeq 79 77 dX12_tune_74 rfl rfl (by first | omega | exact hR _ | exact ⟨hR _, by omega⟩ | exact ⟨by omega, hR _⟩ | exact ⟨hR _, hR _⟩) (fun hb74 => ?_) (fun hb74 => ?_)
                        · exfalso; omega
                        · skip
                          exfalso; omega
            · first
              | (exfalso; omega)
              | skip
                refine xg_iconst 44 dX12_tune_43 rfl ?_
                refine xg_goto 59 dX12_tune_44 rfl ?_
                refine xg_callS 62 [_, _, _] _ ks_X12_in kl_RX12_70 dX12_tune_59 rfl rfl rfl (Nat.le_of_ble_eq_true rfl) (by omega) ⟨Nat.le_refl _, Nat.le_refl _⟩ (ct_X12_in (by omega)) rfl ?_
                refine xg_dne 69 65 dX12_tune_62 rfl rfl (fun hb62 => ?_) (fun hb62 => ?_)
                · first
                  | (exfalso; omega)
                  | skip
                    refine xg_iconst 70 dX12_tune_69 rfl ?_
                    refine xg_iconst 71 dX12_tune_70 rfl ?_
                    refine xg_callV 74 12 [_, _] _ kv_X12_throwsIf ⟨_, _, rfl⟩ kl_RX12_251 dX12_tune_71 rfl (by assumption) (by omega) rfl rfl (Nat.le_of_ble_eq_true rfl) (by omega) ⟨Nat.le_refl _, Nat.le_refl _⟩ (ct_throwsF hw) rfl ?_
                    refine xg_ifeq 79 77 dX12_tune_74 rfl rfl (by first | omega | exact hR _ | exact ⟨hR _, by omega⟩ | exact ⟨by omega, hR _⟩ | exact ⟨hR _, hR _⟩) (fun hb74 => ?_) (fun hb74 => ?_)
                    · skip
                      refine xg_aloadn 80 dX12_tune_79 rfl rfl rfl ?_
                      refine xg_callV 83 12 [] _ kv_X12_remembers ⟨_, _, rfl⟩ kl_RX12_382 dX12_tune_80 rfl (by assumption) (by omega) rfl rfl (Nat.le_of_ble_eq_true rfl) (by omega) ⟨Nat.le_refl _, Nat.le_refl _⟩ (ct_X12_remembers hw (by rw [upF_nk _ _ _ _ (show (7 : Nat) ≠ 0 by decide)]; exact h7)) rfl ?_
                      rw [upF_nk _ _ _ _ (show (7 : Nat) ≠ 0 by decide)]
                      refine xg_iloadn 84 dX12_tune_83 rfl rfl rfl ?_
                      refine xg_iconst 85 dX12_tune_84 rfl ?_
                      refine xg_icge 93 88 dX12_tune_85 rfl rfl (by first | omega | exact hR _ | exact ⟨hR _, by omega⟩ | exact ⟨by omega, hR _⟩ | exact ⟨hR _, hR _⟩) (fun hb85 => ?_) (fun hb85 => ?_)
                      · first
                        | (exfalso; omega)
                        | skip
                          refine xg_aloadn 94 dX12_tune_93 rfl rfl rfl ?_
                          refine xg_getP 97 kf_RX12_13 dX12_tune_94 rfl (by assumption) (by assumption) ?_
                          refine xg_iconst 98 dX12_tune_97 rfl ?_
                          refine xg_iloadn 99 dX12_tune_98 rfl rfl rfl ?_
                          refine xg_iadd 100 dX12_tune_99 rfl ?_
                          refine xg_ialdW 101 dX12_tune_100 rfl (by assumption) (by first | omega | exact hR _ | exact ⟨hR _, by omega⟩ | exact ⟨by omega, hR _⟩ | exact ⟨hR _, hR _⟩) ?_
                          refine xg_istoren 102 _ dX12_tune_101 rfl rfl rfl (by decide) (Or.inr rfl) ?_
                          refine xg_aloadn 103 dX12_tune_102 rfl rfl rfl ?_
                          refine xg_getP 106 kf_RX12_13 dX12_tune_103 rfl (by assumption) (by assumption) ?_
                          refine xg_iconst 107 dX12_tune_106 rfl ?_
                          refine xg_iloadn 108 dX12_tune_107 rfl rfl rfl ?_
                          refine xg_iadd 109 dX12_tune_108 rfl ?_
                          refine xg_iloadn 110 dX12_tune_109 rfl rfl rfl ?_
                          refine xg_iastW 111 dX12_tune_110 rfl (by assumption) (by first | omega | exact hR _ | exact ⟨hR _, by omega⟩ | exact ⟨by omega, hR _⟩ | exact ⟨hR _, hR _⟩) ?_
                          refine xg_iloadn 112 dX12_tune_111 rfl rfl rfl ?_
                          subst hX
                          exact xg_ireturn dX12_tune_112 rfl ⟨Nat.le_refl _, Nat.le_refl _⟩ ⟨by first | rfl | rw [h4], _, xScr.rf, by unfold sTune; first | (rw [if_pos (show v < 2 by omega)]; done) | (rw [if_neg (show ¬ v < 2 by omega)]; done)⟩
                      · first
                        | (exfalso; omega)
                        | skip
                          refine xg_aloadn 89 dX12_tune_88 rfl rfl rfl ?_
                          refine xg_callV 92 12 [] _ kv_X12_isHalted ⟨_, _, rfl⟩ kl_RX12_130 dX12_tune_89 rfl (by assumption) (by omega) rfl rfl (Nat.le_of_ble_eq_true rfl) (by omega) ⟨Nat.le_refl _, Nat.le_refl _⟩ (ct_X12_isHalted hw hO) rfl ?_
                          refine xg_pop 93 dX12_tune_92 rfl rfl ?_
                          refine xg_aloadn 94 dX12_tune_93 rfl rfl rfl ?_
                          refine xg_getP 97 kf_RX12_13 dX12_tune_94 rfl (by assumption) (by assumption) ?_
                          refine xg_iconst 98 dX12_tune_97 rfl ?_
                          refine xg_iloadn 99 dX12_tune_98 rfl rfl rfl ?_
                          refine xg_iadd 100 dX12_tune_99 rfl ?_
                          refine xg_ialdW 101 dX12_tune_100 rfl (by assumption) (by first | omega | exact hR _ | exact ⟨hR _, by omega⟩ | exact ⟨by omega, hR _⟩ | exact ⟨hR _, hR _⟩) ?_
                          refine xg_istoren 102 _ dX12_tune_101 rfl rfl rfl (by decide) (Or.inr rfl) ?_
                          refine xg_aloadn 103 dX12_tune_102 rfl rfl rfl ?_
                          refine xg_getP 106 kf_RX12_13 dX12_tune_103 rfl (by assumption) (by assumption) ?_
                          refine xg_iconst 107 dX12_tune_106 rfl ?_
                          refine xg_iloadn 108 dX12_tune_107 rfl rfl rfl ?_
                          refine xg_iadd 109 dX12_tune_108 rfl ?_
                          refine xg_iloadn 110 dX12_tune_109 rfl rfl rfl ?_
                          refine xg_iastW 111 dX12_tune_110 rfl (by assumption) (by first | omega | exact hR _ | exact ⟨hR _, by omega⟩ | exact ⟨by omega, hR _⟩ | exact ⟨hR _, hR _⟩) ?_
                          refine xg_iloadn 112 dX12_tune_111 rfl rfl rfl ?_
                          subst hX
                          exact xg_ireturn dX12_tune_112 rfl ⟨Nat.le_refl _, Nat.le_refl _⟩ ⟨by first | rfl | rw [h4], _, xScr.rf, by unfold sTune; first | (rw [if_pos (show v < 2 by omega)]; done) | (rw [if_neg (show ¬ v < 2 by omega)]; done)⟩
                    · exfalso; omega
                · first
                  | (exfalso; omega)
                  | skip
                    refine xg_iconst 66 dX12_tune_65 rfl ?_
                    refine xg_goto 70 dX12_tune_66 rfl ?_
                    refine xg_iconst 71 dX12_tune_70 rfl ?_
                    refine xg_callV 74 12 [_, _] _ kv_X12_throwsIf ⟨_, _, rfl⟩ kl_RX12_251 dX12_tune_71 rfl (by assumption) (by omega) rfl rfl (Nat.le_of_ble_eq_true rfl) (by omega) ⟨Nat.le_refl _, Nat.le_refl _⟩ (ct_throwsT hw) rfl ?_
                    refine xg_ifeq 79 77 dX12_tune_74 rfl rfl (by first | omega | exact hR _ | exact ⟨hR _, by omega⟩ | exact ⟨by omega, hR _⟩ | exact ⟨hR _, hR _⟩) (fun hb74 => ?_) (fun hb74 => ?_)
                    · exfalso; omega
                    · skip
                      exfalso; omega
        · first
          | (exfalso; omega)
          | skip
            refine xg_iconst 35 dX12_tune_34 rfl ?_
            refine xg_goto 39 dX12_tune_35 rfl ?_
            refine xg_iloadn 40 dX12_tune_39 rfl rfl rfl ?_
            refine xg_ifne 47 43 dX12_tune_40 rfl rfl (by first | omega | exact hR _ | exact ⟨hR _, by omega⟩ | exact ⟨by omega, hR _⟩ | exact ⟨hR _, hR _⟩) (fun hb40 => ?_) (fun hb40 => ?_)
            · first
              | (exfalso; omega)
              | skip
                refine xg_iloadn 48 dX12_tune_47 rfl rfl rfl ?_
                refine xg_iconst 49 dX12_tune_48 rfl ?_
                refine xg_icne 57 52 dX12_tune_49 rfl rfl (by first | omega | exact hR _ | exact ⟨hR _, by omega⟩ | exact ⟨by omega, hR _⟩ | exact ⟨hR _, hR _⟩) (fun hb49 => ?_) (fun hb49 => ?_)
                · first
                  | (exfalso; omega)
                  | skip
                    refine xg_bipush 59 dX12_tune_57 rfl (by decide) ?_
                    refine xg_callS 62 [_, _, _] _ ks_X12_in kl_RX12_70 dX12_tune_59 rfl rfl rfl (Nat.le_of_ble_eq_true rfl) (by omega) ⟨Nat.le_refl _, Nat.le_refl _⟩ (ct_X12_in (by omega)) rfl ?_
                    refine xg_dne 69 65 dX12_tune_62 rfl rfl (fun hb62 => ?_) (fun hb62 => ?_)
                    · first
                      | (exfalso; omega)
                      | skip
                        refine xg_iconst 70 dX12_tune_69 rfl ?_
                        refine xg_iconst 71 dX12_tune_70 rfl ?_
                        refine xg_callV 74 12 [_, _] _ kv_X12_throwsIf ⟨_, _, rfl⟩ kl_RX12_251 dX12_tune_71 rfl (by assumption) (by omega) rfl rfl (Nat.le_of_ble_eq_true rfl) (by omega) ⟨Nat.le_refl _, Nat.le_refl _⟩ (ct_throwsF hw) rfl ?_
                        refine xg_ifeq 79 77 dX12_tune_74 rfl rfl (by first | omega | exact hR _ | exact ⟨hR _, by omega⟩ | exact ⟨by omega, hR _⟩ | exact ⟨hR _, hR _⟩) (fun hb74 => ?_) (fun hb74 => ?_)
                        · skip
                          refine xg_aloadn 80 dX12_tune_79 rfl rfl rfl ?_
                          refine xg_callV 83 12 [] _ kv_X12_remembers ⟨_, _, rfl⟩ kl_RX12_382 dX12_tune_80 rfl (by assumption) (by omega) rfl rfl (Nat.le_of_ble_eq_true rfl) (by omega) ⟨Nat.le_refl _, Nat.le_refl _⟩ (ct_X12_remembers hw (by rw [upF_nk _ _ _ _ (show (7 : Nat) ≠ 0 by decide)]; exact h7)) rfl ?_
                          rw [upF_nk _ _ _ _ (show (7 : Nat) ≠ 0 by decide)]
                          refine xg_iloadn 84 dX12_tune_83 rfl rfl rfl ?_
                          refine xg_iconst 85 dX12_tune_84 rfl ?_
                          refine xg_icge 93 88 dX12_tune_85 rfl rfl (by first | omega | exact hR _ | exact ⟨hR _, by omega⟩ | exact ⟨by omega, hR _⟩ | exact ⟨hR _, hR _⟩) (fun hb85 => ?_) (fun hb85 => ?_)
                          · first
                            | (exfalso; omega)
                            | skip
                              refine xg_aloadn 94 dX12_tune_93 rfl rfl rfl ?_
                              refine xg_getP 97 kf_RX12_13 dX12_tune_94 rfl (by assumption) (by assumption) ?_
                              refine xg_iconst 98 dX12_tune_97 rfl ?_
                              refine xg_iloadn 99 dX12_tune_98 rfl rfl rfl ?_
                              refine xg_iadd 100 dX12_tune_99 rfl ?_
                              refine xg_ialdW 101 dX12_tune_100 rfl (by assumption) (by first | omega | exact hR _ | exact ⟨hR _, by omega⟩ | exact ⟨by omega, hR _⟩ | exact ⟨hR _, hR _⟩) ?_
                              refine xg_istoren 102 _ dX12_tune_101 rfl rfl rfl (by decide) (Or.inr rfl) ?_
                              refine xg_aloadn 103 dX12_tune_102 rfl rfl rfl ?_
                              refine xg_getP 106 kf_RX12_13 dX12_tune_103 rfl (by assumption) (by assumption) ?_
                              refine xg_iconst 107 dX12_tune_106 rfl ?_
                              refine xg_iloadn 108 dX12_tune_107 rfl rfl rfl ?_
                              refine xg_iadd 109 dX12_tune_108 rfl ?_
                              refine xg_iloadn 110 dX12_tune_109 rfl rfl rfl ?_
                              refine xg_iastW 111 dX12_tune_110 rfl (by assumption) (by first | omega | exact hR _ | exact ⟨hR _, by omega⟩ | exact ⟨by omega, hR _⟩ | exact ⟨hR _, hR _⟩) ?_
                              refine xg_iloadn 112 dX12_tune_111 rfl rfl rfl ?_
                              subst hX
                              exact xg_ireturn dX12_tune_112 rfl ⟨Nat.le_refl _, Nat.le_refl _⟩ ⟨by first | rfl | rw [h4], _, xScr.rf, by unfold sTune; first | (rw [if_pos (show v < 2 by omega)]; done) | (rw [if_neg (show ¬ v < 2 by omega)]; done)⟩
                          · first
                            | (exfalso; omega)
                            | skip
                              refine xg_aloadn 89 dX12_tune_88 rfl rfl rfl ?_
                              refine xg_callV 92 12 [] _ kv_X12_isHalted ⟨_, _, rfl⟩ kl_RX12_130 dX12_tune_89 rfl (by assumption) (by omega) rfl rfl (Nat.le_of_ble_eq_true rfl) (by omega) ⟨Nat.le_refl _, Nat.le_refl _⟩ (ct_X12_isHalted hw hO) rfl ?_
                              refine xg_pop 93 dX12_tune_92 rfl rfl ?_
                              refine xg_aloadn 94 dX12_tune_93 rfl rfl rfl ?_
                              refine xg_getP 97 kf_RX12_13 dX12_tune_94 rfl (by assumption) (by assumption) ?_
                              refine xg_iconst 98 dX12_tune_97 rfl ?_
                              refine xg_iloadn 99 dX12_tune_98 rfl rfl rfl ?_
                              refine xg_iadd 100 dX12_tune_99 rfl ?_
                              refine xg_ialdW 101 dX12_tune_100 rfl (by assumption) (by first | omega | exact hR _ | exact ⟨hR _, by omega⟩ | exact ⟨by omega, hR _⟩ | exact ⟨hR _, hR _⟩) ?_
                              refine xg_istoren 102 _ dX12_tune_101 rfl rfl rfl (by decide) (Or.inr rfl) ?_
                              refine xg_aloadn 103 dX12_tune_102 rfl rfl rfl ?_
                              refine xg_getP 106 kf_RX12_13 dX12_tune_103 rfl (by assumption) (by assumption) ?_
                              refine xg_iconst 107 dX12_tune_106 rfl ?_
                              refine xg_iloadn 108 dX12_tune_107 rfl rfl rfl ?_
                              refine xg_iadd 109 dX12_tune_108 rfl ?_
                              refine xg_iloadn 110 dX12_tune_109 rfl rfl rfl ?_
                              refine xg_iastW 111 dX12_tune_110 rfl (by assumption) (by first | omega | exact hR _ | exact ⟨hR _, by omega⟩ | exact ⟨by omega, hR _⟩ | exact ⟨hR _, hR _⟩) ?_
                              refine xg_iloadn 112 dX12_tune_111 rfl rfl rfl ?_
                              subst hX
                              exact xg_ireturn dX12_tune_112 rfl ⟨Nat.le_refl _, Nat.le_refl _⟩ ⟨by first | rfl | rw [h4], _, xScr.rf, by unfold sTune; first | (rw [if_pos (show v < 2 by omega)]; done) | (rw [if_neg (show ¬ v < 2 by omega)]; done)⟩
                        · exfalso; omega
                    · first
                      | (exfalso; omega)
                      | skip
                        refine xg_iconst 66 dX12_tune_65 rfl ?_
                        refine xg_goto 70 dX12_tune_66 rfl ?_
                        refine xg_iconst 71 dX12_tune_70 rfl ?_
                        refine xg_callV 74 12 [_, _] _ kv_X12_throwsIf ⟨_, _, rfl⟩ kl_RX12_251 dX12_tune_71 rfl (by assumption) (by omega) rfl rfl (Nat.le_of_ble_eq_true rfl) (by omega) ⟨Nat.le_refl _, Nat.le_refl _⟩ (ct_throwsT hw) rfl ?_
                        refine xg_ifeq 79 77 dX12_tune_74 rfl rfl (by first | omega | exact hR _ | exact ⟨hR _, by omega⟩ | exact ⟨by omega, hR _⟩ | exact ⟨hR _, hR _⟩) (fun hb74 => ?_) (fun hb74 => ?_)
                        · exfalso; omega
                        · skip
                          exfalso; omega
                · first
                  | (exfalso; omega)
                  | skip
                    refine xg_bipush 54 dX12_tune_52 rfl (by decide) ?_
                    refine xg_goto 59 dX12_tune_54 rfl ?_
                    refine xg_callS 62 [_, _, _] _ ks_X12_in kl_RX12_70 dX12_tune_59 rfl rfl rfl (Nat.le_of_ble_eq_true rfl) (by omega) ⟨Nat.le_refl _, Nat.le_refl _⟩ (ct_X12_in (by omega)) rfl ?_
                    refine xg_dne 69 65 dX12_tune_62 rfl rfl (fun hb62 => ?_) (fun hb62 => ?_)
                    · first
                      | (exfalso; omega)
                      | skip
                        refine xg_iconst 70 dX12_tune_69 rfl ?_
                        refine xg_iconst 71 dX12_tune_70 rfl ?_
                        refine xg_callV 74 12 [_, _] _ kv_X12_throwsIf ⟨_, _, rfl⟩ kl_RX12_251 dX12_tune_71 rfl (by assumption) (by omega) rfl rfl (Nat.le_of_ble_eq_true rfl) (by omega) ⟨Nat.le_refl _, Nat.le_refl _⟩ (ct_throwsF hw) rfl ?_
                        refine xg_ifeq 79 77 dX12_tune_74 rfl rfl (by first | omega | exact hR _ | exact ⟨hR _, by omega⟩ | exact ⟨by omega, hR _⟩ | exact ⟨hR _, hR _⟩) (fun hb74 => ?_) (fun hb74 => ?_)
                        · skip
                          refine xg_aloadn 80 dX12_tune_79 rfl rfl rfl ?_
                          refine xg_callV 83 12 [] _ kv_X12_remembers ⟨_, _, rfl⟩ kl_RX12_382 dX12_tune_80 rfl (by assumption) (by omega) rfl rfl (Nat.le_of_ble_eq_true rfl) (by omega) ⟨Nat.le_refl _, Nat.le_refl _⟩ (ct_X12_remembers hw (by rw [upF_nk _ _ _ _ (show (7 : Nat) ≠ 0 by decide)]; exact h7)) rfl ?_
                          rw [upF_nk _ _ _ _ (show (7 : Nat) ≠ 0 by decide)]
                          refine xg_iloadn 84 dX12_tune_83 rfl rfl rfl ?_
                          refine xg_iconst 85 dX12_tune_84 rfl ?_
                          refine xg_icge 93 88 dX12_tune_85 rfl rfl (by first | omega | exact hR _ | exact ⟨hR _, by omega⟩ | exact ⟨by omega, hR _⟩ | exact ⟨hR _, hR _⟩) (fun hb85 => ?_) (fun hb85 => ?_)
                          · first
                            | (exfalso; omega)
                            | skip
                              refine xg_aloadn 94 dX12_tune_93 rfl rfl rfl ?_
                              refine xg_getP 97 kf_RX12_13 dX12_tune_94 rfl (by assumption) (by assumption) ?_
                              refine xg_iconst 98 dX12_tune_97 rfl ?_
                              refine xg_iloadn 99 dX12_tune_98 rfl rfl rfl ?_
                              refine xg_iadd 100 dX12_tune_99 rfl ?_
                              refine xg_ialdW 101 dX12_tune_100 rfl (by assumption) (by first | omega | exact hR _ | exact ⟨hR _, by omega⟩ | exact ⟨by omega, hR _⟩ | exact ⟨hR _, hR _⟩) ?_
                              refine xg_istoren 102 _ dX12_tune_101 rfl rfl rfl (by decide) (Or.inr rfl) ?_
                              refine xg_aloadn 103 dX12_tune_102 rfl rfl rfl ?_
                              refine xg_getP 106 kf_RX12_13 dX12_tune_103 rfl (by assumption) (by assumption) ?_
                              refine xg_iconst 107 dX12_tune_106 rfl ?_
                              refine xg_iloadn 108 dX12_tune_107 rfl rfl rfl ?_
                              refine xg_iadd 109 dX12_tune_108 rfl ?_
                              refine xg_iloadn 110 dX12_tune_109 rfl rfl rfl ?_
                              refine xg_iastW 111 dX12_tune_110 rfl (by assumption) (by first | omega | exact hR _ | exact ⟨hR _, by omega⟩ | exact ⟨by omega, hR _⟩ | exact ⟨hR _, hR _⟩) ?_
                              refine xg_iloadn 112 dX12_tune_111 rfl rfl rfl ?_
                              subst hX
                              exact xg_ireturn dX12_tune_112 rfl ⟨Nat.le_refl _, Nat.le_refl _⟩ ⟨by first | rfl | rw [h4], _, xScr.rf, by unfold sTune; first | (rw [if_pos (show v < 2 by omega)]; done) | (rw [if_neg (show ¬ v < 2 by omega)]; done)⟩
                          · first
                            | (exfalso; omega)
                            | skip
                              refine xg_aloadn 89 dX12_tune_88 rfl rfl rfl ?_
                              refine xg_callV 92 12 [] _ kv_X12_isHalted ⟨_, _, rfl⟩ kl_RX12_130 dX12_tune_89 rfl (by assumption) (by omega) rfl rfl (Nat.le_of_ble_eq_true rfl) (by omega) ⟨Nat.le_refl _, Nat.le_refl _⟩ (ct_X12_isHalted hw hO) rfl ?_
                              refine xg_pop 93 dX12_tune_92 rfl rfl ?_
                              refine xg_aloadn 94 dX12_tune_93 rfl rfl rfl ?_
                              refine xg_getP 97 kf_RX12_13 dX12_tune_94 rfl (by assumption) (by assumption) ?_
                              refine xg_iconst 98 dX12_tune_97 rfl ?_
                              refine xg_iloadn 99 dX12_tune_98 rfl rfl rfl ?_
                              refine xg_iadd 100 dX12_tune_99 rfl ?_
                              refine xg_ialdW 101 dX12_tune_100 rfl (by assumption) (by first | omega | exact hR _ | exact ⟨hR _, by omega⟩ | exact ⟨by omega, hR _⟩ | exact ⟨hR _, hR _⟩) ?_
                              refine xg_istoren 102 _ dX12_tune_101 rfl rfl rfl (by decide) (Or.inr rfl) ?_
                              refine xg_aloadn 103 dX12_tune_102 rfl rfl rfl ?_
                              refine xg_getP 106 kf_RX12_13 dX12_tune_103 rfl (by assumption) (by assumption) ?_
                              refine xg_iconst 107 dX12_tune_106 rfl ?_
                              refine xg_iloadn 108 dX12_tune_107 rfl rfl rfl ?_
                              refine xg_iadd 109 dX12_tune_108 rfl ?_
                              refine xg_iloadn 110 dX12_tune_109 rfl rfl rfl ?_
                              refine xg_iastW 111 dX12_tune_110 rfl (by assumption) (by first | omega | exact hR _ | exact ⟨hR _, by omega⟩ | exact ⟨by omega, hR _⟩ | exact ⟨hR _, hR _⟩) ?_
                              refine xg_iloadn 112 dX12_tune_111 rfl rfl rfl ?_
                              subst hX
                              exact xg_ireturn dX12_tune_112 rfl ⟨Nat.le_refl _, Nat.le_refl _⟩ ⟨by first | rfl | rw [h4], _, xScr.rf, by unfold sTune; first | (rw [if_pos (show v < 2 by omega)]; done) | (rw [if_neg (show ¬ v < 2 by omega)]; done)⟩
                        · exfalso; omega
                    · first
                      | (exfalso; omega)
                      | skip
                        refine xg_iconst 66 dX12_tune_65 rfl ?_
                        refine xg_goto 70 dX12_tune_66 rfl ?_
                        refine xg_iconst 71 dX12_tune_70 rfl ?_
                        refine xg_callV 74 12 [_, _] _ kv_X12_throwsIf ⟨_, _, rfl⟩ kl_RX12_251 dX12_tune_71 rfl (by assumption) (by omega) rfl rfl (Nat.le_of_ble_eq_true rfl) (by omega) ⟨Nat.le_refl _, Nat.le_refl _⟩ (ct_throwsT hw) rfl ?_
                        refine xg_ifeq 79 77 dX12_tune_74 rfl rfl (by first | omega | exact hR _ | exact ⟨hR _, by omega⟩ | exact ⟨by omega, hR _⟩ | exact ⟨hR _, hR _⟩) (fun hb74 => ?_) (fun hb74 => ?_)
                        · exfalso; omega
                        · skip
                          exfalso; omega
            · first
              | (exfalso; omega)
              | skip
                refine xg_iconst 44 dX12_tune_43 rfl ?_
                refine xg_goto 59 dX12_tune_44 rfl ?_
                refine xg_callS 62 [_, _, _] _ ks_X12_in kl_RX12_70 dX12_tune_59 rfl rfl rfl (Nat.le_of_ble_eq_true rfl) (by omega) ⟨Nat.le_refl _, Nat.le_refl _⟩ (ct_X12_in (by omega)) rfl ?_
                refine xg_dne 69 65 dX12_tune_62 rfl rfl (fun hb62 => ?_) (fun hb62 => ?_)
                · first
                  | (exfalso; omega)
                  | skip
                    refine xg_iconst 70 dX12_tune_69 rfl ?_
                    refine xg_iconst 71 dX12_tune_70 rfl ?_
                    refine xg_callV 74 12 [_, _] _ kv_X12_throwsIf ⟨_, _, rfl⟩ kl_RX12_251 dX12_tune_71 rfl (by assumption) (by omega) rfl rfl (Nat.le_of_ble_eq_true rfl) (by omega) ⟨Nat.le_refl _, Nat.le_refl _⟩ (ct_throwsF hw) rfl ?_
                    refine xg_ifeq 79 77 dX12_tune_74 rfl rfl (by first | omega | exact hR _ | exact ⟨hR _, by omega⟩ | exact ⟨by omega, hR _⟩ | exact ⟨hR _, hR _⟩) (fun hb74 => ?_) (fun hb74 => ?_)
                    · skip
                      refine xg_aloadn 80 dX12_tune_79 rfl rfl rfl ?_
                      refine xg_callV 83 12 [] _ kv_X12_remembers ⟨_, _, rfl⟩ kl_RX12_382 dX12_tune_80 rfl (by assumption) (by omega) rfl rfl (Nat.le_of_ble_eq_true rfl) (by omega) ⟨Nat.le_refl _, Nat.le_refl _⟩ (ct_X12_remembers hw (by rw [upF_nk _ _ _ _ (show (7 : Nat) ≠ 0 by decide)]; exact h7)) rfl ?_
                      rw [upF_nk _ _ _ _ (show (7 : Nat) ≠ 0 by decide)]
                      refine xg_iloadn 84 dX12_tune_83 rfl rfl rfl ?_
                      refine xg_iconst 85 dX12_tune_84 rfl ?_
                      refine xg_icge 93 88 dX12_tune_85 rfl rfl (by first | omega | exact hR _ | exact ⟨hR _, by omega⟩ | exact ⟨by omega, hR _⟩ | exact ⟨hR _, hR _⟩) (fun hb85 => ?_) (fun hb85 => ?_)
                      · first
                        | (exfalso; omega)
                        | skip
                          refine xg_aloadn 94 dX12_tune_93 rfl rfl rfl ?_
                          refine xg_getP 97 kf_RX12_13 dX12_tune_94 rfl (by assumption) (by assumption) ?_
                          refine xg_iconst 98 dX12_tune_97 rfl ?_
                          refine xg_iloadn 99 dX12_tune_98 rfl rfl rfl ?_
                          refine xg_iadd 100 dX12_tune_99 rfl ?_
                          refine xg_ialdW 101 dX12_tune_100 rfl (by assumption) (by first | omega | exact hR _ | exact ⟨hR _, by omega⟩ | exact ⟨by omega, hR _⟩ | exact ⟨hR _, hR _⟩) ?_
                          refine xg_istoren 102 _ dX12_tune_101 rfl rfl rfl (by decide) (Or.inr rfl) ?_
                          refine xg_aloadn 103 dX12_tune_102 rfl rfl rfl ?_
                          refine xg_getP 106 kf_RX12_13 dX12_tune_103 rfl (by assumption) (by assumption) ?_
                          refine xg_iconst 107 dX12_tune_106 rfl ?_
                          refine xg_iloadn 108 dX12_tune_107 rfl rfl rfl ?_
                          refine xg_iadd 109 dX12_tune_108 rfl ?_
                          refine xg_iloadn 110 dX12_tune_109 rfl rfl rfl ?_
                          refine xg_iastW 111 dX12_tune_110 rfl (by assumption) (by first | omega | exact hR _ | exact ⟨hR _, by omega⟩ | exact ⟨by omega, hR _⟩ | exact ⟨hR _, hR _⟩) ?_
                          refine xg_iloadn 112 dX12_tune_111 rfl rfl rfl ?_
                          subst hX
                          exact xg_ireturn dX12_tune_112 rfl ⟨Nat.le_refl _, Nat.le_refl _⟩ ⟨by first | rfl | rw [h4], _, xScr.rf, by unfold sTune; first | (rw [if_pos (show v < 2 by omega)]; done) | (rw [if_neg (show ¬ v < 2 by omega)]; done)⟩
                      · first
                        | (exfalso; omega)
                        | skip
                          refine xg_aloadn 89 dX12_tune_88 rfl rfl rfl ?_
                          refine xg_callV 92 12 [] _ kv_X12_isHalted ⟨_, _, rfl⟩ kl_RX12_130 dX12_tune_89 rfl (by assumption) (by omega) rfl rfl (Nat.le_of_ble_eq_true rfl) (by omega) ⟨Nat.le_refl _, Nat.le_refl _⟩ (ct_X12_isHalted hw hO) rfl ?_
                          refine xg_pop 93 dX12_tune_92 rfl rfl ?_
                          refine xg_aloadn 94 dX12_tune_93 rfl rfl rfl ?_
                          refine xg_getP 97 kf_RX12_13 dX12_tune_94 rfl (by assumption) (by assumption) ?_
                          refine xg_iconst 98 dX12_tune_97 rfl ?_
                          refine xg_iloadn 99 dX12_tune_98 rfl rfl rfl ?_
                          refine xg_iadd 100 dX12_tune_99 rfl ?_
                          refine xg_ialdW 101 dX12_tune_100 rfl (by assumption) (by first | omega | exact hR _ | exact ⟨hR _, by omega⟩ | exact ⟨by omega, hR _⟩ | exact ⟨hR _, hR _⟩) ?_
                          refine xg_istoren 102 _ dX12_tune_101 rfl rfl rfl (by decide) (Or.inr rfl) ?_
                          refine xg_aloadn 103 dX12_tune_102 rfl rfl rfl ?_
                          refine xg_getP 106 kf_RX12_13 dX12_tune_103 rfl (by assumption) (by assumption) ?_
                          refine xg_iconst 107 dX12_tune_106 rfl ?_
                          refine xg_iloadn 108 dX12_tune_107 rfl rfl rfl ?_
                          refine xg_iadd 109 dX12_tune_108 rfl ?_
                          refine xg_iloadn 110 dX12_tune_109 rfl rfl rfl ?_
                          refine xg_iastW 111 dX12_tune_110 rfl (by assumption) (by first | omega | exact hR _ | exact ⟨hR _, by omega⟩ | exact ⟨by omega, hR _⟩ | exact ⟨hR _, hR _⟩) ?_
                          refine xg_iloadn 112 dX12_tune_111 rfl rfl rfl ?_
                          subst hX
                          exact xg_ireturn dX12_tune_112 rfl ⟨Nat.le_refl _, Nat.le_refl _⟩ ⟨by first | rfl | rw [h4], _, xScr.rf, by unfold sTune; first | (rw [if_pos (show v < 2 by omega)]; done) | (rw [if_neg (show ¬ v < 2 by omega)]; done)⟩
                    · exfalso; omega
                · first
                  | (exfalso; omega)
                  | skip
                    refine xg_iconst 66 dX12_tune_65 rfl ?_
                    refine xg_goto 70 dX12_tune_66 rfl ?_
                    refine xg_iconst 71 dX12_tune_70 rfl ?_
                    refine xg_callV 74 12 [_, _] _ kv_X12_throwsIf ⟨_, _, rfl⟩ kl_RX12_251 dX12_tune_71 rfl (by assumption) (by omega) rfl rfl (Nat.le_of_ble_eq_true rfl) (by omega) ⟨Nat.le_refl _, Nat.le_refl _⟩ (ct_throwsT hw) rfl ?_
                    refine xg_ifeq 79 77 dX12_tune_74 rfl rfl (by first | omega | exact hR _ | exact ⟨hR _, by omega⟩ | exact ⟨by omega, hR _⟩ | exact ⟨hR _, hR _⟩) (fun hb74 => ?_) (fun hb74 => ?_)
                    · exfalso; omega
                    · skip
                      exfalso; omega
  · first
    | (exfalso; omega)
    | skip
      refine xg_iconst 16 dX12_tune_15 rfl ?_
      refine xg_goto 20 dX12_tune_16 rfl ?_
      refine xg_iconst 21 dX12_tune_20 rfl ?_
      refine xg_callV 24 12 [_, _] _ kv_X12_throwsIf ⟨_, _, rfl⟩ kl_RX12_251 dX12_tune_21 rfl (by assumption) (by omega) rfl rfl (Nat.le_of_ble_eq_true rfl) (by omega) ⟨Nat.le_refl _, Nat.le_refl _⟩ (ct_throwsT hw) rfl ?_
      refine xg_ifne 77 27 dX12_tune_24 rfl rfl (by first | omega | exact hR _ | exact ⟨hR _, by omega⟩ | exact ⟨by omega, hR _⟩ | exact ⟨hR _, hR _⟩) (fun hb24 => ?_) (fun hb24 => ?_)
      · skip
        exfalso; omega
      · exfalso; omega

noncomputable def sAhead (w : Int → Int) (n : Nat) (b : Bool) : Int := if b = true then (sGo n (wS w 15 1)).1 0 else (sGo n (wS w 15 1)).1 10
noncomputable def sTrial (w : Int → Int) (n : Nat) (b : Bool) : Int := if b = true then sFndN (sGo n w).1 else (sGo n w).1 12
noncomputable def sSp (w : Int → Int) (n : Nat) (b : Bool) : Nat → Int
  | 0 => -1
  | k + 1 => if sSp w n b k < 0 then (sGo n (wS w 15 ((k : Int) + 1))).1 10 else if b = true then max (sSp w n b k) ((sGo n (wS w 15 ((k : Int) + 1))).1 10) else min (sSp w n b k) ((sGo n (wS w 15 ((k : Int) + 1))).1 10)
theorem wOk_s15 {w : Int → Int} (h : wOk w) {v : Int} (hv : -2147483648 ≤ v ∧ v < 2147483648) : wOk (wS w 15 v) := wOk_S h _ _ (by unfold wCell; omega)
theorem sSp_bd {w : Int → Int} (h : wOk w) (hL : wLw w) (n : Nat) (b : Bool) : ∀ k : Nat, k ≤ 6 → -1 ≤ sSp w n b k ∧ sSp w n b k ≤ 99999
  | 0, _ => by simp [sSp]
  | k + 1, hk => by
    have h1 := sSp_bd h hL n b k (by omega)
    obtain ⟨a, -⟩ := sGo_ok (wOk_s15 h (v := (k : Int) + 1) (by omega)) (wLw_hi (wHi_S w 15 _ (by omega)) hL) n
    have h10 := a.2.2.2.2.2.2.2.2.1 10 (by omega) (by omega)
    rw [sSp]
    split
    · omega
    · split <;> omega
theorem dX12_ahead_0 : decode cX12_ahead 0 = .ok (.aload_n 0, 1) := by decide +kernel
theorem dX12_ahead_1 : decode cX12_ahead 1 = .ok (.iconst 0, 1) := by decide +kernel
theorem dX12_ahead_2 : decode cX12_ahead 2 = .ok (.putfield 3, 3) := by decide +kernel
theorem dX12_ahead_5 : decode cX12_ahead 5 = .ok (.aload_n 0, 1) := by decide +kernel
theorem dX12_ahead_6 : decode cX12_ahead 6 = .ok (.iload_n 1, 1) := by decide +kernel
theorem dX12_ahead_7 : decode cX12_ahead 7 = .ok (.invokestatic 468, 3) := by decide +kernel
theorem dX12_ahead_10 : decode cX12_ahead 10 = .ok (.iconst 1, 1) := by decide +kernel
theorem dX12_ahead_11 : decode cX12_ahead 11 = .ok (.invokevirtual 251, 3) := by decide +kernel
theorem dX12_ahead_14 : decode cX12_ahead 14 = .ok (.ifCond .eq 5, 3) := by decide +kernel
theorem dX12_ahead_17 : decode cX12_ahead 17 = .ok (.iconst 0, 1) := by decide +kernel
theorem dX12_ahead_18 : decode cX12_ahead 18 = .ok (.ireturn, 1) := by decide +kernel
theorem dX12_ahead_19 : decode cX12_ahead 19 = .ok (.aload_n 0, 1) := by decide +kernel
theorem dX12_ahead_20 : decode cX12_ahead 20 = .ok (.invokevirtual 471, 3) := by decide +kernel
theorem dX12_ahead_23 : decode cX12_ahead 23 = .ok (.aload_n 0, 1) := by decide +kernel
theorem dX12_ahead_24 : decode cX12_ahead 24 = .ok (.getfield 13, 3) := by decide +kernel
theorem dX12_ahead_27 : decode cX12_ahead 27 = .ok (.bipush 15, 2) := by decide +kernel
theorem dX12_ahead_29 : decode cX12_ahead 29 = .ok (.iconst 1, 1) := by decide +kernel
theorem dX12_ahead_30 : decode cX12_ahead 30 = .ok (.iastore, 1) := by decide +kernel
theorem dX12_ahead_31 : decode cX12_ahead 31 = .ok (.aload_n 0, 1) := by decide +kernel
theorem dX12_ahead_32 : decode cX12_ahead 32 = .ok (.iload_n 1, 1) := by decide +kernel
theorem dX12_ahead_33 : decode cX12_ahead 33 = .ok (.invokevirtual 385, 3) := by decide +kernel
theorem dX12_ahead_36 : decode cX12_ahead 36 = .ok (.pop, 1) := by decide +kernel
theorem dX12_ahead_37 : decode cX12_ahead 37 = .ok (.iload_n 2, 1) := by decide +kernel
theorem dX12_ahead_38 : decode cX12_ahead 38 = .ok (.ifCond .eq 10, 3) := by decide +kernel
theorem dX12_ahead_41 : decode cX12_ahead 41 = .ok (.aload_n 0, 1) := by decide +kernel
theorem dX12_ahead_42 : decode cX12_ahead 42 = .ok (.invokevirtual 66, 3) := by decide +kernel
theorem dX12_ahead_45 : decode cX12_ahead 45 = .ok (.goto 10, 3) := by decide +kernel
theorem dX12_ahead_48 : decode cX12_ahead 48 = .ok (.aload_n 0, 1) := by decide +kernel
theorem dX12_ahead_49 : decode cX12_ahead 49 = .ok (.getfield 13, 3) := by decide +kernel
theorem dX12_ahead_52 : decode cX12_ahead 52 = .ok (.bipush 10, 2) := by decide +kernel
theorem dX12_ahead_54 : decode cX12_ahead 54 = .ok (.iaload, 1) := by decide +kernel
theorem dX12_ahead_55 : decode cX12_ahead 55 = .ok (.istore_n 3, 1) := by decide +kernel
theorem dX12_ahead_56 : decode cX12_ahead 56 = .ok (.aload_n 0, 1) := by decide +kernel
theorem dX12_ahead_57 : decode cX12_ahead 57 = .ok (.invokevirtual 474, 3) := by decide +kernel
theorem dX12_ahead_60 : decode cX12_ahead 60 = .ok (.iload_n 3, 1) := by decide +kernel
theorem dX12_ahead_61 : decode cX12_ahead 61 = .ok (.ireturn, 1) := by decide +kernel
set_option maxHeartbeats 4000000 in
set_option maxRecDepth 100000 in
theorem ct_X12_ahead_t1 {E : xE} {z : Nat} {T : Nat → Nat × Int} {F : Nat → Nat → Int} {I : Nat → Int → Int} {P : Nat → Nat → Option Nat} {Y : Nat → Int → Option Nat} {m : Nat} {w : Int → Int} (hw : wM T P m) (hO : wOk w){v : Int} (hv : -2147483648 ≤ v ∧ v < 2147483648) {b : Bool} (hb : ¬ (0 ≤ v ∧ v ≤ 60)) : Ct E 2 mX12_ahead 0 0 [.ref m, J v, J (bI b)] (z, T, F, upA I (m + 1) w, P, Y) (xd (some (J 0)) (z, T, upF F m 0 1, upA I (m + 1) (w), P, Y)) := by
  obtain ⟨⟨q0, q1, q2, q3⟩, -⟩ := id hw
  obtain ⟨hR, o0, o1, o2, o3, o4, o5, o6, oc, o13, o14, o16, o17, o18, ov⟩ := id hO
  have hN := wN_i o0.1
  refine Ct.of [some (.ref m), some (J v), some (J (bI b)), none] kt_X12_ahead rfl (Nat.le_of_ble_eq_true rfl) rfl (fun d hd => ?_)
  generalize hX : xN E _ _ _ = X
  refine xg_aloadn 1 dX12_ahead_0 rfl rfl rfl ?_
  refine xg_iconst 2 dX12_ahead_1 rfl ?_
  refine xg_putI 5 kf_RX12_3 dX12_ahead_2 rfl (by assumption) ?_
  refine xg_aloadn 6 dX12_ahead_5 rfl rfl rfl ?_
  refine xg_iloadn 7 dX12_ahead_6 rfl rfl rfl ?_
  refine xg_callS 10 [_] _ ks_X12_noTicks kl_RX12_468 dX12_ahead_7 rfl rfl rfl (Nat.le_of_ble_eq_true rfl) (by omega) ⟨Nat.le_refl _, Nat.le_refl _⟩ (ct_X12_noTicks (by omega)) rfl ?_
  refine xg_iconst 11 dX12_ahead_10 rfl ?_
  refine xg_dsplit (fun hb11 => ?_) (fun hb11 => ?_)
  · first
    | (exfalso; omega)
    | skip
      refine xg_callV 14 12 [_, _] _ kv_X12_throwsIf ⟨_, _, rfl⟩ kl_RX12_251 dX12_ahead_11 rfl (by assumption) (by omega) rfl rfl (Nat.le_of_ble_eq_true rfl) (by omega) ⟨Nat.le_refl _, Nat.le_refl _⟩ (ct_throwsT hw) rfl ?_
      refine xg_ifeq 19 17 dX12_ahead_14 rfl rfl (by first | omega | exact hR _ | exact ⟨hR _, by omega⟩ | exact ⟨by omega, hR _⟩ | exact ⟨hR _, hR _⟩) (fun hb14 => ?_) (fun hb14 => ?_)
      · exfalso; omega
      · skip
        refine xg_iconst 18 dX12_ahead_17 rfl ?_
        subst hX
        exact xg_ireturn dX12_ahead_18 rfl ⟨Nat.le_refl _, Nat.le_refl _⟩ ⟨rfl, by rw [upF_upF]⟩
  · first
    | (exfalso; omega)
    | skip
      refine xg_callV 14 12 [_, _] _ kv_X12_throwsIf ⟨_, _, rfl⟩ kl_RX12_251 dX12_ahead_11 rfl (by assumption) (by omega) rfl rfl (Nat.le_of_ble_eq_true rfl) (by omega) ⟨Nat.le_refl _, Nat.le_refl _⟩ (ct_throwsF hw) rfl ?_
      refine xg_ifeq 19 17 dX12_ahead_14 rfl rfl (by first | omega | exact hR _ | exact ⟨hR _, by omega⟩ | exact ⟨by omega, hR _⟩ | exact ⟨hR _, hR _⟩) (fun hb14 => ?_) (fun hb14 => ?_)
      · skip
        exfalso; omega
      · exfalso; omega

theorem dX12_trial_0 : decode cX12_trial 0 = .ok (.aload_n 0, 1) := by decide +kernel
theorem dX12_trial_1 : decode cX12_trial 1 = .ok (.iconst 0, 1) := by decide +kernel
theorem dX12_trial_2 : decode cX12_trial 2 = .ok (.putfield 3, 3) := by decide +kernel
theorem dX12_trial_5 : decode cX12_trial 5 = .ok (.aload_n 0, 1) := by decide +kernel
theorem dX12_trial_6 : decode cX12_trial 6 = .ok (.iload_n 1, 1) := by decide +kernel
theorem dX12_trial_7 : decode cX12_trial 7 = .ok (.invokestatic 468, 3) := by decide +kernel
theorem dX12_trial_10 : decode cX12_trial 10 = .ok (.iconst 1, 1) := by decide +kernel
theorem dX12_trial_11 : decode cX12_trial 11 = .ok (.invokevirtual 251, 3) := by decide +kernel
theorem dX12_trial_14 : decode cX12_trial 14 = .ok (.ifCond .eq 5, 3) := by decide +kernel
theorem dX12_trial_17 : decode cX12_trial 17 = .ok (.iconst 0, 1) := by decide +kernel
theorem dX12_trial_18 : decode cX12_trial 18 = .ok (.ireturn, 1) := by decide +kernel
theorem dX12_trial_19 : decode cX12_trial 19 = .ok (.aload_n 0, 1) := by decide +kernel
theorem dX12_trial_20 : decode cX12_trial 20 = .ok (.invokevirtual 471, 3) := by decide +kernel
theorem dX12_trial_23 : decode cX12_trial 23 = .ok (.aload_n 0, 1) := by decide +kernel
theorem dX12_trial_24 : decode cX12_trial 24 = .ok (.iload_n 1, 1) := by decide +kernel
theorem dX12_trial_25 : decode cX12_trial 25 = .ok (.invokevirtual 385, 3) := by decide +kernel
theorem dX12_trial_28 : decode cX12_trial 28 = .ok (.pop, 1) := by decide +kernel
theorem dX12_trial_29 : decode cX12_trial 29 = .ok (.iload_n 2, 1) := by decide +kernel
theorem dX12_trial_30 : decode cX12_trial 30 = .ok (.ifCond .eq 10, 3) := by decide +kernel
theorem dX12_trial_33 : decode cX12_trial 33 = .ok (.aload_n 0, 1) := by decide +kernel
theorem dX12_trial_34 : decode cX12_trial 34 = .ok (.invokevirtual 400, 3) := by decide +kernel
theorem dX12_trial_37 : decode cX12_trial 37 = .ok (.goto 10, 3) := by decide +kernel
theorem dX12_trial_40 : decode cX12_trial 40 = .ok (.aload_n 0, 1) := by decide +kernel
theorem dX12_trial_41 : decode cX12_trial 41 = .ok (.getfield 13, 3) := by decide +kernel
theorem dX12_trial_44 : decode cX12_trial 44 = .ok (.bipush 12, 2) := by decide +kernel
theorem dX12_trial_46 : decode cX12_trial 46 = .ok (.iaload, 1) := by decide +kernel
theorem dX12_trial_47 : decode cX12_trial 47 = .ok (.istore_n 3, 1) := by decide +kernel
theorem dX12_trial_48 : decode cX12_trial 48 = .ok (.aload_n 0, 1) := by decide +kernel
theorem dX12_trial_49 : decode cX12_trial 49 = .ok (.invokevirtual 474, 3) := by decide +kernel
theorem dX12_trial_52 : decode cX12_trial 52 = .ok (.iload_n 3, 1) := by decide +kernel
theorem dX12_trial_53 : decode cX12_trial 53 = .ok (.ireturn, 1) := by decide +kernel
set_option maxHeartbeats 4000000 in
set_option maxRecDepth 100000 in
theorem ct_X12_trial_t1 {E : xE} {z : Nat} {T : Nat → Nat × Int} {F : Nat → Nat → Int} {I : Nat → Int → Int} {P : Nat → Nat → Option Nat} {Y : Nat → Int → Option Nat} {m : Nat} {w : Int → Int} (hw : wM T P m) (hO : wOk w){v : Int} (hv : -2147483648 ≤ v ∧ v < 2147483648) {b : Bool} (hb : ¬ (0 ≤ v ∧ v ≤ 60)) : Ct E 2 mX12_trial 0 0 [.ref m, J v, J (bI b)] (z, T, F, upA I (m + 1) w, P, Y) (xd (some (J 0)) (z, T, upF F m 0 1, upA I (m + 1) (w), P, Y)) := by
  obtain ⟨⟨q0, q1, q2, q3⟩, -⟩ := id hw
  obtain ⟨hR, o0, o1, o2, o3, o4, o5, o6, oc, o13, o14, o16, o17, o18, ov⟩ := id hO
  have hN := wN_i o0.1
  refine Ct.of [some (.ref m), some (J v), some (J (bI b)), none] kt_X12_trial rfl (Nat.le_of_ble_eq_true rfl) rfl (fun d hd => ?_)
  generalize hX : xN E _ _ _ = X
  refine xg_aloadn 1 dX12_trial_0 rfl rfl rfl ?_
  refine xg_iconst 2 dX12_trial_1 rfl ?_
  refine xg_putI 5 kf_RX12_3 dX12_trial_2 rfl (by assumption) ?_
  refine xg_aloadn 6 dX12_trial_5 rfl rfl rfl ?_
  refine xg_iloadn 7 dX12_trial_6 rfl rfl rfl ?_
  refine xg_callS 10 [_] _ ks_X12_noTicks kl_RX12_468 dX12_trial_7 rfl rfl rfl (Nat.le_of_ble_eq_true rfl) (by omega) ⟨Nat.le_refl _, Nat.le_refl _⟩ (ct_X12_noTicks (by omega)) rfl ?_
  refine xg_iconst 11 dX12_trial_10 rfl ?_
  refine xg_dsplit (fun hb11 => ?_) (fun hb11 => ?_)
  · first
    | (exfalso; omega)
    | skip
      refine xg_callV 14 12 [_, _] _ kv_X12_throwsIf ⟨_, _, rfl⟩ kl_RX12_251 dX12_trial_11 rfl (by assumption) (by omega) rfl rfl (Nat.le_of_ble_eq_true rfl) (by omega) ⟨Nat.le_refl _, Nat.le_refl _⟩ (ct_throwsT hw) rfl ?_
      refine xg_ifeq 19 17 dX12_trial_14 rfl rfl (by first | omega | exact hR _ | exact ⟨hR _, by omega⟩ | exact ⟨by omega, hR _⟩ | exact ⟨hR _, hR _⟩) (fun hb14 => ?_) (fun hb14 => ?_)
      · exfalso; omega
      · skip
        refine xg_iconst 18 dX12_trial_17 rfl ?_
        subst hX
        exact xg_ireturn dX12_trial_18 rfl ⟨Nat.le_refl _, Nat.le_refl _⟩ ⟨rfl, by rw [upF_upF]⟩
  · first
    | (exfalso; omega)
    | skip
      refine xg_callV 14 12 [_, _] _ kv_X12_throwsIf ⟨_, _, rfl⟩ kl_RX12_251 dX12_trial_11 rfl (by assumption) (by omega) rfl rfl (Nat.le_of_ble_eq_true rfl) (by omega) ⟨Nat.le_refl _, Nat.le_refl _⟩ (ct_throwsF hw) rfl ?_
      refine xg_ifeq 19 17 dX12_trial_14 rfl rfl (by first | omega | exact hR _ | exact ⟨hR _, by omega⟩ | exact ⟨by omega, hR _⟩ | exact ⟨hR _, hR _⟩) (fun hb14 => ?_) (fun hb14 => ?_)
      · skip
        exfalso; omega
      · exfalso; omega

theorem dX12_span_0 : decode cX12_span 0 = .ok (.aload_n 0, 1) := by decide +kernel
theorem dX12_span_1 : decode cX12_span 1 = .ok (.iconst 0, 1) := by decide +kernel
theorem dX12_span_2 : decode cX12_span 2 = .ok (.putfield 3, 3) := by decide +kernel
theorem dX12_span_5 : decode cX12_span 5 = .ok (.aload_n 0, 1) := by decide +kernel
theorem dX12_span_6 : decode cX12_span 6 = .ok (.iload_n 1, 1) := by decide +kernel
theorem dX12_span_7 : decode cX12_span 7 = .ok (.invokestatic 468, 3) := by decide +kernel
theorem dX12_span_10 : decode cX12_span 10 = .ok (.iconst 1, 1) := by decide +kernel
theorem dX12_span_11 : decode cX12_span 11 = .ok (.invokevirtual 251, 3) := by decide +kernel
theorem dX12_span_14 : decode cX12_span 14 = .ok (.ifCond .eq 5, 3) := by decide +kernel
theorem dX12_span_17 : decode cX12_span 17 = .ok (.iconst 0, 1) := by decide +kernel
theorem dX12_span_18 : decode cX12_span 18 = .ok (.ireturn, 1) := by decide +kernel
theorem dX12_span_19 : decode cX12_span 19 = .ok (.aload_n 0, 1) := by decide +kernel
theorem dX12_span_20 : decode cX12_span 20 = .ok (.invokevirtual 471, 3) := by decide +kernel
theorem dX12_span_23 : decode cX12_span 23 = .ok (.iconst (-1), 1) := by decide +kernel
theorem dX12_span_24 : decode cX12_span 24 = .ok (.istore_n 3, 1) := by decide +kernel
theorem dX12_span_25 : decode cX12_span 25 = .ok (.iconst 1, 1) := by decide +kernel
theorem dX12_span_26 : decode cX12_span 26 = .ok (.istore 4, 2) := by decide +kernel
theorem dX12_span_28 : decode cX12_span 28 = .ok (.iload 4, 2) := by decide +kernel
theorem dX12_span_30 : decode cX12_span 30 = .ok (.bipush 6, 2) := by decide +kernel
theorem dX12_span_32 : decode cX12_span 32 = .ok (.if_icmp .gt 66, 3) := by decide +kernel
theorem dX12_span_35 : decode cX12_span 35 = .ok (.aload_n 0, 1) := by decide +kernel
theorem dX12_span_36 : decode cX12_span 36 = .ok (.getfield 13, 3) := by decide +kernel
theorem dX12_span_39 : decode cX12_span 39 = .ok (.bipush 15, 2) := by decide +kernel
theorem dX12_span_41 : decode cX12_span 41 = .ok (.iload 4, 2) := by decide +kernel
theorem dX12_span_43 : decode cX12_span 43 = .ok (.iastore, 1) := by decide +kernel
theorem dX12_span_44 : decode cX12_span 44 = .ok (.aload_n 0, 1) := by decide +kernel
theorem dX12_span_45 : decode cX12_span 45 = .ok (.iload_n 1, 1) := by decide +kernel
theorem dX12_span_46 : decode cX12_span 46 = .ok (.invokevirtual 385, 3) := by decide +kernel
theorem dX12_span_49 : decode cX12_span 49 = .ok (.pop, 1) := by decide +kernel
theorem dX12_span_50 : decode cX12_span 50 = .ok (.aload_n 0, 1) := by decide +kernel
theorem dX12_span_51 : decode cX12_span 51 = .ok (.getfield 13, 3) := by decide +kernel
theorem dX12_span_54 : decode cX12_span 54 = .ok (.bipush 10, 2) := by decide +kernel
theorem dX12_span_56 : decode cX12_span 56 = .ok (.iaload, 1) := by decide +kernel
theorem dX12_span_57 : decode cX12_span 57 = .ok (.istore 5, 2) := by decide +kernel
theorem dX12_span_59 : decode cX12_span 59 = .ok (.aload_n 0, 1) := by decide +kernel
theorem dX12_span_60 : decode cX12_span 60 = .ok (.invokevirtual 474, 3) := by decide +kernel
theorem dX12_span_63 : decode cX12_span 63 = .ok (.iload_n 3, 1) := by decide +kernel
theorem dX12_span_64 : decode cX12_span 64 = .ok (.ifCond .ge 8, 3) := by decide +kernel
theorem dX12_span_67 : decode cX12_span 67 = .ok (.iload 5, 2) := by decide +kernel
theorem dX12_span_69 : decode cX12_span 69 = .ok (.goto 22, 3) := by decide +kernel
theorem dX12_span_72 : decode cX12_span 72 = .ok (.iload_n 2, 1) := by decide +kernel
theorem dX12_span_73 : decode cX12_span 73 = .ok (.ifCond .eq 12, 3) := by decide +kernel
theorem dX12_span_76 : decode cX12_span 76 = .ok (.iload_n 3, 1) := by decide +kernel
theorem dX12_span_77 : decode cX12_span 77 = .ok (.iload 5, 2) := by decide +kernel
theorem dX12_span_79 : decode cX12_span 79 = .ok (.invokestatic 343, 3) := by decide +kernel
theorem dX12_span_82 : decode cX12_span 82 = .ok (.goto 9, 3) := by decide +kernel
theorem dX12_span_85 : decode cX12_span 85 = .ok (.iload_n 3, 1) := by decide +kernel
theorem dX12_span_86 : decode cX12_span 86 = .ok (.iload 5, 2) := by decide +kernel
theorem dX12_span_88 : decode cX12_span 88 = .ok (.invokestatic 74, 3) := by decide +kernel
theorem dX12_span_91 : decode cX12_span 91 = .ok (.istore_n 3, 1) := by decide +kernel
theorem dX12_span_92 : decode cX12_span 92 = .ok (.iinc 4 1, 3) := by decide +kernel
theorem dX12_span_95 : decode cX12_span 95 = .ok (.goto (-67), 3) := by decide +kernel
theorem dX12_span_98 : decode cX12_span 98 = .ok (.iload_n 3, 1) := by decide +kernel
theorem dX12_span_99 : decode cX12_span 99 = .ok (.ireturn, 1) := by decide +kernel
set_option maxHeartbeats 4000000 in
set_option maxRecDepth 100000 in
theorem ct_X12_span_t1 {E : xE} {z : Nat} {T : Nat → Nat × Int} {F : Nat → Nat → Int} {I : Nat → Int → Int} {P : Nat → Nat → Option Nat} {Y : Nat → Int → Option Nat} {m : Nat} {w : Int → Int} (hw : wM T P m) (hO : wOk w){v : Int} (hv : -2147483648 ≤ v ∧ v < 2147483648) {b : Bool} (hb : ¬ (0 ≤ v ∧ v ≤ 60)) : Ct E 2 mX12_span 0 0 [.ref m, J v, J (bI b)] (z, T, F, upA I (m + 1) w, P, Y) (xd (some (J 0)) (z, T, upF F m 0 1, upA I (m + 1) (w), P, Y)) := by
  obtain ⟨⟨q0, q1, q2, q3⟩, -⟩ := id hw
  obtain ⟨hR, o0, o1, o2, o3, o4, o5, o6, oc, o13, o14, o16, o17, o18, ov⟩ := id hO
  have hN := wN_i o0.1
  refine Ct.of [some (.ref m), some (J v), some (J (bI b)), none, none, none] kt_X12_span rfl (Nat.le_of_ble_eq_true rfl) rfl (fun d hd => ?_)
  generalize hX : xN E _ _ _ = X
  refine xg_aloadn 1 dX12_span_0 rfl rfl rfl ?_
  refine xg_iconst 2 dX12_span_1 rfl ?_
  refine xg_putI 5 kf_RX12_3 dX12_span_2 rfl (by assumption) ?_
  refine xg_aloadn 6 dX12_span_5 rfl rfl rfl ?_
  refine xg_iloadn 7 dX12_span_6 rfl rfl rfl ?_
  refine xg_callS 10 [_] _ ks_X12_noTicks kl_RX12_468 dX12_span_7 rfl rfl rfl (Nat.le_of_ble_eq_true rfl) (by omega) ⟨Nat.le_refl _, Nat.le_refl _⟩ (ct_X12_noTicks (by omega)) rfl ?_
  refine xg_iconst 11 dX12_span_10 rfl ?_
  refine xg_dsplit (fun hb11 => ?_) (fun hb11 => ?_)
  · first
    | (exfalso; omega)
    | skip
      refine xg_callV 14 12 [_, _] _ kv_X12_throwsIf ⟨_, _, rfl⟩ kl_RX12_251 dX12_span_11 rfl (by assumption) (by omega) rfl rfl (Nat.le_of_ble_eq_true rfl) (by omega) ⟨Nat.le_refl _, Nat.le_refl _⟩ (ct_throwsT hw) rfl ?_
      refine xg_ifeq 19 17 dX12_span_14 rfl rfl (by first | omega | exact hR _ | exact ⟨hR _, by omega⟩ | exact ⟨by omega, hR _⟩ | exact ⟨hR _, hR _⟩) (fun hb14 => ?_) (fun hb14 => ?_)
      · exfalso; omega
      · skip
        refine xg_iconst 18 dX12_span_17 rfl ?_
        subst hX
        exact xg_ireturn dX12_span_18 rfl ⟨Nat.le_refl _, Nat.le_refl _⟩ ⟨rfl, by rw [upF_upF]⟩
  · first
    | (exfalso; omega)
    | skip
      refine xg_callV 14 12 [_, _] _ kv_X12_throwsIf ⟨_, _, rfl⟩ kl_RX12_251 dX12_span_11 rfl (by assumption) (by omega) rfl rfl (Nat.le_of_ble_eq_true rfl) (by omega) ⟨Nat.le_refl _, Nat.le_refl _⟩ (ct_throwsF hw) rfl ?_
      refine xg_ifeq 19 17 dX12_span_14 rfl rfl (by first | omega | exact hR _ | exact ⟨hR _, by omega⟩ | exact ⟨by omega, hR _⟩ | exact ⟨hR _, hR _⟩) (fun hb14 => ?_) (fun hb14 => ?_)
      · skip
        exfalso; omega
      · exfalso; omega

set_option maxHeartbeats 4000000 in
set_option maxRecDepth 100000 in
theorem ct_X12_ahead {E : xE} {z : Nat} {T : Nat → Nat × Int} {F : Nat → Nat → Int} {I : Nat → Int → Int} {P : Nat → Nat → Option Nat} {Y : Nat → Int → Option Nat} {m : Nat} {w : Int → Int} (hw : wM T P m) (hO : wOk w) (hL : wLw w) {n : Nat} {b : Bool} (hn : n ≤ 60) (hS : sGoS (wS w 15 1) n) : Ct E 15 mX12_ahead 0 0 [.ref m, J (n : Int), J (bI b)] (z, T, F, upA I (m + 1) w, P, Y) (xs m (some (J (sAhead w n b))) z T (upF F m 0 0) (upA I (m + 4) (wCo (I (m + 4)) w 0 1903)) (w) P Y) := by
  obtain ⟨⟨q0, q1, q2, q3⟩, -⟩ := id hw
  obtain ⟨hR, o0, o1, o2, o3, o4, o5, o6, oc, o13, o14, o16, o17, o18, ov⟩ := id hO
  have hN := wN_i o0.1
  have hO1 := wOk_s15 hO (v := 1) (by omega)
  have hL1 := wLw_hi (wHi_S w 15 1 (by omega)) hL
  obtain ⟨g1, g2, g3, g4⟩ := sGo_ok hO1 hL1 n
  refine Ct.of [some (.ref m), some (J (n : Int)), some (J (bI b)), none] kt_X12_ahead rfl (Nat.le_of_ble_eq_true rfl) rfl (fun d hd => ?_)
  generalize hX : xN E _ _ _ = X
  refine xg_aloadn 1 dX12_ahead_0 rfl rfl rfl ?_
  refine xg_iconst 2 dX12_ahead_1 rfl ?_
  refine xg_putI 5 kf_RX12_3 dX12_ahead_2 rfl (by assumption) ?_
  refine xg_aloadn 6 dX12_ahead_5 rfl rfl rfl ?_
  refine xg_iloadn 7 dX12_ahead_6 rfl rfl rfl ?_
  refine xg_callS 10 [_] _ ks_X12_noTicks kl_RX12_468 dX12_ahead_7 rfl rfl rfl (Nat.le_of_ble_eq_true rfl) (by omega) ⟨Nat.le_refl _, Nat.le_refl _⟩ (ct_X12_noTicks (by omega)) rfl ?_
  refine xg_iconst 11 dX12_ahead_10 rfl ?_
  refine xg_dsplit (fun hb11 => ?_) (fun hb11 => ?_)
  · first
    | (exfalso; omega)
    | skip
      refine xg_callV 14 12 [_, _] _ kv_X12_throwsIf ⟨_, _, rfl⟩ kl_RX12_251 dX12_ahead_11 rfl (by assumption) (by omega) rfl rfl (Nat.le_of_ble_eq_true rfl) (by omega) ⟨Nat.le_refl _, Nat.le_refl _⟩ (ct_throwsT hw) rfl ?_
      refine xg_ifeq 19 17 dX12_ahead_14 rfl rfl (by first | omega | exact hR _ | exact ⟨hR _, by omega⟩ | exact ⟨by omega, hR _⟩ | exact ⟨hR _, hR _⟩) (fun hb14 => ?_) (fun hb14 => ?_)
      · exfalso; omega
      · skip
        exfalso; omega
  · first
    | (exfalso; omega)
    | skip
      refine xg_callV 14 12 [_, _] _ kv_X12_throwsIf ⟨_, _, rfl⟩ kl_RX12_251 dX12_ahead_11 rfl (by assumption) (by omega) rfl rfl (Nat.le_of_ble_eq_true rfl) (by omega) ⟨Nat.le_refl _, Nat.le_refl _⟩ (ct_throwsF hw) rfl ?_
      refine xg_ifeq 19 17 dX12_ahead_14 rfl rfl (by first | omega | exact hR _ | exact ⟨hR _, by omega⟩ | exact ⟨by omega, hR _⟩ | exact ⟨hR _, hR _⟩) (fun hb14 => ?_) (fun hb14 => ?_)
      · skip
        refine xg_aloadn 20 dX12_ahead_19 rfl rfl rfl ?_
        refine xg_callV 23 12 [] _ kv_X12_keepsAll ⟨_, _, rfl⟩ kl_RX12_471 dX12_ahead_20 rfl (by assumption) (by omega) rfl rfl (Nat.le_of_ble_eq_true rfl) (by omega) ⟨Nat.le_refl _, Nat.le_refl _⟩ (ct_X12_keepsAll hw) rfl ?_
        refine xg_aloadn 24 dX12_ahead_23 rfl rfl rfl ?_
        refine xg_getP 27 kf_RX12_13 dX12_ahead_24 rfl (by assumption) (by assumption) ?_
        refine xg_bipush 29 dX12_ahead_27 rfl (by decide) ?_
        refine xg_iconst 30 dX12_ahead_29 rfl ?_
        refine xg_iastW 31 dX12_ahead_30 rfl (by assumption) (by first | omega | exact hR _ | exact ⟨hR _, by omega⟩ | exact ⟨by omega, hR _⟩ | exact ⟨hR _, hR _⟩) ?_
        refine xg_aloadn 32 dX12_ahead_31 rfl rfl rfl ?_
        refine xg_iloadn 33 dX12_ahead_32 rfl rfl rfl ?_
        refine xg_callVs 36 12 [_] _ kv_X12_goesOn ⟨_, _, rfl⟩ kl_RX12_385 dX12_ahead_33 rfl (by assumption) (by omega) rfl rfl (Nat.le_of_ble_eq_true rfl) (by omega) ⟨Nat.le_refl _, Nat.le_refl _⟩ (ct_X12_goesOn hw hO1 hL1 hn hS) rfl (fun Ib hIb => ?_)
        refine xg_pop 37 dX12_ahead_36 rfl rfl ?_
        refine xg_iloadn 38 dX12_ahead_37 rfl rfl rfl ?_
        refine xg_beq 48 41 dX12_ahead_38 rfl rfl (fun hb38 => ?_) (fun hb38 => ?_)
        · skip
          refine xg_aloadn 49 dX12_ahead_48 rfl rfl rfl ?_
          refine xg_getP 52 kf_RX12_13 dX12_ahead_49 rfl (by assumption) (by assumption) ?_
          refine xg_bipush 54 dX12_ahead_52 rfl (by decide) ?_
          refine xg_ialdW 55 dX12_ahead_54 rfl (by assumption) (by first | omega | exact hR _ | exact ⟨hR _, by omega⟩ | exact ⟨by omega, hR _⟩ | exact ⟨hR _, hR _⟩) ?_
          refine xg_istoren 56 _ dX12_ahead_55 rfl rfl rfl (by decide) (Or.inr rfl) ?_
          refine xg_aloadn 57 dX12_ahead_56 rfl rfl rfl ?_
          refine xg_callV 60 12 [] _ kv_X12_bringsBack ⟨_, _, rfl⟩ kl_RX12_474 dX12_ahead_57 rfl (by assumption) (by omega) rfl rfl (Nat.le_of_ble_eq_true rfl) (by omega) ⟨Nat.le_refl _, Nat.le_refl _⟩ (ct_X12_bringsBack hw) rfl ?_
          rw [hIb (m + 4) (by omega), upA_at, wCo_back ((wHi_S w 15 1 (by omega)).tr g2)]
          refine xg_iloadn 61 dX12_ahead_60 rfl rfl rfl ?_
          subst hX
          exact xg_ireturn dX12_ahead_61 rfl ⟨Nat.le_refl _, Nat.le_refl _⟩ ⟨by unfold sAhead; rw [if_neg (by rw [hb38]; decide)], Ib, hIb, rfl⟩
        · skip
          refine xg_aloadn 42 dX12_ahead_41 rfl rfl rfl ?_
          refine xg_callV 45 12 [] _ kv_X12_runs ⟨_, _, rfl⟩ kl_RX12_66 dX12_ahead_42 rfl (by assumption) (by omega) rfl rfl (Nat.le_of_ble_eq_true rfl) (by omega) ⟨Nat.le_refl _, Nat.le_refl _⟩ (ct_X12_runs hw) rfl ?_
          refine xg_goto 55 dX12_ahead_45 rfl ?_
          refine xg_istoren 56 _ dX12_ahead_55 rfl rfl rfl (by decide) (Or.inr rfl) ?_
          refine xg_aloadn 57 dX12_ahead_56 rfl rfl rfl ?_
          refine xg_callV 60 12 [] _ kv_X12_bringsBack ⟨_, _, rfl⟩ kl_RX12_474 dX12_ahead_57 rfl (by assumption) (by omega) rfl rfl (Nat.le_of_ble_eq_true rfl) (by omega) ⟨Nat.le_refl _, Nat.le_refl _⟩ (ct_X12_bringsBack hw) rfl ?_
          rw [hIb (m + 4) (by omega), upA_at, wCo_back ((wHi_S w 15 1 (by omega)).tr g2)]
          refine xg_iloadn 61 dX12_ahead_60 rfl rfl rfl ?_
          subst hX
          exact xg_ireturn dX12_ahead_61 rfl ⟨Nat.le_refl _, Nat.le_refl _⟩ ⟨by unfold sAhead; rw [if_pos hb38], Ib, hIb, rfl⟩
      · exfalso; omega

set_option maxHeartbeats 4000000 in
set_option maxRecDepth 100000 in
theorem ct_X12_trial {E : xE} {z : Nat} {T : Nat → Nat × Int} {F : Nat → Nat → Int} {I : Nat → Int → Int} {P : Nat → Nat → Option Nat} {Y : Nat → Int → Option Nat} {m : Nat} {w : Int → Int} (hw : wM T P m) (hO : wOk w) (hL : wLw w) {n : Nat} {b : Bool} (hn : n ≤ 60) (hS : sGoS w n) : Ct E 15 mX12_trial 0 0 [.ref m, J (n : Int), J (bI b)] (z, T, F, upA I (m + 1) w, P, Y) (xs m (some (J (sTrial w n b))) z T (upF F m 0 0) (upA I (m + 4) (wCo (I (m + 4)) w 0 1903)) (w) P Y) := by
  obtain ⟨⟨q0, q1, q2, q3⟩, -⟩ := id hw
  obtain ⟨hR, o0, o1, o2, o3, o4, o5, o6, oc, o13, o14, o16, o17, o18, ov⟩ := id hO
  have hN := wN_i o0.1
  have hO1 := hO
  have hL1 := hL
  obtain ⟨g1, g2, g3, g4⟩ := sGo_ok hO1 hL1 n
  refine Ct.of [some (.ref m), some (J (n : Int)), some (J (bI b)), none] kt_X12_trial rfl (Nat.le_of_ble_eq_true rfl) rfl (fun d hd => ?_)
  generalize hX : xN E _ _ _ = X
  refine xg_aloadn 1 dX12_trial_0 rfl rfl rfl ?_
  refine xg_iconst 2 dX12_trial_1 rfl ?_
  refine xg_putI 5 kf_RX12_3 dX12_trial_2 rfl (by assumption) ?_
  refine xg_aloadn 6 dX12_trial_5 rfl rfl rfl ?_
  refine xg_iloadn 7 dX12_trial_6 rfl rfl rfl ?_
  refine xg_callS 10 [_] _ ks_X12_noTicks kl_RX12_468 dX12_trial_7 rfl rfl rfl (Nat.le_of_ble_eq_true rfl) (by omega) ⟨Nat.le_refl _, Nat.le_refl _⟩ (ct_X12_noTicks (by omega)) rfl ?_
  refine xg_iconst 11 dX12_trial_10 rfl ?_
  refine xg_dsplit (fun hb11 => ?_) (fun hb11 => ?_)
  · first
    | (exfalso; omega)
    | skip
      refine xg_callV 14 12 [_, _] _ kv_X12_throwsIf ⟨_, _, rfl⟩ kl_RX12_251 dX12_trial_11 rfl (by assumption) (by omega) rfl rfl (Nat.le_of_ble_eq_true rfl) (by omega) ⟨Nat.le_refl _, Nat.le_refl _⟩ (ct_throwsT hw) rfl ?_
      refine xg_ifeq 19 17 dX12_trial_14 rfl rfl (by first | omega | exact hR _ | exact ⟨hR _, by omega⟩ | exact ⟨by omega, hR _⟩ | exact ⟨hR _, hR _⟩) (fun hb14 => ?_) (fun hb14 => ?_)
      · exfalso; omega
      · skip
        exfalso; omega
  · first
    | (exfalso; omega)
    | skip
      refine xg_callV 14 12 [_, _] _ kv_X12_throwsIf ⟨_, _, rfl⟩ kl_RX12_251 dX12_trial_11 rfl (by assumption) (by omega) rfl rfl (Nat.le_of_ble_eq_true rfl) (by omega) ⟨Nat.le_refl _, Nat.le_refl _⟩ (ct_throwsF hw) rfl ?_
      refine xg_ifeq 19 17 dX12_trial_14 rfl rfl (by first | omega | exact hR _ | exact ⟨hR _, by omega⟩ | exact ⟨by omega, hR _⟩ | exact ⟨hR _, hR _⟩) (fun hb14 => ?_) (fun hb14 => ?_)
      · skip
        refine xg_aloadn 20 dX12_trial_19 rfl rfl rfl ?_
        refine xg_callV 23 12 [] _ kv_X12_keepsAll ⟨_, _, rfl⟩ kl_RX12_471 dX12_trial_20 rfl (by assumption) (by omega) rfl rfl (Nat.le_of_ble_eq_true rfl) (by omega) ⟨Nat.le_refl _, Nat.le_refl _⟩ (ct_X12_keepsAll hw) rfl ?_
        refine xg_aloadn 24 dX12_trial_23 rfl rfl rfl ?_
        refine xg_iloadn 25 dX12_trial_24 rfl rfl rfl ?_
        refine xg_callVs 28 12 [_] _ kv_X12_goesOn ⟨_, _, rfl⟩ kl_RX12_385 dX12_trial_25 rfl (by assumption) (by omega) rfl rfl (Nat.le_of_ble_eq_true rfl) (by omega) ⟨Nat.le_refl _, Nat.le_refl _⟩ (ct_X12_goesOn hw hO hL hn hS) rfl (fun Ib hIb => ?_)
        refine xg_pop 29 dX12_trial_28 rfl rfl ?_
        refine xg_iloadn 30 dX12_trial_29 rfl rfl rfl ?_
        refine xg_beq 40 33 dX12_trial_30 rfl rfl (fun hb30 => ?_) (fun hb30 => ?_)
        · skip
          refine xg_aloadn 41 dX12_trial_40 rfl rfl rfl ?_
          refine xg_getP 44 kf_RX12_13 dX12_trial_41 rfl (by assumption) (by assumption) ?_
          refine xg_bipush 46 dX12_trial_44 rfl (by decide) ?_
          refine xg_ialdW 47 dX12_trial_46 rfl (by assumption) (by first | omega | exact hR _ | exact ⟨hR _, by omega⟩ | exact ⟨by omega, hR _⟩ | exact ⟨hR _, hR _⟩) ?_
          refine xg_istoren 48 _ dX12_trial_47 rfl rfl rfl (by decide) (Or.inr rfl) ?_
          refine xg_aloadn 49 dX12_trial_48 rfl rfl rfl ?_
          refine xg_callV 52 12 [] _ kv_X12_bringsBack ⟨_, _, rfl⟩ kl_RX12_474 dX12_trial_49 rfl (by assumption) (by omega) rfl rfl (Nat.le_of_ble_eq_true rfl) (by omega) ⟨Nat.le_refl _, Nat.le_refl _⟩ (ct_X12_bringsBack hw) rfl ?_
          rw [hIb (m + 4) (by omega), upA_at, wCo_back g2]
          refine xg_iloadn 53 dX12_trial_52 rfl rfl rfl ?_
          subst hX
          exact xg_ireturn dX12_trial_53 rfl ⟨Nat.le_refl _, Nat.le_refl _⟩ ⟨by unfold sTrial; rw [if_neg (by rw [hb30]; decide)], Ib, hIb, rfl⟩
        · skip
          refine xg_aloadn 34 dX12_trial_33 rfl rfl rfl ?_
          refine xg_callV 37 12 [] _ kv_X12_foundMany ⟨_, _, rfl⟩ kl_RX12_400 dX12_trial_34 rfl (by assumption) (by omega) rfl rfl (Nat.le_of_ble_eq_true rfl) (by omega) ⟨Nat.le_refl _, Nat.le_refl _⟩ (ct_X12_foundMany hw g1) rfl ?_
          refine xg_goto 47 dX12_trial_37 rfl ?_
          refine xg_istoren 48 _ dX12_trial_47 rfl rfl rfl (by decide) (Or.inr rfl) ?_
          refine xg_aloadn 49 dX12_trial_48 rfl rfl rfl ?_
          refine xg_callV 52 12 [] _ kv_X12_bringsBack ⟨_, _, rfl⟩ kl_RX12_474 dX12_trial_49 rfl (by assumption) (by omega) rfl rfl (Nat.le_of_ble_eq_true rfl) (by omega) ⟨Nat.le_refl _, Nat.le_refl _⟩ (ct_X12_bringsBack hw) rfl ?_
          rw [hIb (m + 4) (by omega), upA_at, wCo_back g2]
          refine xg_iloadn 53 dX12_trial_52 rfl rfl rfl ?_
          subst hX
          exact xg_ireturn dX12_trial_53 rfl ⟨Nat.le_refl _, Nat.le_refl _⟩ ⟨by unfold sTrial; rw [if_pos hb30], Ib, hIb, rfl⟩
      · exfalso; omega

set_option maxHeartbeats 4000000 in
set_option maxRecDepth 100000 in
theorem ct_X12_span {E : xE} {z : Nat} {T : Nat → Nat × Int} {F : Nat → Nat → Int} {I : Nat → Int → Int} {P : Nat → Nat → Option Nat} {Y : Nat → Int → Option Nat} {m : Nat} {w : Int → Int} (hw : wM T P m) (hO : wOk w) (hL : wLw w) {n : Nat} {b : Bool} (hn : n ≤ 60) (hS : ∀ k : Nat, k < 6 → sGoS (wS w 15 ((k : Int) + 1)) n) : Ct E 15 mX12_span 0 0 [.ref m, J (n : Int), J (bI b)] (z, T, F, upA I (m + 1) w, P, Y) (xs m (some (J (sSp w n b 6))) z T (upF F m 0 0) (upA I (m + 4) (wCo (I (m + 4)) w 0 1903)) (w) P Y) := by
  obtain ⟨⟨q0, q1, q2, q3⟩, -⟩ := id hw
  obtain ⟨hR, o0, o1, o2, o3, o4, o5, o6, oc, o13, o14, o16, o17, o18, ov⟩ := id hO
  have hN := wN_i o0.1
  refine Ct.of [some (.ref m), some (J (n : Int)), some (J (bI b)), none, none, none] kt_X12_span rfl (Nat.le_of_ble_eq_true rfl) rfl (fun d hd => ?_)
  generalize hX : xN E _ _ _ = X
  refine xg_aloadn 1 dX12_span_0 rfl rfl rfl ?_
  refine xg_iconst 2 dX12_span_1 rfl ?_
  refine xg_putI 5 kf_RX12_3 dX12_span_2 rfl (by assumption) ?_
  refine xg_aloadn 6 dX12_span_5 rfl rfl rfl ?_
  refine xg_iloadn 7 dX12_span_6 rfl rfl rfl ?_
  refine xg_callS 10 [_] _ ks_X12_noTicks kl_RX12_468 dX12_span_7 rfl rfl rfl (Nat.le_of_ble_eq_true rfl) (by omega) ⟨Nat.le_refl _, Nat.le_refl _⟩ (ct_X12_noTicks (by omega)) rfl ?_
  refine xg_iconst 11 dX12_span_10 rfl ?_
  refine xg_dsplit (fun hb11 => ?_) (fun hb11 => ?_)
  · first
    | (exfalso; omega)
    | skip
      refine xg_callV 14 12 [_, _] _ kv_X12_throwsIf ⟨_, _, rfl⟩ kl_RX12_251 dX12_span_11 rfl (by assumption) (by omega) rfl rfl (Nat.le_of_ble_eq_true rfl) (by omega) ⟨Nat.le_refl _, Nat.le_refl _⟩ (ct_throwsT hw) rfl ?_
      refine xg_ifeq 19 17 dX12_span_14 rfl rfl (by first | omega | exact hR _ | exact ⟨hR _, by omega⟩ | exact ⟨by omega, hR _⟩ | exact ⟨hR _, hR _⟩) (fun hb14 => ?_) (fun hb14 => ?_)
      · exfalso; omega
      · skip
        exfalso; omega
  · first
    | (exfalso; omega)
    | skip
      refine xg_callV 14 12 [_, _] _ kv_X12_throwsIf ⟨_, _, rfl⟩ kl_RX12_251 dX12_span_11 rfl (by assumption) (by omega) rfl rfl (Nat.le_of_ble_eq_true rfl) (by omega) ⟨Nat.le_refl _, Nat.le_refl _⟩ (ct_throwsF hw) rfl ?_
      refine xg_ifeq 19 17 dX12_span_14 rfl rfl (by first | omega | exact hR _ | exact ⟨hR _, by omega⟩ | exact ⟨by omega, hR _⟩ | exact ⟨hR _, hR _⟩) (fun hb14 => ?_) (fun hb14 => ?_)
      · skip
        refine xg_aloadn 20 dX12_span_19 rfl rfl rfl ?_
        refine xg_callV 23 12 [] _ kv_X12_keepsAll ⟨_, _, rfl⟩ kl_RX12_471 dX12_span_20 rfl (by assumption) (by omega) rfl rfl (Nat.le_of_ble_eq_true rfl) (by omega) ⟨Nat.le_refl _, Nat.le_refl _⟩ (ct_X12_keepsAll hw) rfl ?_
        refine xg_iconst 24 dX12_span_23 rfl ?_
        refine xg_istoren 25 _ dX12_span_24 rfl rfl rfl (by decide) (Or.inr rfl) ?_
        refine xg_iconst 26 dX12_span_25 rfl ?_
        refine xg_istore 28 _ dX12_span_26 rfl rfl (by decide) (Or.inr rfl) ?_
        have loop28 : ∀ (mm : Nat) (k : Nat) (Ia : Nat → Int → Int), k ≤ 6 → xScr m (upA I (m + 4) (wCo (I (m + 4)) w 0 1903)) Ia → 6 - (k : Int) < (mm : Int) → xG E mX12_span (xR d 0 0) X 28 [some (.ref m), some (J (n : Int)), some (J (bI b)), some (J (sSp w n b k)), some (J ((k : Int) + 1)), none] [] (z, T, upF F m 0 0, upA Ia (m + 1) w, P, Y) 0 0 := by
          intro mm
          induction mm with
          | zero => intro k Ia hk hIa hm; exfalso; omega
          | succ mm ih =>
            intro k Ia hk hIa hm
            have hsp := sSp_bd hO hL n b k hk
            have hO1 := wOk_s15 hO (v := (k : Int) + 1) (by omega)
            have hL1 := wLw_hi (wHi_S w 15 ((k : Int) + 1) (by omega)) hL
            obtain ⟨g1, g2, g3, g4⟩ := sGo_ok hO1 hL1 n
            have h10 := g1.2.2.2.2.2.2.2.2.1 10 (by omega) (by omega)
            refine xg_iload 30 dX12_span_28 rfl rfl ?_
            refine xg_bipush 32 dX12_span_30 rfl (by decide) ?_
            refine xg_icgt 98 35 dX12_span_32 rfl rfl (by first | omega | exact hR _ | exact ⟨hR _, by omega⟩ | exact ⟨by omega, hR _⟩ | exact ⟨hR _, hR _⟩) (fun hb32 => ?_) (fun hb32 => ?_)
            · skip
              refine xg_iloadn 99 dX12_span_98 rfl rfl rfl ?_
              subst hX
              exact xg_ireturn dX12_span_99 rfl ⟨Nat.le_refl _, Nat.le_refl _⟩ ⟨by rw [show k = 6 by omega], Ia, hIa, rfl⟩
            · skip
              refine xg_aloadn 36 dX12_span_35 rfl rfl rfl ?_
              refine xg_getP 39 kf_RX12_13 dX12_span_36 rfl (by assumption) (by assumption) ?_
              refine xg_bipush 41 dX12_span_39 rfl (by decide) ?_
              refine xg_iload 43 dX12_span_41 rfl rfl ?_
              refine xg_iastW 44 dX12_span_43 rfl (by assumption) (by first | omega | exact hR _ | exact ⟨hR _, by omega⟩ | exact ⟨by omega, hR _⟩ | exact ⟨hR _, hR _⟩) ?_
              refine xg_aloadn 45 dX12_span_44 rfl rfl rfl ?_
              refine xg_iloadn 46 dX12_span_45 rfl rfl rfl ?_
              refine xg_callVs 49 12 [_] _ kv_X12_goesOn ⟨_, _, rfl⟩ kl_RX12_385 dX12_span_46 rfl (by assumption) (by omega) rfl rfl (Nat.le_of_ble_eq_true rfl) (by omega) ⟨Nat.le_refl _, Nat.le_refl _⟩ (ct_X12_goesOn hw hO1 hL1 hn (hS k (by omega))) rfl (fun Ib hIb => ?_)
              refine xg_pop 50 dX12_span_49 rfl rfl ?_
              refine xg_aloadn 51 dX12_span_50 rfl rfl rfl ?_
              refine xg_getP 54 kf_RX12_13 dX12_span_51 rfl (by assumption) (by assumption) ?_
              refine xg_bipush 56 dX12_span_54 rfl (by decide) ?_
              refine xg_ialdW 57 dX12_span_56 rfl (by assumption) (by first | omega | exact hR _ | exact ⟨hR _, by omega⟩ | exact ⟨by omega, hR _⟩ | exact ⟨hR _, hR _⟩) ?_
              refine xg_istore 59 _ dX12_span_57 rfl rfl (by decide) (Or.inr rfl) ?_
              refine xg_aloadn 60 dX12_span_59 rfl rfl rfl ?_
              refine xg_callV 63 12 [] _ kv_X12_bringsBack ⟨_, _, rfl⟩ kl_RX12_474 dX12_span_60 rfl (by assumption) (by omega) rfl rfl (Nat.le_of_ble_eq_true rfl) (by omega) ⟨Nat.le_refl _, Nat.le_refl _⟩ (ct_X12_bringsBack hw) rfl ?_
              rw [(hIa.tr hIb) (m + 4) (by omega), upA_at, wCo_back ((wHi_S w 15 ((k : Int) + 1) (by omega)).tr g2)]
              refine xg_iloadn 64 dX12_span_63 rfl rfl rfl ?_
              refine xg_ifge 72 67 dX12_span_64 rfl rfl (by first | omega | exact hR _ | exact ⟨hR _, by omega⟩ | exact ⟨by omega, hR _⟩ | exact ⟨hR _, hR _⟩) (fun hb64 => ?_) (fun hb64 => ?_)
              · skip
                refine xg_iloadn 73 dX12_span_72 rfl rfl rfl ?_
                refine xg_beq 85 76 dX12_span_73 rfl rfl (fun hb73 => ?_) (fun hb73 => ?_)
                · skip
                  refine xg_iloadn 86 dX12_span_85 rfl rfl rfl ?_
                  refine xg_iload 88 dX12_span_86 rfl rfl ?_
                  refine xg_mmin 91 kl_RX12_74 dX12_span_88 rfl (by first | omega | exact hR _ | exact ⟨hR _, by omega⟩ | exact ⟨by omega, hR _⟩ | exact ⟨hR _, hR _⟩) (Nat.le_of_ble_eq_true rfl) (by omega) ⟨Nat.le_refl _, Nat.le_refl _⟩ ?_
                  refine xg_istoren 92 _ dX12_span_91 rfl rfl rfl (by decide) (Or.inr rfl) ?_
                  refine xg_iinc 95 _ dX12_span_92 rfl rfl rfl rfl (by decide) (Or.inr rfl) ?_
                  refine xg_goto 28 dX12_span_95 rfl ?_
                  exact xg_weak _ (xle_s rfl (xle_s rfl (xle_s rfl (xle_s (by rw [sSp, if_neg (by omega), if_neg (by rw [hb73]; decide)]) (xle_s rfl (xle_n xle_0)))))) (ih (k + 1) Ib (by omega) (hIa.tr hIb) (by omega))
                · skip
                  refine xg_iloadn 77 dX12_span_76 rfl rfl rfl ?_
                  refine xg_iload 79 dX12_span_77 rfl rfl ?_
                  refine xg_mmax 82 kl_RX12_343 dX12_span_79 rfl (by first | omega | exact hR _ | exact ⟨hR _, by omega⟩ | exact ⟨by omega, hR _⟩ | exact ⟨hR _, hR _⟩) (Nat.le_of_ble_eq_true rfl) (by omega) ⟨Nat.le_refl _, Nat.le_refl _⟩ ?_
                  refine xg_goto 91 dX12_span_82 rfl ?_
                  refine xg_istoren 92 _ dX12_span_91 rfl rfl rfl (by decide) (Or.inr rfl) ?_
                  refine xg_iinc 95 _ dX12_span_92 rfl rfl rfl rfl (by decide) (Or.inr rfl) ?_
                  refine xg_goto 28 dX12_span_95 rfl ?_
                  exact xg_weak _ (xle_s rfl (xle_s rfl (xle_s rfl (xle_s (by rw [sSp, if_neg (by omega), if_pos hb73]) (xle_s rfl (xle_n xle_0)))))) (ih (k + 1) Ib (by omega) (hIa.tr hIb) (by omega))
              · skip
                refine xg_iload 69 dX12_span_67 rfl rfl ?_
                refine xg_goto 91 dX12_span_69 rfl ?_
                refine xg_istoren 92 _ dX12_span_91 rfl rfl rfl (by decide) (Or.inr rfl) ?_
                refine xg_iinc 95 _ dX12_span_92 rfl rfl rfl rfl (by decide) (Or.inr rfl) ?_
                refine xg_goto 28 dX12_span_95 rfl ?_
                exact xg_weak _ (xle_s rfl (xle_s rfl (xle_s rfl (xle_s (by rw [sSp, if_pos (by omega)]) (xle_s rfl (xle_n xle_0)))))) (ih (k + 1) Ib (by omega) (hIa.tr hIb) (by omega))
        exact xg_weak _ (xle_s rfl (xle_s rfl (xle_s rfl (xle_s rfl (xle_s rfl (xle_n xle_0)))))) (loop28 7 0 _ (by omega) xScr.rf (by omega))
      · exfalso; omega

