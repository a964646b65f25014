set_option maxHeartbeats 4000000 in
set_option maxRecDepth 100000 in
theorem ct_X12_over_t {E : xE} {z : Nat} {T : Nat → Nat × Int} {F : Nat → Nat → Int} {I : Nat → Int → Int} {P : Nat → Nat → Option Nat} {Y : Nat → Int → Option Nat} {m : Nat} {w : Int → Int} (hw : wM T P m) (hO : wOk w) : Ct E 5 mX12_over 0 0 [.ref m, J 1] (z, T, F, upA I (m + 1) w, P, Y) (xd (some (J (sOver w true))) (z, T, upF F m 0 0, upA I (m + 1) (w), P, Y)) := by
  obtain ⟨⟨q0, q1, q2, q3⟩, -⟩ := id hw
  obtain ⟨hR, o0, o1, o2, o3, o4, o5, o6, oc, o13, o14, o16, o17, o18, ov⟩ := id hO
  have hN := wN_i o0.1
  have hfn := sFndN_bd w
  have hal := sAllE_bd (w := w) o0.2
  have heb := sEnt_bd w 19
  have h8 := oc 8 (by omega) (by omega)
  have h9 := oc 9 (by omega) (by omega)
  refine Ct.of [some (.ref m), some (J 1), none, none] kt_X12_over rfl (Nat.le_of_ble_eq_true rfl) rfl (fun d hd => ?_)
  generalize hX : xN E _ _ _ = X
  refine xg_aloadn 1 dX12_over_0 rfl rfl rfl ?_
  refine xg_iconst 2 dX12_over_1 rfl ?_
  refine xg_putI 5 kf_RX12_3 dX12_over_2 rfl (by assumption) ?_
  refine xg_iloadn 6 dX12_over_5 rfl rfl rfl ?_
  refine xg_ifeq 19 9 dX12_over_6 rfl rfl (by first | omega | exact hR _ | exact ⟨hR _, by omega⟩ | exact ⟨by omega, hR _⟩ | exact ⟨hR _, hR _⟩) (fun hb6 => ?_) (fun hb6 => ?_)
  · first
    | (exfalso; omega)
    | skip
      refine xg_aloadn 20 dX12_over_19 rfl rfl rfl ?_
      refine xg_bipush 22 dX12_over_20 rfl (by decide) ?_
      refine xg_callV 25 12 [_] _ kv_X12_entriesOf ⟨_, _, rfl⟩ kl_RX12_268 dX12_over_22 rfl (by assumption) (by omega) rfl rfl (Nat.le_of_ble_eq_true rfl) (by omega) ⟨Nat.le_refl _, Nat.le_refl _⟩ (ct_X12_entriesOf hw hR (by omega)) rfl ?_
      refine xg_aloadn 26 dX12_over_25 rfl rfl rfl ?_
      refine xg_callV 29 12 [] _ kv_X12_allEntries ⟨_, _, rfl⟩ kl_RX12_379 dX12_over_26 rfl (by assumption) (by omega) rfl rfl (Nat.le_of_ble_eq_true rfl) (by omega) ⟨Nat.le_refl _, Nat.le_refl _⟩ (ct_X12_allEntries hw hO) rfl ?_
      refine xg_iadd 30 dX12_over_29 rfl ?_
      refine xg_istoren 31 _ dX12_over_30 rfl rfl rfl (by decide) (Or.inr rfl) ?_
      refine xg_iloadn 32 dX12_over_31 rfl rfl rfl ?_
      refine xg_ifeq 45 35 dX12_over_32 rfl rfl (by first | omega | exact hR _ | exact ⟨hR _, by omega⟩ | exact ⟨by omega, hR _⟩ | exact ⟨hR _, hR _⟩) (fun hb32 => ?_) (fun hb32 => ?_)
      · first
        | (exfalso; omega)
        | skip
          refine xg_aloadn 46 dX12_over_45 rfl rfl rfl ?_
          refine xg_callV 49 12 [] _ kv_X12_foundMany ⟨_, _, rfl⟩ kl_RX12_400 dX12_over_46 rfl (by assumption) (by omega) rfl rfl (Nat.le_of_ble_eq_true rfl) (by omega) ⟨Nat.le_refl _, Nat.le_refl _⟩ (ct_X12_foundMany hw hO) rfl ?_
          refine xg_istoren 50 _ dX12_over_49 rfl rfl rfl (by decide) (Or.inr rfl) ?_
          refine xg_iloadn 51 dX12_over_50 rfl rfl rfl ?_
          refine xg_ifne 58 54 dX12_over_51 rfl rfl (by first | omega | exact hR _ | exact ⟨hR _, by omega⟩ | exact ⟨by omega, hR _⟩ | exact ⟨hR _, hR _⟩) (fun hb51 => ?_) (fun hb51 => ?_)
          · skip
            refine xg_bipush 60 dX12_over_58 rfl (by decide) ?_
            refine xg_iloadn 61 dX12_over_60 rfl rfl rfl ?_
            refine xg_imul 62 dX12_over_61 rfl ?_
            refine xg_iloadn 63 dX12_over_62 rfl rfl rfl ?_
            refine xg_idiv 64 dX12_over_63 rfl (by first | omega | exact hR _ | exact ⟨hR _, by omega⟩ | exact ⟨by omega, hR _⟩ | exact ⟨hR _, hR _⟩) ?_
            subst hX
            exact xg_ireturn dX12_over_64 rfl ⟨Nat.le_refl _, Nat.le_refl _⟩ ⟨congrArg (fun v => some (J v)) (by unfold sOver; simp only [Bool.false_eq_true, if_true, if_false]; first | rw [if_pos hb51] | rw [if_neg hb51]), rfl⟩
          · skip
            refine xg_iconst 55 dX12_over_54 rfl ?_
            refine xg_goto 64 dX12_over_55 rfl ?_
            subst hX
            exact xg_ireturn dX12_over_64 rfl ⟨Nat.le_refl _, Nat.le_refl _⟩ ⟨congrArg (fun v => some (J v)) (by unfold sOver; simp only [Bool.false_eq_true, if_true, if_false]; first | rw [if_pos hb51] | rw [if_neg hb51]), rfl⟩
      · first
        | (exfalso; omega)
        | skip
          refine xg_aloadn 36 dX12_over_35 rfl rfl rfl ?_
          refine xg_getP 39 kf_RX12_13 dX12_over_36 rfl (by assumption) (by assumption) ?_
          refine xg_bipush 41 dX12_over_39 rfl (by decide) ?_
          refine xg_ialdW 42 dX12_over_41 rfl (by assumption) (by first | omega | exact hR _ | exact ⟨hR _, by omega⟩ | exact ⟨by omega, hR _⟩ | exact ⟨hR _, hR _⟩) ?_
          refine xg_goto 49 dX12_over_42 rfl ?_
          refine xg_istoren 50 _ dX12_over_49 rfl rfl rfl (by decide) (Or.inr rfl) ?_
          refine xg_iloadn 51 dX12_over_50 rfl rfl rfl ?_
          refine xg_ifne 58 54 dX12_over_51 rfl rfl (by first | omega | exact hR _ | exact ⟨hR _, by omega⟩ | exact ⟨by omega, hR _⟩ | exact ⟨hR _, hR _⟩) (fun hb51 => ?_) (fun hb51 => ?_)
          · skip
            refine xg_bipush 60 dX12_over_58 rfl (by decide) ?_
            refine xg_iloadn 61 dX12_over_60 rfl rfl rfl ?_
            refine xg_imul 62 dX12_over_61 rfl ?_
            refine xg_iloadn 63 dX12_over_62 rfl rfl rfl ?_
            refine xg_idiv 64 dX12_over_63 rfl (by first | omega | exact hR _ | exact ⟨hR _, by omega⟩ | exact ⟨by omega, hR _⟩ | exact ⟨hR _, hR _⟩) ?_
            subst hX
            exact xg_ireturn dX12_over_64 rfl ⟨Nat.le_refl _, Nat.le_refl _⟩ ⟨congrArg (fun v => some (J v)) (by unfold sOver; simp only [Bool.false_eq_true, if_true, if_false]; first | rw [if_pos hb51] | rw [if_neg hb51]), rfl⟩
          · skip
            refine xg_iconst 55 dX12_over_54 rfl ?_
            refine xg_goto 64 dX12_over_55 rfl ?_
            subst hX
            exact xg_ireturn dX12_over_64 rfl ⟨Nat.le_refl _, Nat.le_refl _⟩ ⟨congrArg (fun v => some (J v)) (by unfold sOver; simp only [Bool.false_eq_true, if_true, if_false]; first | rw [if_pos hb51] | rw [if_neg hb51]), rfl⟩
  · first
    | (exfalso; omega)
    | skip
      refine xg_aloadn 10 dX12_over_9 rfl rfl rfl ?_
      refine xg_getP 13 kf_RX12_13 dX12_over_10 rfl (by assumption) (by assumption) ?_
      refine xg_bipush 15 dX12_over_13 rfl (by decide) ?_
      refine xg_ialdW 16 dX12_over_15 rfl (by assumption) (by first | omega | exact hR _ | exact ⟨hR _, by omega⟩ | exact ⟨by omega, hR _⟩ | exact ⟨hR _, hR _⟩) ?_
      refine xg_goto 30 dX12_over_16 rfl ?_
      refine xg_istoren 31 _ dX12_over_30 rfl rfl rfl (by decide) (Or.inr rfl) ?_
      refine xg_iloadn 32 dX12_over_31 rfl rfl rfl ?_
      refine xg_ifeq 45 35 dX12_over_32 rfl rfl (by first | omega | exact hR _ | exact ⟨hR _, by omega⟩ | exact ⟨by omega, hR _⟩ | exact ⟨hR _, hR _⟩) (fun hb32 => ?_) (fun hb32 => ?_)
      · first
        | (exfalso; omega)
        | skip
          refine xg_aloadn 46 dX12_over_45 rfl rfl rfl ?_
          refine xg_callV 49 12 [] _ kv_X12_foundMany ⟨_, _, rfl⟩ kl_RX12_400 dX12_over_46 rfl (by assumption) (by omega) rfl rfl (Nat.le_of_ble_eq_true rfl) (by omega) ⟨Nat.le_refl _, Nat.le_refl _⟩ (ct_X12_foundMany hw hO) rfl ?_
          refine xg_istoren 50 _ dX12_over_49 rfl rfl rfl (by decide) (Or.inr rfl) ?_
          refine xg_iloadn 51 dX12_over_50 rfl rfl rfl ?_
          refine xg_ifne 58 54 dX12_over_51 rfl rfl (by first | omega | exact hR _ | exact ⟨hR _, by omega⟩ | exact ⟨by omega, hR _⟩ | exact ⟨hR _, hR _⟩) (fun hb51 => ?_) (fun hb51 => ?_)
          · skip
            refine xg_bipush 60 dX12_over_58 rfl (by decide) ?_
            refine xg_iloadn 61 dX12_over_60 rfl rfl rfl ?_
            refine xg_imul 62 dX12_over_61 rfl ?_
            refine xg_iloadn 63 dX12_over_62 rfl rfl rfl ?_
            refine xg_idiv 64 dX12_over_63 rfl (by first | omega | exact hR _ | exact ⟨hR _, by omega⟩ | exact ⟨by omega, hR _⟩ | exact ⟨hR _, hR _⟩) ?_
            subst hX
            exact xg_ireturn dX12_over_64 rfl ⟨Nat.le_refl _, Nat.le_refl _⟩ ⟨congrArg (fun v => some (J v)) (by unfold sOver; simp only [Bool.false_eq_true, if_true, if_false]; first | rw [if_pos hb51] | rw [if_neg hb51]), rfl⟩
          · skip
            refine xg_iconst 55 dX12_over_54 rfl ?_
            refine xg_goto 64 dX12_over_55 rfl ?_
            subst hX
            exact xg_ireturn dX12_over_64 rfl ⟨Nat.le_refl _, Nat.le_refl _⟩ ⟨congrArg (fun v => some (J v)) (by unfold sOver; simp only [Bool.false_eq_true, if_true, if_false]; first | rw [if_pos hb51] | rw [if_neg hb51]), rfl⟩
      · first
        | (exfalso; omega)
        | skip
          refine xg_aloadn 36 dX12_over_35 rfl rfl rfl ?_
          refine xg_getP 39 kf_RX12_13 dX12_over_36 rfl (by assumption) (by assumption) ?_
          refine xg_bipush 41 dX12_over_39 rfl (by decide) ?_
          refine xg_ialdW 42 dX12_over_41 rfl (by assumption) (by first | omega | exact hR _ | exact ⟨hR _, by omega⟩ | exact ⟨by omega, hR _⟩ | exact ⟨hR _, hR _⟩) ?_
          refine xg_goto 49 dX12_over_42 rfl ?_
          refine xg_istoren 50 _ dX12_over_49 rfl rfl rfl (by decide) (Or.inr rfl) ?_
          refine xg_iloadn 51 dX12_over_50 rfl rfl rfl ?_
          refine xg_ifne 58 54 dX12_over_51 rfl rfl (by first | omega | exact hR _ | exact ⟨hR _, by omega⟩ | exact ⟨by omega, hR _⟩ | exact ⟨hR _, hR _⟩) (fun hb51 => ?_) (fun hb51 => ?_)
          · skip
            refine xg_bipush 60 dX12_over_58 rfl (by decide) ?_
            refine xg_iloadn 61 dX12_over_60 rfl rfl rfl ?_
            refine xg_imul 62 dX12_over_61 rfl ?_
            refine xg_iloadn 63 dX12_over_62 rfl rfl rfl ?_
            refine xg_idiv 64 dX12_over_63 rfl (by first | omega | exact hR _ | exact ⟨hR _, by omega⟩ | exact ⟨by omega, hR _⟩ | exact ⟨hR _, hR _⟩) ?_
            subst hX
            exact xg_ireturn dX12_over_64 rfl ⟨Nat.le_refl _, Nat.le_refl _⟩ ⟨congrArg (fun v => some (J v)) (by unfold sOver; simp only [Bool.false_eq_true, if_true, if_false]; first | rw [if_pos hb51] | rw [if_neg hb51]), rfl⟩
          · skip
            refine xg_iconst 55 dX12_over_54 rfl ?_
            refine xg_goto 64 dX12_over_55 rfl ?_
            subst hX
            exact xg_ireturn dX12_over_64 rfl ⟨Nat.le_refl _, Nat.le_refl _⟩ ⟨congrArg (fun v => some (J v)) (by unfold sOver; simp only [Bool.false_eq_true, if_true, if_false]; first | rw [if_pos hb51] | rw [if_neg hb51]), rfl⟩

set_option maxHeartbeats 4000000 in
set_option maxRecDepth 100000 in
theorem ct_X12_over_f {E : xE} {z : Nat} {T : Nat → Nat × Int} {F : Nat → Nat → Int} {I : Nat → Int → Int} {P : Nat → Nat → Option Nat} {Y : Nat → Int → Option Nat} {m : Nat} {w : Int → Int} (hw : wM T P m) (hO : wOk w) : Ct E 5 mX12_over 0 0 [.ref m, J 0] (z, T, F, upA I (m + 1) w, P, Y) (xd (some (J (sOver w false))) (z, T, upF F m 0 0, upA I (m + 1) (w), P, Y)) := by
  obtain ⟨⟨q0, q1, q2, q3⟩, -⟩ := id hw
  obtain ⟨hR, o0, o1, o2, o3, o4, o5, o6, oc, o13, o14, o16, o17, o18, ov⟩ := id hO
  have hN := wN_i o0.1
  have hfn := sFndN_bd w
  have hal := sAllE_bd (w := w) o0.2
  have heb := sEnt_bd w 19
  have h8 := oc 8 (by omega) (by omega)
  have h9 := oc 9 (by omega) (by omega)
  refine Ct.of [some (.ref m), some (J 0), none, none] kt_X12_over rfl (Nat.le_of_ble_eq_true rfl) rfl (fun d hd => ?_)
  generalize hX : xN E _ _ _ = X
  refine xg_aloadn 1 dX12_over_0 rfl rfl rfl ?_
  refine xg_iconst 2 dX12_over_1 rfl ?_
  refine xg_putI 5 kf_RX12_3 dX12_over_2 rfl (by assumption) ?_
  refine xg_iloadn 6 dX12_over_5 rfl rfl rfl ?_
  refine xg_ifeq 19 9 dX12_over_6 rfl rfl (by first | omega | exact hR _ | exact ⟨hR _, by omega⟩ | exact ⟨by omega, hR _⟩ | exact ⟨hR _, hR _⟩) (fun hb6 => ?_) (fun hb6 => ?_)
  · first
    | (exfalso; omega)
    | skip
      refine xg_aloadn 20 dX12_over_19 rfl rfl rfl ?_
      refine xg_bipush 22 dX12_over_20 rfl (by decide) ?_
      refine xg_callV 25 12 [_] _ kv_X12_entriesOf ⟨_, _, rfl⟩ kl_RX12_268 dX12_over_22 rfl (by assumption) (by omega) rfl rfl (Nat.le_of_ble_eq_true rfl) (by omega) ⟨Nat.le_refl _, Nat.le_refl _⟩ (ct_X12_entriesOf hw hR (by omega)) rfl ?_
      refine xg_aloadn 26 dX12_over_25 rfl rfl rfl ?_
      refine xg_callV 29 12 [] _ kv_X12_allEntries ⟨_, _, rfl⟩ kl_RX12_379 dX12_over_26 rfl (by assumption) (by omega) rfl rfl (Nat.le_of_ble_eq_true rfl) (by omega) ⟨Nat.le_refl _, Nat.le_refl _⟩ (ct_X12_allEntries hw hO) rfl ?_
      refine xg_iadd 30 dX12_over_29 rfl ?_
      refine xg_istoren 31 _ dX12_over_30 rfl rfl rfl (by decide) (Or.inr rfl) ?_
      refine xg_iloadn 32 dX12_over_31 rfl rfl rfl ?_
      refine xg_ifeq 45 35 dX12_over_32 rfl rfl (by first | omega | exact hR _ | exact ⟨hR _, by omega⟩ | exact ⟨by omega, hR _⟩ | exact ⟨hR _, hR _⟩) (fun hb32 => ?_) (fun hb32 => ?_)
      · first
        | (exfalso; omega)
        | skip
          refine xg_aloadn 46 dX12_over_45 rfl rfl rfl ?_
          refine xg_callV 49 12 [] _ kv_X12_foundMany ⟨_, _, rfl⟩ kl_RX12_400 dX12_over_46 rfl (by assumption) (by omega) rfl rfl (Nat.le_of_ble_eq_true rfl) (by omega) ⟨Nat.le_refl _, Nat.le_refl _⟩ (ct_X12_foundMany hw hO) rfl ?_
          refine xg_istoren 50 _ dX12_over_49 rfl rfl rfl (by decide) (Or.inr rfl) ?_
          refine xg_iloadn 51 dX12_over_50 rfl rfl rfl ?_
          refine xg_ifne 58 54 dX12_over_51 rfl rfl (by first | omega | exact hR _ | exact ⟨hR _, by omega⟩ | exact ⟨by omega, hR _⟩ | exact ⟨hR _, hR _⟩) (fun hb51 => ?_) (fun hb51 => ?_)
          · skip
            refine xg_bipush 60 dX12_over_58 rfl (by decide) ?_
            refine xg_iloadn 61 dX12_over_60 rfl rfl rfl ?_
            refine xg_imul 62 dX12_over_61 rfl ?_
            refine xg_iloadn 63 dX12_over_62 rfl rfl rfl ?_
            refine xg_idiv 64 dX12_over_63 rfl (by first | omega | exact hR _ | exact ⟨hR _, by omega⟩ | exact ⟨by omega, hR _⟩ | exact ⟨hR _, hR _⟩) ?_
            subst hX
            exact xg_ireturn dX12_over_64 rfl ⟨Nat.le_refl _, Nat.le_refl _⟩ ⟨congrArg (fun v => some (J v)) (by unfold sOver; simp only [Bool.false_eq_true, if_true, if_false]; first | rw [if_pos hb51] | rw [if_neg hb51]), rfl⟩
          · skip
            refine xg_iconst 55 dX12_over_54 rfl ?_
            refine xg_goto 64 dX12_over_55 rfl ?_
            subst hX
            exact xg_ireturn dX12_over_64 rfl ⟨Nat.le_refl _, Nat.le_refl _⟩ ⟨congrArg (fun v => some (J v)) (by unfold sOver; simp only [Bool.false_eq_true, if_true, if_false]; first | rw [if_pos hb51] | rw [if_neg hb51]), rfl⟩
      · first
        | (exfalso; omega)
        | skip
          refine xg_aloadn 36 dX12_over_35 rfl rfl rfl ?_
          refine xg_getP 39 kf_RX12_13 dX12_over_36 rfl (by assumption) (by assumption) ?_
          refine xg_bipush 41 dX12_over_39 rfl (by decide) ?_
          refine xg_ialdW 42 dX12_over_41 rfl (by assumption) (by first | omega | exact hR _ | exact ⟨hR _, by omega⟩ | exact ⟨by omega, hR _⟩ | exact ⟨hR _, hR _⟩) ?_
          refine xg_goto 49 dX12_over_42 rfl ?_
          refine xg_istoren 50 _ dX12_over_49 rfl rfl rfl (by decide) (Or.inr rfl) ?_
          refine xg_iloadn 51 dX12_over_50 rfl rfl rfl ?_
          refine xg_ifne 58 54 dX12_over_51 rfl rfl (by first | omega | exact hR _ | exact ⟨hR _, by omega⟩ | exact ⟨by omega, hR _⟩ | exact ⟨hR _, hR _⟩) (fun hb51 => ?_) (fun hb51 => ?_)
          · skip
            refine xg_bipush 60 dX12_over_58 rfl (by decide) ?_
            refine xg_iloadn 61 dX12_over_60 rfl rfl rfl ?_
            refine xg_imul 62 dX12_over_61 rfl ?_
            refine xg_iloadn 63 dX12_over_62 rfl rfl rfl ?_
            refine xg_idiv 64 dX12_over_63 rfl (by first | omega | exact hR _ | exact ⟨hR _, by omega⟩ | exact ⟨by omega, hR _⟩ | exact ⟨hR _, hR _⟩) ?_
            subst hX
            exact xg_ireturn dX12_over_64 rfl ⟨Nat.le_refl _, Nat.le_refl _⟩ ⟨congrArg (fun v => some (J v)) (by unfold sOver; simp only [Bool.false_eq_true, if_true, if_false]; first | rw [if_pos hb51] | rw [if_neg hb51]), rfl⟩
          · skip
            refine xg_iconst 55 dX12_over_54 rfl ?_
            refine xg_goto 64 dX12_over_55 rfl ?_
            subst hX
            exact xg_ireturn dX12_over_64 rfl ⟨Nat.le_refl _, Nat.le_refl _⟩ ⟨congrArg (fun v => some (J v)) (by unfold sOver; simp only [Bool.false_eq_true, if_true, if_false]; first | rw [if_pos hb51] | rw [if_neg hb51]), rfl⟩
  · first
    | (exfalso; omega)
    | skip
      refine xg_aloadn 10 dX12_over_9 rfl rfl rfl ?_
      refine xg_getP 13 kf_RX12_13 dX12_over_10 rfl (by assumption) (by assumption) ?_
      refine xg_bipush 15 dX12_over_13 rfl (by decide) ?_
      refine xg_ialdW 16 dX12_over_15 rfl (by assumption) (by first | omega | exact hR _ | exact ⟨hR _, by omega⟩ | exact ⟨by omega, hR _⟩ | exact ⟨hR _, hR _⟩) ?_
      refine xg_goto 30 dX12_over_16 rfl ?_
      refine xg_istoren 31 _ dX12_over_30 rfl rfl rfl (by decide) (Or.inr rfl) ?_
      refine xg_iloadn 32 dX12_over_31 rfl rfl rfl ?_
      refine xg_ifeq 45 35 dX12_over_32 rfl rfl (by first | omega | exact hR _ | exact ⟨hR _, by omega⟩ | exact ⟨by omega, hR _⟩ | exact ⟨hR _, hR _⟩) (fun hb32 => ?_) (fun hb32 => ?_)
      · first
        | (exfalso; omega)
        | skip
          refine xg_aloadn 46 dX12_over_45 rfl rfl rfl ?_
          refine xg_callV 49 12 [] _ kv_X12_foundMany ⟨_, _, rfl⟩ kl_RX12_400 dX12_over_46 rfl (by assumption) (by omega) rfl rfl (Nat.le_of_ble_eq_true rfl) (by omega) ⟨Nat.le_refl _, Nat.le_refl _⟩ (ct_X12_foundMany hw hO) rfl ?_
          refine xg_istoren 50 _ dX12_over_49 rfl rfl rfl (by decide) (Or.inr rfl) ?_
          refine xg_iloadn 51 dX12_over_50 rfl rfl rfl ?_
          refine xg_ifne 58 54 dX12_over_51 rfl rfl (by first | omega | exact hR _ | exact ⟨hR _, by omega⟩ | exact ⟨by omega, hR _⟩ | exact ⟨hR _, hR _⟩) (fun hb51 => ?_) (fun hb51 => ?_)
          · skip
            refine xg_bipush 60 dX12_over_58 rfl (by decide) ?_
            refine xg_iloadn 61 dX12_over_60 rfl rfl rfl ?_
            refine xg_imul 62 dX12_over_61 rfl ?_
            refine xg_iloadn 63 dX12_over_62 rfl rfl rfl ?_
            refine xg_idiv 64 dX12_over_63 rfl (by first | omega | exact hR _ | exact ⟨hR _, by omega⟩ | exact ⟨by omega, hR _⟩ | exact ⟨hR _, hR _⟩) ?_
            subst hX
            exact xg_ireturn dX12_over_64 rfl ⟨Nat.le_refl _, Nat.le_refl _⟩ ⟨congrArg (fun v => some (J v)) (by unfold sOver; simp only [Bool.false_eq_true, if_true, if_false]; first | rw [if_pos hb51] | rw [if_neg hb51]), rfl⟩
          · skip
            refine xg_iconst 55 dX12_over_54 rfl ?_
            refine xg_goto 64 dX12_over_55 rfl ?_
            subst hX
            exact xg_ireturn dX12_over_64 rfl ⟨Nat.le_refl _, Nat.le_refl _⟩ ⟨congrArg (fun v => some (J v)) (by unfold sOver; simp only [Bool.false_eq_true, if_true, if_false]; first | rw [if_pos hb51] | rw [if_neg hb51]), rfl⟩
      · first
        | (exfalso; omega)
        | skip
          refine xg_aloadn 36 dX12_over_35 rfl rfl rfl ?_
          refine xg_getP 39 kf_RX12_13 dX12_over_36 rfl (by assumption) (by assumption) ?_
          refine xg_bipush 41 dX12_over_39 rfl (by decide) ?_
          refine xg_ialdW 42 dX12_over_41 rfl (by assumption) (by first | omega | exact hR _ | exact ⟨hR _, by omega⟩ | exact ⟨by omega, hR _⟩ | exact ⟨hR _, hR _⟩) ?_
          refine xg_goto 49 dX12_over_42 rfl ?_
          refine xg_istoren 50 _ dX12_over_49 rfl rfl rfl (by decide) (Or.inr rfl) ?_
          refine xg_iloadn 51 dX12_over_50 rfl rfl rfl ?_
          refine xg_ifne 58 54 dX12_over_51 rfl rfl (by first | omega | exact hR _ | exact ⟨hR _, by omega⟩ | exact ⟨by omega, hR _⟩ | exact ⟨hR _, hR _⟩) (fun hb51 => ?_) (fun hb51 => ?_)
          · skip
            refine xg_bipush 60 dX12_over_58 rfl (by decide) ?_
            refine xg_iloadn 61 dX12_over_60 rfl rfl rfl ?_
            refine xg_imul 62 dX12_over_61 rfl ?_
            refine xg_iloadn 63 dX12_over_62 rfl rfl rfl ?_
            refine xg_idiv 64 dX12_over_63 rfl (by first | omega | exact hR _ | exact ⟨hR _, by omega⟩ | exact ⟨by omega, hR _⟩ | exact ⟨hR _, hR _⟩) ?_
            subst hX
            exact xg_ireturn dX12_over_64 rfl ⟨Nat.le_refl _, Nat.le_refl _⟩ ⟨congrArg (fun v => some (J v)) (by unfold sOver; simp only [Bool.false_eq_true, if_true, if_false]; first | rw [if_pos hb51] | rw [if_neg hb51]), rfl⟩
          · skip
            refine xg_iconst 55 dX12_over_54 rfl ?_
            refine xg_goto 64 dX12_over_55 rfl ?_
            subst hX
            exact xg_ireturn dX12_over_64 rfl ⟨Nat.le_refl _, Nat.le_refl _⟩ ⟨congrArg (fun v => some (J v)) (by unfold sOver; simp only [Bool.false_eq_true, if_true, if_false]; first | rw [if_pos hb51] | rw [if_neg hb51]), rfl⟩

-- 
theorem dX12_amountOf_0 : decode cX12_amountOf 0 = .ok (.iload_n 1, 1) := by decide +kernel
theorem dX12_amountOf_1 : decode cX12_amountOf 1 = .ok (.ifCond .ne 14, 3) := by decide +kernel
theorem dX12_amountOf_4 : decode cX12_amountOf 4 = .ok (.aload_n 0, 1) := by decide +kernel
theorem dX12_amountOf_5 : decode cX12_amountOf 5 = .ok (.iload_n 2, 1) := by decide +kernel
theorem dX12_amountOf_6 : decode cX12_amountOf 6 = .ok (.invokestatic 133, 3) := by decide +kernel
theorem dX12_amountOf_9 : decode cX12_amountOf 9 = .ok (.invokevirtual 268, 3) := by decide +kernel
theorem dX12_amountOf_12 : decode cX12_amountOf 12 = .ok (.goto 8, 3) := by decide +kernel
theorem dX12_amountOf_15 : decode cX12_amountOf 15 = .ok (.aload_n 0, 1) := by decide +kernel
theorem dX12_amountOf_16 : decode cX12_amountOf 16 = .ok (.iload_n 2, 1) := by decide +kernel
theorem dX12_amountOf_17 : decode cX12_amountOf 17 = .ok (.invokevirtual 376, 3) := by decide +kernel
theorem dX12_amountOf_20 : decode cX12_amountOf 20 = .ok (.ireturn, 1) := by decide +kernel
set_option maxHeartbeats 4000000 in
set_option maxRecDepth 100000 in
theorem ct_X12_amountOf {E : xE} {z : Nat} {T : Nat → Nat × Int} {F : Nat → Nat → Int} {I : Nat → Int → Int} {P : Nat → Nat → Option Nat} {Y : Nat → Int → Option Nat} {m : Nat} {w : Int → Int} (hw : wM T P m) (hO : wOk w){x : Int} (hx : 0 ≤ x ∧ x ≤ 1) {r : Nat} (hr : (r : Int) < w 0) : Ct E 3 mX12_amountOf 0 0 [.ref m, J x, J (r : Int)] (z, T, F, upA I (m + 1) w, P, Y) (xd (some (J (sAm w x r))) (z, T, F, upA I (m + 1) w, P, Y)) := by
  obtain ⟨⟨q0, q1, q2, q3⟩, -⟩ := id hw
  obtain ⟨hR, o0, o1, o2, o3, o4, o5, o6, oc, o13, o14, o16, o17, o18, ov⟩ := id hO
  have hN := wN_i o0.1
  refine Ct.of [some (.ref m), some (J x), some (J (r : Int))] kt_X12_amountOf rfl (Nat.le_of_ble_eq_true rfl) rfl (fun d hd => ?_)
  generalize hX : xN E _ _ _ = X
  refine xg_iloadn 1 dX12_amountOf_0 rfl rfl rfl ?_
  refine xg_ifne 15 4 dX12_amountOf_1 rfl rfl (by first | omega | exact hR _ | exact ⟨hR _, by omega⟩ | exact ⟨by omega, hR _⟩ | exact ⟨hR _, hR _⟩) (fun hb1 => ?_) (fun hb1 => ?_)
  · skip
    refine xg_aloadn 16 dX12_amountOf_15 rfl rfl rfl ?_
    refine xg_iloadn 17 dX12_amountOf_16 rfl rfl rfl ?_
    refine xg_callV 20 12 [_] _ kv_X12_mostRewritten ⟨_, _, rfl⟩ kl_RX12_376 dX12_amountOf_17 rfl (by assumption) (by omega) rfl rfl (Nat.le_of_ble_eq_true rfl) (by omega) ⟨Nat.le_refl _, Nat.le_refl _⟩ (ct_X12_mostRewritten hw hO (by omega)) rfl ?_
    subst hX
    exact xg_ireturn dX12_amountOf_20 rfl ⟨Nat.le_refl _, Nat.le_refl _⟩ ⟨congrArg (fun v => some (J v)) (by unfold sAm; first | rw [if_pos hb1] | rw [if_neg hb1]), rfl⟩
  · skip
    refine xg_aloadn 5 dX12_amountOf_4 rfl rfl rfl ?_
    refine xg_iloadn 6 dX12_amountOf_5 rfl rfl rfl ?_
    refine xg_callS 9 [_] _ ks_X12_rowOf kl_RX12_133 dX12_amountOf_6 rfl rfl rfl (Nat.le_of_ble_eq_true rfl) (by omega) ⟨Nat.le_refl _, Nat.le_refl _⟩ (ct_X12_rowOf) rfl ?_
    refine xg_callV 12 12 [_] _ kv_X12_entriesOf ⟨_, _, rfl⟩ kl_RX12_268 dX12_amountOf_9 rfl (by assumption) (by omega) rfl rfl (Nat.le_of_ble_eq_true rfl) (by omega) ⟨Nat.le_refl _, Nat.le_refl _⟩ (ct_X12_entriesOf hw hR (by omega)) rfl ?_
    refine xg_goto 20 dX12_amountOf_12 rfl ?_
    subst hX
    exact xg_ireturn dX12_amountOf_20 rfl ⟨Nat.le_refl _, Nat.le_refl _⟩ ⟨congrArg (fun v => some (J v)) (by unfold sAm; first | rw [if_pos hb1] | rw [if_neg hb1]), rfl⟩

theorem dX12_most_0 : decode cX12_most 0 = .ok (.aload_n 0, 1) := by decide +kernel
theorem dX12_most_1 : decode cX12_most 1 = .ok (.iconst 0, 1) := by decide +kernel
theorem dX12_most_2 : decode cX12_most 2 = .ok (.putfield 3, 3) := by decide +kernel
theorem dX12_most_5 : decode cX12_most 5 = .ok (.aload_n 0, 1) := by decide +kernel
theorem dX12_most_6 : decode cX12_most 6 = .ok (.iload_n 1, 1) := by decide +kernel
theorem dX12_most_7 : decode cX12_most 7 = .ok (.iconst 0, 1) := by decide +kernel
theorem dX12_most_8 : decode cX12_most 8 = .ok (.iconst 1, 1) := by decide +kernel
theorem dX12_most_9 : decode cX12_most 9 = .ok (.invokestatic 70, 3) := by decide +kernel
theorem dX12_most_12 : decode cX12_most 12 = .ok (.ifCond .ne 7, 3) := by decide +kernel
theorem dX12_most_15 : decode cX12_most 15 = .ok (.iconst 1, 1) := by decide +kernel
theorem dX12_most_16 : decode cX12_most 16 = .ok (.goto 4, 3) := by decide +kernel
theorem dX12_most_19 : decode cX12_most 19 = .ok (.iconst 0, 1) := by decide +kernel
theorem dX12_most_20 : decode cX12_most 20 = .ok (.iconst 1, 1) := by decide +kernel
theorem dX12_most_21 : decode cX12_most 21 = .ok (.invokevirtual 251, 3) := by decide +kernel
theorem dX12_most_24 : decode cX12_most 24 = .ok (.ifCond .eq 5, 3) := by decide +kernel
theorem dX12_most_27 : decode cX12_most 27 = .ok (.iconst 0, 1) := by decide +kernel
theorem dX12_most_28 : decode cX12_most 28 = .ok (.ireturn, 1) := by decide +kernel
theorem dX12_most_29 : decode cX12_most 29 = .ok (.iconst (-1), 1) := by decide +kernel
theorem dX12_most_30 : decode cX12_most 30 = .ok (.istore_n 2, 1) := by decide +kernel
theorem dX12_most_31 : decode cX12_most 31 = .ok (.iconst 0, 1) := by decide +kernel
theorem dX12_most_32 : decode cX12_most 32 = .ok (.istore_n 3, 1) := by decide +kernel
theorem dX12_most_33 : decode cX12_most 33 = .ok (.iload_n 3, 1) := by decide +kernel
theorem dX12_most_34 : decode cX12_most 34 = .ok (.aload_n 0, 1) := by decide +kernel
theorem dX12_most_35 : decode cX12_most 35 = .ok (.invokevirtual 66, 3) := by decide +kernel
theorem dX12_most_38 : decode cX12_most 38 = .ok (.if_icmp .ge 35, 3) := by decide +kernel
theorem dX12_most_41 : decode cX12_most 41 = .ok (.iload_n 2, 1) := by decide +kernel
theorem dX12_most_42 : decode cX12_most 42 = .ok (.iconst (-1), 1) := by decide +kernel
theorem dX12_most_43 : decode cX12_most 43 = .ok (.if_icmp .eq 18, 3) := by decide +kernel
theorem dX12_most_46 : decode cX12_most 46 = .ok (.aload_n 0, 1) := by decide +kernel
theorem dX12_most_47 : decode cX12_most 47 = .ok (.iload_n 1, 1) := by decide +kernel
theorem dX12_most_48 : decode cX12_most 48 = .ok (.iload_n 3, 1) := by decide +kernel
theorem dX12_most_49 : decode cX12_most 49 = .ok (.invokevirtual 465, 3) := by decide +kernel
theorem dX12_most_52 : decode cX12_most 52 = .ok (.aload_n 0, 1) := by decide +kernel
theorem dX12_most_53 : decode cX12_most 53 = .ok (.iload_n 1, 1) := by decide +kernel
theorem dX12_most_54 : decode cX12_most 54 = .ok (.iload_n 2, 1) := by decide +kernel
theorem dX12_most_55 : decode cX12_most 55 = .ok (.invokevirtual 465, 3) := by decide +kernel
theorem dX12_most_58 : decode cX12_most 58 = .ok (.if_icmp .le 7, 3) := by decide +kernel
theorem dX12_most_61 : decode cX12_most 61 = .ok (.iload_n 3, 1) := by decide +kernel
theorem dX12_most_62 : decode cX12_most 62 = .ok (.goto 4, 3) := by decide +kernel
theorem dX12_most_65 : decode cX12_most 65 = .ok (.iload_n 2, 1) := by decide +kernel
theorem dX12_most_66 : decode cX12_most 66 = .ok (.istore_n 2, 1) := by decide +kernel
theorem dX12_most_67 : decode cX12_most 67 = .ok (.iinc 3 1, 3) := by decide +kernel
theorem dX12_most_70 : decode cX12_most 70 = .ok (.goto (-37), 3) := by decide +kernel
theorem dX12_most_73 : decode cX12_most 73 = .ok (.iload_n 2, 1) := by decide +kernel
theorem dX12_most_74 : decode cX12_most 74 = .ok (.ireturn, 1) := by decide +kernel
set_option maxHeartbeats 4000000 in
set_option maxRecDepth 100000 in
theorem ct_X12_most_t1 {E : xE} {z : Nat} {T : Nat → Nat × Int} {F : Nat → Nat → Int} {I : Nat → Int → Int} {P : Nat → Nat → Option Nat} {Y : Nat → Int → Option Nat} {m : Nat} {w : Int → Int} (hw : wM T P m) (hO : wOk w){v : Int} (hv : -2147483648 ≤ v ∧ v < 2147483648) (hb : ¬ (0 ≤ v ∧ v ≤ 1)) : Ct E 1 mX12_most 0 0 [.ref m, J v] (z, T, F, upA I (m + 1) w, P, Y) (xd (some (J 0)) (z, T, upF F m 0 1, upA I (m + 1) (w), P, Y)) := by
  obtain ⟨⟨q0, q1, q2, q3⟩, -⟩ := id hw
  obtain ⟨hR, o0, o1, o2, o3, o4, o5, o6, oc, o13, o14, o16, o17, o18, ov⟩ := id hO
  have hN := wN_i o0.1
  refine Ct.of [some (.ref m), some (J v), none, none] kt_X12_most rfl (Nat.le_of_ble_eq_true rfl) rfl (fun d hd => ?_)
  generalize hX : xN E _ _ _ = X
  refine xg_aloadn 1 dX12_most_0 rfl rfl rfl ?_
  refine xg_iconst 2 dX12_most_1 rfl ?_
  refine xg_putI 5 kf_RX12_3 dX12_most_2 rfl (by assumption) ?_
  refine xg_aloadn 6 dX12_most_5 rfl rfl rfl ?_
  refine xg_iloadn 7 dX12_most_6 rfl rfl rfl ?_
  refine xg_iconst 8 dX12_most_7 rfl ?_
  refine xg_iconst 9 dX12_most_8 rfl ?_
  refine xg_callS 12 [_, _, _] _ ks_X12_in kl_RX12_70 dX12_most_9 rfl rfl rfl (Nat.le_of_ble_eq_true rfl) (by omega) ⟨Nat.le_refl _, Nat.le_refl _⟩ (ct_X12_in (by omega)) rfl ?_
  refine xg_dne 19 15 dX12_most_12 rfl rfl (fun hb12 => ?_) (fun hb12 => ?_)
  · first
    | (exfalso; omega)
    | skip
      refine xg_iconst 20 dX12_most_19 rfl ?_
      refine xg_iconst 21 dX12_most_20 rfl ?_
      refine xg_callV 24 12 [_, _] _ kv_X12_throwsIf ⟨_, _, rfl⟩ kl_RX12_251 dX12_most_21 rfl (by assumption) (by omega) rfl rfl (Nat.le_of_ble_eq_true rfl) (by omega) ⟨Nat.le_refl _, Nat.le_refl _⟩ (ct_throwsF hw) rfl ?_
      refine xg_ifeq 29 27 dX12_most_24 rfl rfl (by first | omega | exact hR _ | exact ⟨hR _, by omega⟩ | exact ⟨by omega, hR _⟩ | exact ⟨hR _, hR _⟩) (fun hb24 => ?_) (fun hb24 => ?_)
      · skip
        exfalso; omega
      · exfalso; omega
  · first
    | (exfalso; omega)
    | skip
      refine xg_iconst 16 dX12_most_15 rfl ?_
      refine xg_goto 20 dX12_most_16 rfl ?_
      refine xg_iconst 21 dX12_most_20 rfl ?_
      refine xg_callV 24 12 [_, _] _ kv_X12_throwsIf ⟨_, _, rfl⟩ kl_RX12_251 dX12_most_21 rfl (by assumption) (by omega) rfl rfl (Nat.le_of_ble_eq_true rfl) (by omega) ⟨Nat.le_refl _, Nat.le_refl _⟩ (ct_throwsT hw) rfl ?_
      refine xg_ifeq 29 27 dX12_most_24 rfl rfl (by first | omega | exact hR _ | exact ⟨hR _, by omega⟩ | exact ⟨by omega, hR _⟩ | exact ⟨hR _, hR _⟩) (fun hb24 => ?_) (fun hb24 => ?_)
      · exfalso; omega
      · skip
        refine xg_iconst 28 dX12_most_27 rfl ?_
        subst hX
        exact xg_ireturn dX12_most_28 rfl ⟨Nat.le_refl _, Nat.le_refl _⟩ ⟨rfl, by rw [upF_upF]⟩

set_option maxHeartbeats 4000000 in
set_option maxRecDepth 100000 in
theorem ct_X12_most {E : xE} {z : Nat} {T : Nat → Nat × Int} {F : Nat → Nat → Int} {I : Nat → Int → Int} {P : Nat → Nat → Option Nat} {Y : Nat → Int → Option Nat} {m : Nat} {w : Int → Int} (hw : wM T P m) (hO : wOk w){x : Int} (hx : 0 ≤ x ∧ x ≤ 1) : Ct E 4 mX12_most 0 0 [.ref m, J x] (z, T, F, upA I (m + 1) w, P, Y) (xd (some (J (sMst w x (wN w)))) (z, T, upF F m 0 0, upA I (m + 1) (w), P, Y)) := by
  obtain ⟨⟨q0, q1, q2, q3⟩, -⟩ := id hw
  obtain ⟨hR, o0, o1, o2, o3, o4, o5, o6, oc, o13, o14, o16, o17, o18, ov⟩ := id hO
  have hN := wN_i o0.1
  refine Ct.of [some (.ref m), some (J x), none, none] kt_X12_most rfl (Nat.le_of_ble_eq_true rfl) rfl (fun d hd => ?_)
  generalize hX : xN E _ _ _ = X
  refine xg_aloadn 1 dX12_most_0 rfl rfl rfl ?_
  refine xg_iconst 2 dX12_most_1 rfl ?_
  refine xg_putI 5 kf_RX12_3 dX12_most_2 rfl (by assumption) ?_
  refine xg_aloadn 6 dX12_most_5 rfl rfl rfl ?_
  refine xg_iloadn 7 dX12_most_6 rfl rfl rfl ?_
  refine xg_iconst 8 dX12_most_7 rfl ?_
  refine xg_iconst 9 dX12_most_8 rfl ?_
  refine xg_callS 12 [_, _, _] _ ks_X12_in kl_RX12_70 dX12_most_9 rfl rfl rfl (Nat.le_of_ble_eq_true rfl) (by omega) ⟨Nat.le_refl _, Nat.le_refl _⟩ (ct_X12_in (by omega)) rfl ?_
  refine xg_dne 19 15 dX12_most_12 rfl rfl (fun hb12 => ?_) (fun hb12 => ?_)
  · first
    | (exfalso; omega)
    | skip
      refine xg_iconst 20 dX12_most_19 rfl ?_
      refine xg_iconst 21 dX12_most_20 rfl ?_
      refine xg_callV 24 12 [_, _] _ kv_X12_throwsIf ⟨_, _, rfl⟩ kl_RX12_251 dX12_most_21 rfl (by assumption) (by omega) rfl rfl (Nat.le_of_ble_eq_true rfl) (by omega) ⟨Nat.le_refl _, Nat.le_refl _⟩ (ct_throwsF hw) rfl ?_
      refine xg_ifeq 29 27 dX12_most_24 rfl rfl (by first | omega | exact hR _ | exact ⟨hR _, by omega⟩ | exact ⟨by omega, hR _⟩ | exact ⟨hR _, hR _⟩) (fun hb24 => ?_) (fun hb24 => ?_)
      · skip
        refine xg_iconst 30 dX12_most_29 rfl ?_
        refine xg_istoren 31 _ dX12_most_30 rfl rfl rfl (by decide) (Or.inr rfl) ?_
        refine xg_iconst 32 dX12_most_31 rfl ?_
        refine xg_istoren 33 _ dX12_most_32 rfl rfl rfl (by decide) (Or.inr rfl) ?_
        have loop33 : ∀ (mm : Nat) (r : Nat), ((r : Int) ≤ w 0) → w 0 - r < (mm : Int) → xG E mX12_most (xR d 0 0) X 33 [some (.ref m), some (J x), some (J (sMst w x r)), some (J (r : Int))] [] (z, T, upF F m 0 0, upA I (m + 1) (w), P, Y) 0 0 := by
          intro mm
          induction mm with
          | zero => intro r hr hm; exfalso; omega
          | succ mm ih =>
            intro r hr hm
            have hmb := sMst_bd w x r
            have hab1 := sAm_bd hO (x := x) (r := (r : Int))
            refine xg_iloadn 34 dX12_most_33 rfl rfl rfl ?_
            refine xg_aloadn 35 dX12_most_34 rfl rfl rfl ?_
            refine xg_callV 38 12 [] _ kv_X12_runs ⟨_, _, rfl⟩ kl_RX12_66 dX12_most_35 rfl (by assumption) (by omega) rfl rfl (Nat.le_of_ble_eq_true rfl) (by omega) ⟨Nat.le_refl _, Nat.le_refl _⟩ (ct_X12_runs hw) rfl ?_
            refine xg_icge 73 41 dX12_most_38 rfl rfl (by first | omega | exact hR _ | exact ⟨hR _, by omega⟩ | exact ⟨by omega, hR _⟩ | exact ⟨hR _, hR _⟩) (fun hb38 => ?_) (fun hb38 => ?_)
            · skip
              refine xg_iloadn 74 dX12_most_73 rfl rfl rfl ?_
              subst hX
              exact xg_ireturn dX12_most_74 rfl ⟨Nat.le_refl _, Nat.le_refl _⟩ ⟨by rw [show r = wN w by omega], rfl⟩
            · skip
              refine xg_iloadn 42 dX12_most_41 rfl rfl rfl ?_
              refine xg_iconst 43 dX12_most_42 rfl ?_
              refine xg_iceq 61 46 dX12_most_43 rfl rfl (by first | omega | exact hR _ | exact ⟨hR _, by omega⟩ | exact ⟨by omega, hR _⟩ | exact ⟨hR _, hR _⟩) (fun hb43 => ?_) (fun hb43 => ?_)
              · skip
                refine xg_iloadn 62 dX12_most_61 rfl rfl rfl ?_
                refine xg_goto 66 dX12_most_62 rfl ?_
                refine xg_istoren 67 _ dX12_most_66 rfl rfl rfl (by decide) (Or.inr rfl) ?_
                refine xg_iinc 70 _ dX12_most_67 rfl rfl rfl rfl (by decide) (Or.inr rfl) ?_
                refine xg_goto 33 dX12_most_70 rfl ?_
                exact xg_weak _ (xle_s rfl (xle_s rfl (xle_s (by rw [sMst, if_pos (Or.inl hb43)]) (xle_s rfl xle_0)))) (ih (r + 1) (by omega) (by omega))
              · skip
                obtain ⟨b, hbm⟩ : ∃ b : Nat, (b : Int) = sMst w x r := ⟨(sMst w x r).toNat, by omega⟩
                have hab2 := sAm_bd hO (x := x) (r := (b : Int)) (by omega)
                rw [← hbm]
                rw [← hbm] at hb43
                refine xg_aloadn 47 dX12_most_46 rfl rfl rfl ?_
                refine xg_iloadn 48 dX12_most_47 rfl rfl rfl ?_
                refine xg_iloadn 49 dX12_most_48 rfl rfl rfl ?_
                refine xg_callV 52 12 [_, _] _ kv_X12_amountOf ⟨_, _, rfl⟩ kl_RX12_465 dX12_most_49 rfl (by assumption) (by omega) rfl rfl (Nat.le_of_ble_eq_true rfl) (by omega) ⟨Nat.le_refl _, Nat.le_refl _⟩ (ct_X12_amountOf hw hO (by omega) (by omega)) rfl ?_
                refine xg_aloadn 53 dX12_most_52 rfl rfl rfl ?_
                refine xg_iloadn 54 dX12_most_53 rfl rfl rfl ?_
                refine xg_iloadn 55 dX12_most_54 rfl rfl rfl ?_
                refine xg_callV 58 12 [_, _] _ kv_X12_amountOf ⟨_, _, rfl⟩ kl_RX12_465 dX12_most_55 rfl (by assumption) (by omega) rfl rfl (Nat.le_of_ble_eq_true rfl) (by omega) ⟨Nat.le_refl _, Nat.le_refl _⟩ (ct_X12_amountOf hw hO (by omega) (by omega)) rfl ?_
                rw [hbm] at hab2 ⊢
                refine xg_icle 65 61 dX12_most_58 rfl rfl (by first | omega | exact hR _ | exact ⟨hR _, by omega⟩ | exact ⟨by omega, hR _⟩ | exact ⟨hR _, hR _⟩) (fun hb58 => ?_) (fun hb58 => ?_)
                · skip
                  refine xg_iloadn 66 dX12_most_65 rfl rfl rfl ?_
                  refine xg_istoren 67 _ dX12_most_66 rfl rfl rfl (by decide) (Or.inr rfl) ?_
                  refine xg_iinc 70 _ dX12_most_67 rfl rfl rfl rfl (by decide) (Or.inr rfl) ?_
                  refine xg_goto 33 dX12_most_70 rfl ?_
                  exact xg_weak _ (xle_s rfl (xle_s rfl (xle_s (by rw [sMst, if_neg (fun q => by omega)]) (xle_s rfl xle_0)))) (ih (r + 1) (by omega) (by omega))
                · skip
                  refine xg_iloadn 62 dX12_most_61 rfl rfl rfl ?_
                  refine xg_goto 66 dX12_most_62 rfl ?_
                  refine xg_istoren 67 _ dX12_most_66 rfl rfl rfl (by decide) (Or.inr rfl) ?_
                  refine xg_iinc 70 _ dX12_most_67 rfl rfl rfl rfl (by decide) (Or.inr rfl) ?_
                  refine xg_goto 33 dX12_most_70 rfl ?_
                  exact xg_weak _ (xle_s rfl (xle_s rfl (xle_s (by rw [sMst, if_pos (Or.inr hb58)]) (xle_s rfl xle_0)))) (ih (r + 1) (by omega) (by omega))
        exact xg_weak _ (xle_s rfl (xle_s rfl (xle_s rfl (xle_s rfl xle_0)))) (loop33 20 0 (by omega) (by omega))
      · exfalso; omega
  · first
    | (exfalso; omega)
    | skip
      refine xg_iconst 16 dX12_most_15 rfl ?_
      refine xg_goto 20 dX12_most_16 rfl ?_
      refine xg_iconst 21 dX12_most_20 rfl ?_
      refine xg_callV 24 12 [_, _] _ kv_X12_throwsIf ⟨_, _, rfl⟩ kl_RX12_251 dX12_most_21 rfl (by assumption) (by omega) rfl rfl (Nat.le_of_ble_eq_true rfl) (by omega) ⟨Nat.le_refl _, Nat.le_refl _⟩ (ct_throwsT hw) rfl ?_
      refine xg_ifeq 29 27 dX12_most_24 rfl rfl (by first | omega | exact hR _ | exact ⟨hR _, by omega⟩ | exact ⟨by omega, hR _⟩ | exact ⟨hR _, hR _⟩) (fun hb24 => ?_) (fun hb24 => ?_)
      · exfalso; omega
      · skip
        exfalso; omega

theorem dX12_twins_0 : decode cX12_twins 0 = .ok (.aload_n 0, 1) := by decide +kernel
theorem dX12_twins_1 : decode cX12_twins 1 = .ok (.iconst 0, 1) := by decide +kernel
theorem dX12_twins_2 : decode cX12_twins 2 = .ok (.putfield 3, 3) := by decide +kernel
theorem dX12_twins_5 : decode cX12_twins 5 = .ok (.iconst 0, 1) := by decide +kernel
theorem dX12_twins_6 : decode cX12_twins 6 = .ok (.istore_n 1, 1) := by decide +kernel
theorem dX12_twins_7 : decode cX12_twins 7 = .ok (.iconst 0, 1) := by decide +kernel
theorem dX12_twins_8 : decode cX12_twins 8 = .ok (.istore_n 2, 1) := by decide +kernel
theorem dX12_twins_9 : decode cX12_twins 9 = .ok (.iload_n 2, 1) := by decide +kernel
theorem dX12_twins_10 : decode cX12_twins 10 = .ok (.aload_n 0, 1) := by decide +kernel
theorem dX12_twins_11 : decode cX12_twins 11 = .ok (.invokevirtual 66, 3) := by decide +kernel
theorem dX12_twins_14 : decode cX12_twins 14 = .ok (.if_icmp .ge 62, 3) := by decide +kernel
theorem dX12_twins_17 : decode cX12_twins 17 = .ok (.iconst 0, 1) := by decide +kernel
theorem dX12_twins_18 : decode cX12_twins 18 = .ok (.istore_n 3, 1) := by decide +kernel
theorem dX12_twins_19 : decode cX12_twins 19 = .ok (.iload_n 3, 1) := by decide +kernel
theorem dX12_twins_20 : decode cX12_twins 20 = .ok (.iload_n 2, 1) := by decide +kernel
theorem dX12_twins_21 : decode cX12_twins 21 = .ok (.if_icmp .ge 49, 3) := by decide +kernel
theorem dX12_twins_24 : decode cX12_twins 24 = .ok (.iload_n 1, 1) := by decide +kernel
theorem dX12_twins_25 : decode cX12_twins 25 = .ok (.aload_n 0, 1) := by decide +kernel
theorem dX12_twins_26 : decode cX12_twins 26 = .ok (.iload_n 2, 1) := by decide +kernel
theorem dX12_twins_27 : decode cX12_twins 27 = .ok (.invokevirtual 120, 3) := by decide +kernel
theorem dX12_twins_30 : decode cX12_twins 30 = .ok (.aload_n 0, 1) := by decide +kernel
theorem dX12_twins_31 : decode cX12_twins 31 = .ok (.iload_n 3, 1) := by decide +kernel
theorem dX12_twins_32 : decode cX12_twins 32 = .ok (.invokevirtual 120, 3) := by decide +kernel
theorem dX12_twins_35 : decode cX12_twins 35 = .ok (.if_icmp .ne 26, 3) := by decide +kernel
theorem dX12_twins_38 : decode cX12_twins 38 = .ok (.aload_n 0, 1) := by decide +kernel
theorem dX12_twins_39 : decode cX12_twins 39 = .ok (.iload_n 2, 1) := by decide +kernel
theorem dX12_twins_40 : decode cX12_twins 40 = .ok (.invokestatic 133, 3) := by decide +kernel
theorem dX12_twins_43 : decode cX12_twins 43 = .ok (.invokevirtual 268, 3) := by decide +kernel
theorem dX12_twins_46 : decode cX12_twins 46 = .ok (.aload_n 0, 1) := by decide +kernel
theorem dX12_twins_47 : decode cX12_twins 47 = .ok (.iload_n 3, 1) := by decide +kernel
theorem dX12_twins_48 : decode cX12_twins 48 = .ok (.invokestatic 133, 3) := by decide +kernel
theorem dX12_twins_51 : decode cX12_twins 51 = .ok (.invokevirtual 268, 3) := by decide +kernel
theorem dX12_twins_54 : decode cX12_twins 54 = .ok (.if_icmp .ne 7, 3) := by decide +kernel
theorem dX12_twins_57 : decode cX12_twins 57 = .ok (.iconst 1, 1) := by decide +kernel
theorem dX12_twins_58 : decode cX12_twins 58 = .ok (.goto 4, 3) := by decide +kernel
theorem dX12_twins_61 : decode cX12_twins 61 = .ok (.iconst 0, 1) := by decide +kernel
theorem dX12_twins_62 : decode cX12_twins 62 = .ok (.iadd, 1) := by decide +kernel
theorem dX12_twins_63 : decode cX12_twins 63 = .ok (.istore_n 1, 1) := by decide +kernel
theorem dX12_twins_64 : decode cX12_twins 64 = .ok (.iinc 3 1, 3) := by decide +kernel
theorem dX12_twins_67 : decode cX12_twins 67 = .ok (.goto (-48), 3) := by decide +kernel
theorem dX12_twins_70 : decode cX12_twins 70 = .ok (.iinc 2 1, 3) := by decide +kernel
theorem dX12_twins_73 : decode cX12_twins 73 = .ok (.goto (-64), 3) := by decide +kernel
theorem dX12_twins_76 : decode cX12_twins 76 = .ok (.iload_n 1, 1) := by decide +kernel
theorem dX12_twins_77 : decode cX12_twins 77 = .ok (.ireturn, 1) := by decide +kernel
set_option maxHeartbeats 4000000 in
set_option maxRecDepth 100000 in
theorem ct_X12_twins {E : xE} {z : Nat} {T : Nat → Nat × Int} {F : Nat → Nat → Int} {I : Nat → Int → Int} {P : Nat → Nat → Option Nat} {Y : Nat → Int → Option Nat} {m : Nat} {w : Int → Int} (hw : wM T P m) (hO : wOk w) : Ct E 2 mX12_twins 0 0 [.ref m] (z, T, F, upA I (m + 1) w, P, Y) (xd (some (J (sTw w (wN w)))) (z, T, upF F m 0 0, upA I (m + 1) (w), P, Y)) := by
  obtain ⟨⟨q0, q1, q2, q3⟩, -⟩ := id hw
  obtain ⟨hR, o0, o1, o2, o3, o4, o5, o6, oc, o13, o14, o16, o17, o18, ov⟩ := id hO
  have hN := wN_i o0.1
  refine Ct.of [some (.ref m), none, none, none] kt_X12_twins rfl (Nat.le_of_ble_eq_true rfl) rfl (fun d hd => ?_)
  generalize hX : xN E _ _ _ = X
  refine xg_aloadn 1 dX12_twins_0 rfl rfl rfl ?_
  refine xg_iconst 2 dX12_twins_1 rfl ?_
  refine xg_putI 5 kf_RX12_3 dX12_twins_2 rfl (by assumption) ?_
  refine xg_iconst 6 dX12_twins_5 rfl ?_
  refine xg_istoren 7 _ dX12_twins_6 rfl rfl rfl (by decide) (Or.inr rfl) ?_
  refine xg_iconst 8 dX12_twins_7 rfl ?_
  refine xg_istoren 9 _ dX12_twins_8 rfl rfl rfl (by decide) (Or.inr rfl) ?_
  have loop9 : ∀ (mm : Nat) (a : Nat) (v : Option Value), ((a : Int) ≤ w 0) → w 0 - a < (mm : Int) → xG E mX12_twins (xR d 0 0) X 9 [some (.ref m), some (J (sTw w a)), some (J (a : Int)), none] [] (z, T, upF F m 0 0, upA I (m + 1) (w), P, Y) 0 0 := by
    intro mm
    induction mm with
    | zero => intro a v ha hm; exfalso; omega
    | succ mm ih =>
      intro a v ha hm
      have htb := sTw_bd w (k := a) (by omega)
      refine xg_iloadn 10 dX12_twins_9 rfl rfl rfl ?_
      refine xg_aloadn 11 dX12_twins_10 rfl rfl rfl ?_
      refine xg_callV 14 12 [] _ kv_X12_runs ⟨_, _, rfl⟩ kl_RX12_66 dX12_twins_11 rfl (by assumption) (by omega) rfl rfl (Nat.le_of_ble_eq_true rfl) (by omega) ⟨Nat.le_refl _, Nat.le_refl _⟩ (ct_X12_runs hw) rfl ?_
      refine xg_icge 76 17 dX12_twins_14 rfl rfl (by first | omega | exact hR _ | exact ⟨hR _, by omega⟩ | exact ⟨by omega, hR _⟩ | exact ⟨hR _, hR _⟩) (fun hb14 => ?_) (fun hb14 => ?_)
      · skip
        refine xg_iloadn 77 dX12_twins_76 rfl rfl rfl ?_
        subst hX
        exact xg_ireturn dX12_twins_77 rfl ⟨Nat.le_refl _, Nat.le_refl _⟩ ⟨by rw [show a = wN w by omega], rfl⟩
      · skip
        refine xg_iconst 18 dX12_twins_17 rfl ?_
        refine xg_istoren 19 _ dX12_twins_18 rfl rfl rfl (by decide) (Or.inr rfl) ?_
        have loop19 : ∀ (mm : Nat) (b : Nat), (b ≤ a) → (a : Int) - b < (mm : Int) → xG E mX12_twins (xR d 0 0) X 19 [some (.ref m), some (J (sTw w a + sTw1 w a b)), some (J (a : Int)), some (J (b : Int))] [] (z, T, upF F m 0 0, upA I (m + 1) (w), P, Y) 0 0 := by
          intro mm
          induction mm with
          | zero => intro b hb hm; exfalso; omega
          | succ mm ih2 =>
            intro b hb hm
            have ht1 := sTw1_bd w (a : Int) b
            have e1 := sEnt_bd w (201 + 122 * (a : Int))
            have e2 := sEnt_bd w (201 + 122 * (b : Int))
            refine xg_iloadn 20 dX12_twins_19 rfl rfl rfl ?_
            refine xg_iloadn 21 dX12_twins_20 rfl rfl rfl ?_
            refine xg_icge 70 24 dX12_twins_21 rfl rfl (by first | omega | exact hR _ | exact ⟨hR _, by omega⟩ | exact ⟨by omega, hR _⟩ | exact ⟨hR _, hR _⟩) (fun hb21 => ?_) (fun hb21 => ?_)
            · skip
              refine xg_iinc 73 _ dX12_twins_70 rfl rfl rfl rfl (by decide) (Or.inr rfl) ?_
              refine xg_goto 9 dX12_twins_73 rfl ?_
              exact xg_weak _ (xle_s rfl (xle_s (by rw [show b = a by omega]; unfold sTw; rw [pSum_s, Int.toNat_natCast]) (xle_s rfl (xle_n xle_0)))) (ih (a + 1) none (by omega) (by omega))
            · skip
              refine xg_iloadn 25 dX12_twins_24 rfl rfl rfl ?_
              refine xg_aloadn 26 dX12_twins_25 rfl rfl rfl ?_
              refine xg_iloadn 27 dX12_twins_26 rfl rfl rfl ?_
              refine xg_callV 30 12 [_] _ kv_X12_levelOf ⟨_, _, rfl⟩ kl_RX12_120 dX12_twins_27 rfl (by assumption) (by omega) rfl rfl (Nat.le_of_ble_eq_true rfl) (by omega) ⟨Nat.le_refl _, Nat.le_refl _⟩ (ct_X12_levelOf hw (by omega)) rfl ?_
              refine xg_aloadn 31 dX12_twins_30 rfl rfl rfl ?_
              refine xg_iloadn 32 dX12_twins_31 rfl rfl rfl ?_
              refine xg_callV 35 12 [_] _ kv_X12_levelOf ⟨_, _, rfl⟩ kl_RX12_120 dX12_twins_32 rfl (by assumption) (by omega) rfl rfl (Nat.le_of_ble_eq_true rfl) (by omega) ⟨Nat.le_refl _, Nat.le_refl _⟩ (ct_X12_levelOf hw (by omega)) rfl ?_
              refine xg_icne 61 38 dX12_twins_35 rfl rfl (by first | omega | exact hR _ | exact ⟨hR _, by omega⟩ | exact ⟨by omega, hR _⟩ | exact ⟨hR _, hR _⟩) (fun hb35 => ?_) (fun hb35 => ?_)
              · skip
                refine xg_iconst 62 dX12_twins_61 rfl ?_
                refine xg_iadd 63 dX12_twins_62 rfl ?_
                refine xg_istoren 64 _ dX12_twins_63 rfl rfl rfl (by decide) (Or.inr rfl) ?_
                refine xg_iinc 67 _ dX12_twins_64 rfl rfl rfl rfl (by decide) (Or.inr rfl) ?_
                refine xg_goto 19 dX12_twins_67 rfl ?_
                exact xg_weak _ (xle_s rfl (xle_s (by unfold sTw1; rw [pSum_s, if_neg (fun q => hb35 q.1), Int.add_zero, Int.add_zero]) (xle_s rfl (xle_s rfl xle_0)))) (ih2 (b + 1) (by omega) (by omega))
              · skip
                refine xg_aloadn 39 dX12_twins_38 rfl rfl rfl ?_
                refine xg_iloadn 40 dX12_twins_39 rfl rfl rfl ?_
                refine xg_callS 43 [_] _ ks_X12_rowOf kl_RX12_133 dX12_twins_40 rfl rfl rfl (Nat.le_of_ble_eq_true rfl) (by omega) ⟨Nat.le_refl _, Nat.le_refl _⟩ (ct_X12_rowOf) rfl ?_
                refine xg_callV 46 12 [_] _ kv_X12_entriesOf ⟨_, _, rfl⟩ kl_RX12_268 dX12_twins_43 rfl (by assumption) (by omega) rfl rfl (Nat.le_of_ble_eq_true rfl) (by omega) ⟨Nat.le_refl _, Nat.le_refl _⟩ (ct_X12_entriesOf hw hR (by omega)) rfl ?_
                refine xg_aloadn 47 dX12_twins_46 rfl rfl rfl ?_
                refine xg_iloadn 48 dX12_twins_47 rfl rfl rfl ?_
                refine xg_callS 51 [_] _ ks_X12_rowOf kl_RX12_133 dX12_twins_48 rfl rfl rfl (Nat.le_of_ble_eq_true rfl) (by omega) ⟨Nat.le_refl _, Nat.le_refl _⟩ (ct_X12_rowOf) rfl ?_
                refine xg_callV 54 12 [_] _ kv_X12_entriesOf ⟨_, _, rfl⟩ kl_RX12_268 dX12_twins_51 rfl (by assumption) (by omega) rfl rfl (Nat.le_of_ble_eq_true rfl) (by omega) ⟨Nat.le_refl _, Nat.le_refl _⟩ (ct_X12_entriesOf hw hR (by omega)) rfl ?_
                refine xg_icne 61 57 dX12_twins_54 rfl rfl (by first | omega | exact hR _ | exact ⟨hR _, by omega⟩ | exact ⟨by omega, hR _⟩ | exact ⟨hR _, hR _⟩) (fun hb54 => ?_) (fun hb54 => ?_)
                · skip
                  refine xg_iconst 62 dX12_twins_61 rfl ?_
                  refine xg_iadd 63 dX12_twins_62 rfl ?_
                  refine xg_istoren 64 _ dX12_twins_63 rfl rfl rfl (by decide) (Or.inr rfl) ?_
                  refine xg_iinc 67 _ dX12_twins_64 rfl rfl rfl rfl (by decide) (Or.inr rfl) ?_
                  refine xg_goto 19 dX12_twins_67 rfl ?_
                  exact xg_weak _ (xle_s rfl (xle_s (by unfold sTw1; rw [pSum_s, if_neg (fun q => hb54 q.2), Int.add_zero, Int.add_zero]) (xle_s rfl (xle_s rfl xle_0)))) (ih2 (b + 1) (by omega) (by omega))
                · skip
                  refine xg_iconst 58 dX12_twins_57 rfl ?_
                  refine xg_goto 62 dX12_twins_58 rfl ?_
                  refine xg_iadd 63 dX12_twins_62 rfl ?_
                  refine xg_istoren 64 _ dX12_twins_63 rfl rfl rfl (by decide) (Or.inr rfl) ?_
                  refine xg_iinc 67 _ dX12_twins_64 rfl rfl rfl rfl (by decide) (Or.inr rfl) ?_
                  refine xg_goto 19 dX12_twins_67 rfl ?_
                  exact xg_weak _ (xle_s rfl (xle_s (by unfold sTw1; rw [pSum_s, if_pos ⟨hb35, hb54⟩, Int.add_assoc]) (xle_s rfl (xle_s rfl xle_0)))) (ih2 (b + 1) (by omega) (by omega))
        exact xg_weak _ (xle_s rfl (xle_s (by rw [show sTw1 w a 0 = 0 from rfl, Int.add_zero]) (xle_s rfl (xle_s rfl xle_0)))) (loop19 20 0 (by omega) (by omega))
  exact xg_weak _ (xle_s rfl (xle_s rfl (xle_s rfl (xle_n xle_0)))) (loop9 20 0 none (by omega) (by omega))

theorem dX12_odds_0 : decode cX12_odds 0 = .ok (.aload_n 0, 1) := by decide +kernel
theorem dX12_odds_1 : decode cX12_odds 1 = .ok (.iconst 0, 1) := by decide +kernel
theorem dX12_odds_2 : decode cX12_odds 2 = .ok (.putfield 3, 3) := by decide +kernel
theorem dX12_odds_5 : decode cX12_odds 5 = .ok (.aload_n 0, 1) := by decide +kernel
theorem dX12_odds_6 : decode cX12_odds 6 = .ok (.iload_n 1, 1) := by decide +kernel
theorem dX12_odds_7 : decode cX12_odds 7 = .ok (.iconst 0, 1) := by decide +kernel
theorem dX12_odds_8 : decode cX12_odds 8 = .ok (.iconst 5, 1) := by decide +kernel
theorem dX12_odds_9 : decode cX12_odds 9 = .ok (.invokestatic 70, 3) := by decide +kernel
theorem dX12_odds_12 : decode cX12_odds 12 = .ok (.ifCond .ne 7, 3) := by decide +kernel
theorem dX12_odds_15 : decode cX12_odds 15 = .ok (.iconst 1, 1) := by decide +kernel
theorem dX12_odds_16 : decode cX12_odds 16 = .ok (.goto 4, 3) := by decide +kernel
theorem dX12_odds_19 : decode cX12_odds 19 = .ok (.iconst 0, 1) := by decide +kernel
theorem dX12_odds_20 : decode cX12_odds 20 = .ok (.iconst 1, 1) := by decide +kernel
theorem dX12_odds_21 : decode cX12_odds 21 = .ok (.invokevirtual 251, 3) := by decide +kernel
theorem dX12_odds_24 : decode cX12_odds 24 = .ok (.ifCond .eq 5, 3) := by decide +kernel
theorem dX12_odds_27 : decode cX12_odds 27 = .ok (.iconst 0, 1) := by decide +kernel
theorem dX12_odds_28 : decode cX12_odds 28 = .ok (.ireturn, 1) := by decide +kernel
theorem dX12_odds_29 : decode cX12_odds 29 = .ok (.lconst 1, 1) := by decide +kernel
theorem dX12_odds_30 : decode cX12_odds 30 = .ok (.lstore_n 2, 1) := by decide +kernel
theorem dX12_odds_31 : decode cX12_odds 31 = .ok (.lconst 1, 1) := by decide +kernel
theorem dX12_odds_32 : decode cX12_odds 32 = .ok (.lstore 4, 2) := by decide +kernel
theorem dX12_odds_34 : decode cX12_odds 34 = .ok (.iconst 0, 1) := by decide +kernel
theorem dX12_odds_35 : decode cX12_odds 35 = .ok (.istore 6, 2) := by decide +kernel
theorem dX12_odds_37 : decode cX12_odds 37 = .ok (.iload 6, 2) := by decide +kernel
theorem dX12_odds_39 : decode cX12_odds 39 = .ok (.iload_n 1, 1) := by decide +kernel
theorem dX12_odds_40 : decode cX12_odds 40 = .ok (.if_icmp .ge 28, 3) := by decide +kernel
theorem dX12_odds_43 : decode cX12_odds 43 = .ok (.lload_n 2, 1) := by decide +kernel
theorem dX12_odds_44 : decode cX12_odds 44 = .ok (.bipush 60, 2) := by decide +kernel
theorem dX12_odds_46 : decode cX12_odds 46 = .ok (.aload_n 0, 1) := by decide +kernel
theorem dX12_odds_47 : decode cX12_odds 47 = .ok (.invokevirtual 400, 3) := by decide +kernel
theorem dX12_odds_50 : decode cX12_odds 50 = .ok (.isub, 1) := by decide +kernel
theorem dX12_odds_51 : decode cX12_odds 51 = .ok (.i2l, 1) := by decide +kernel
theorem dX12_odds_52 : decode cX12_odds 52 = .ok (.lmul, 1) := by decide +kernel
theorem dX12_odds_53 : decode cX12_odds 53 = .ok (.lstore_n 2, 1) := by decide +kernel
theorem dX12_odds_54 : decode cX12_odds 54 = .ok (.lload 4, 2) := by decide +kernel
theorem dX12_odds_56 : decode cX12_odds 56 = .ok (.ldc2_w 461, 3) := by decide +kernel
theorem dX12_odds_59 : decode cX12_odds 59 = .ok (.lmul, 1) := by decide +kernel
theorem dX12_odds_60 : decode cX12_odds 60 = .ok (.lstore 4, 2) := by decide +kernel
theorem dX12_odds_62 : decode cX12_odds 62 = .ok (.iinc 6 1, 3) := by decide +kernel
theorem dX12_odds_65 : decode cX12_odds 65 = .ok (.goto (-28), 3) := by decide +kernel
theorem dX12_odds_68 : decode cX12_odds 68 = .ok (.ldc2_w 463, 3) := by decide +kernel
theorem dX12_odds_71 : decode cX12_odds 71 = .ok (.lload 4, 2) := by decide +kernel
theorem dX12_odds_73 : decode cX12_odds 73 = .ok (.lload_n 2, 1) := by decide +kernel
theorem dX12_odds_74 : decode cX12_odds 74 = .ok (.lsub, 1) := by decide +kernel
theorem dX12_odds_75 : decode cX12_odds 75 = .ok (.lmul, 1) := by decide +kernel
theorem dX12_odds_76 : decode cX12_odds 76 = .ok (.lload 4, 2) := by decide +kernel
theorem dX12_odds_78 : decode cX12_odds 78 = .ok (.ldiv, 1) := by decide +kernel
theorem dX12_odds_79 : decode cX12_odds 79 = .ok (.l2i, 1) := by decide +kernel
theorem dX12_odds_80 : decode cX12_odds 80 = .ok (.ireturn, 1) := by decide +kernel
set_option maxHeartbeats 4000000 in
set_option maxRecDepth 100000 in
theorem ct_X12_odds_t1 {E : xE} {z : Nat} {T : Nat → Nat × Int} {F : Nat → Nat → Int} {I : Nat → Int → Int} {P : Nat → Nat → Option Nat} {Y : Nat → Int → Option Nat} {m : Nat} {w : Int → Int} (hw : wM T P m) (hO : wOk w){v : Int} (hv : -2147483648 ≤ v ∧ v < 2147483648) (hb : ¬ (0 ≤ v ∧ v ≤ 5)) : Ct E 1 mX12_odds 0 0 [.ref m, J v] (z, T, F, upA I (m + 1) w, P, Y) (xd (some (J 0)) (z, T, upF F m 0 1, upA I (m + 1) (w), P, Y)) := by
  obtain ⟨⟨q0, q1, q2, q3⟩, -⟩ := id hw
  obtain ⟨hR, o0, o1, o2, o3, o4, o5, o6, oc, o13, o14, o16, o17, o18, ov⟩ := id hO
  have hN := wN_i o0.1
  refine Ct.of [some (.ref m), some (J v), none, none, none, none, none] kt_X12_odds rfl (Nat.le_of_ble_eq_true rfl) rfl (fun d hd => ?_)
  generalize hX : xN E _ _ _ = X
  refine xg_aloadn 1 dX12_odds_0 rfl rfl rfl ?_
  refine xg_iconst 2 dX12_odds_1 rfl ?_
  refine xg_putI 5 kf_RX12_3 dX12_odds_2 rfl (by assumption) ?_
  refine xg_aloadn 6 dX12_odds_5 rfl rfl rfl ?_
  refine xg_iloadn 7 dX12_odds_6 rfl rfl rfl ?_
  refine xg_iconst 8 dX12_odds_7 rfl ?_
  refine xg_iconst 9 dX12_odds_8 rfl ?_
  refine xg_callS 12 [_, _, _] _ ks_X12_in kl_RX12_70 dX12_odds_9 rfl rfl rfl (Nat.le_of_ble_eq_true rfl) (by omega) ⟨Nat.le_refl _, Nat.le_refl _⟩ (ct_X12_in (by omega)) rfl ?_
  refine xg_dne 19 15 dX12_odds_12 rfl rfl (fun hb12 => ?_) (fun hb12 => ?_)
  · first
    | (exfalso; omega)
    | skip
      refine xg_iconst 20 dX12_odds_19 rfl ?_
      refine xg_iconst 21 dX12_odds_20 rfl ?_
      refine xg_callV 24 12 [_, _] _ kv_X12_throwsIf ⟨_, _, rfl⟩ kl_RX12_251 dX12_odds_21 rfl (by assumption) (by omega) rfl rfl (Nat.le_of_ble_eq_true rfl) (by omega) ⟨Nat.le_refl _, Nat.le_refl _⟩ (ct_throwsF hw) rfl ?_
      refine xg_ifeq 29 27 dX12_odds_24 rfl rfl (by first | omega | exact hR _ | exact ⟨hR _, by omega⟩ | exact ⟨by omega, hR _⟩ | exact ⟨hR _, hR _⟩) (fun hb24 => ?_) (fun hb24 => ?_)
      · skip
        exfalso; omega
      · exfalso; omega
  · first
    | (exfalso; omega)
    | skip
      refine xg_iconst 16 dX12_odds_15 rfl ?_
      refine xg_goto 20 dX12_odds_16 rfl ?_
      refine xg_iconst 21 dX12_odds_20 rfl ?_
      refine xg_callV 24 12 [_, _] _ kv_X12_throwsIf ⟨_, _, rfl⟩ kl_RX12_251 dX12_odds_21 rfl (by assumption) (by omega) rfl rfl (Nat.le_of_ble_eq_true rfl) (by omega) ⟨Nat.le_refl _, Nat.le_refl _⟩ (ct_throwsT hw) rfl ?_
      refine xg_ifeq 29 27 dX12_odds_24 rfl rfl (by first | omega | exact hR _ | exact ⟨hR _, by omega⟩ | exact ⟨by omega, hR _⟩ | exact ⟨hR _, hR _⟩) (fun hb24 => ?_) (fun hb24 => ?_)
      · exfalso; omega
      · skip
        refine xg_iconst 28 dX12_odds_27 rfl ?_
        subst hX
        exact xg_ireturn dX12_odds_28 rfl ⟨Nat.le_refl _, Nat.le_refl _⟩ ⟨rfl, by rw [upF_upF]⟩

set_option maxHeartbeats 4000000 in
set_option maxRecDepth 100000 in
theorem ct_X12_odds {E : xE} {z : Nat} {T : Nat → Nat × Int} {F : Nat → Nat → Int} {I : Nat → Int → Int} {P : Nat → Nat → Option Nat} {Y : Nat → Int → Option Nat} {m : Nat} {w : Int → Int} (hw : wM T P m) (hO : wOk w){n : Nat} (hn : n ≤ 5) : Ct E 5 mX12_odds 0 0 [.ref m, J (n : Int)] (z, T, F, upA I (m + 1) w, P, Y) (xd (some (J (sOdds w n))) (z, T, upF F m 0 0, upA I (m + 1) (w), P, Y)) := by
  obtain ⟨⟨q0, q1, q2, q3⟩, -⟩ := id hw
  obtain ⟨hR, o0, o1, o2, o3, o4, o5, o6, oc, o13, o14, o16, o17, o18, ov⟩ := id hO
  have hN := wN_i o0.1
  have hfn := sFndN_bd w
  have p60 := sPw60 n hn
  have pw := sPw_bd (x := 60 - sFndN w) (by omega) n hn
  refine Ct.of [some (.ref m), some (J (n : Int)), none, none, none, none, none] kt_X12_odds rfl (Nat.le_of_ble_eq_true rfl) rfl (fun d hd => ?_)
  generalize hX : xN E _ _ _ = X
  refine xg_aloadn 1 dX12_odds_0 rfl rfl rfl ?_
  refine xg_iconst 2 dX12_odds_1 rfl ?_
  refine xg_putI 5 kf_RX12_3 dX12_odds_2 rfl (by assumption) ?_
  refine xg_aloadn 6 dX12_odds_5 rfl rfl rfl ?_
  refine xg_iloadn 7 dX12_odds_6 rfl rfl rfl ?_
  refine xg_iconst 8 dX12_odds_7 rfl ?_
  refine xg_iconst 9 dX12_odds_8 rfl ?_
  refine xg_callS 12 [_, _, _] _ ks_X12_in kl_RX12_70 dX12_odds_9 rfl rfl rfl (Nat.le_of_ble_eq_true rfl) (by omega) ⟨Nat.le_refl _, Nat.le_refl _⟩ (ct_X12_in (by omega)) rfl ?_
  refine xg_dne 19 15 dX12_odds_12 rfl rfl (fun hb12 => ?_) (fun hb12 => ?_)
  · first
    | (exfalso; omega)
    | skip
      refine xg_iconst 20 dX12_odds_19 rfl ?_
      refine xg_iconst 21 dX12_odds_20 rfl ?_
      refine xg_callV 24 12 [_, _] _ kv_X12_throwsIf ⟨_, _, rfl⟩ kl_RX12_251 dX12_odds_21 rfl (by assumption) (by omega) rfl rfl (Nat.le_of_ble_eq_true rfl) (by omega) ⟨Nat.le_refl _, Nat.le_refl _⟩ (ct_throwsF hw) rfl ?_
      refine xg_ifeq 29 27 dX12_odds_24 rfl rfl (by first | omega | exact hR _ | exact ⟨hR _, by omega⟩ | exact ⟨by omega, hR _⟩ | exact ⟨hR _, hR _⟩) (fun hb24 => ?_) (fun hb24 => ?_)
      · skip
        refine xg_lconst 30 1 dX12_odds_29 rfl rfl ?_
        refine xg_lstoren 31 _ dX12_odds_30 rfl rfl rfl (by decide) (Or.inr rfl) ?_
        refine xg_lconst 32 1 dX12_odds_31 rfl rfl ?_
        refine xg_lstore 34 _ dX12_odds_32 rfl rfl (by decide) (Or.inr rfl) ?_
        refine xg_iconst 35 dX12_odds_34 rfl ?_
        refine xg_istore 37 _ dX12_odds_35 rfl rfl (by decide) (Or.inr rfl) ?_
        have loop37 : ∀ (mm : Nat) (k : Nat), k ≤ n → (n : Int) - k < (mm : Int) → xG E mX12_odds (xR d 0 0) X 37 [some (.ref m), some (J (n : Int)), some (JL (sPw (60 - sFndN w) k)), none, some (JL (sPw 60 k)), none, some (J (k : Int))] [] (z, T, upF F m 0 0, upA I (m + 1) (w), P, Y) 0 0 := by
          intro mm
          induction mm with
          | zero => intro k hk hm; exfalso; omega
          | succ mm ih =>
            intro k hk hm
            refine xg_iload 39 dX12_odds_37 rfl rfl ?_
            refine xg_iloadn 40 dX12_odds_39 rfl rfl rfl ?_
            refine xg_icge 68 43 dX12_odds_40 rfl rfl (by first | omega | exact hR _ | exact ⟨hR _, by omega⟩ | exact ⟨by omega, hR _⟩ | exact ⟨hR _, hR _⟩) (fun hb40 => ?_) (fun hb40 => ?_)
            · skip
              rw [show k = n by omega]
              refine xg_ldc2 (z := 10000) 71 kkL_RX12_463 dX12_odds_68 rfl rfl ?_
              refine xg_lload 73 dX12_odds_71 rfl rfl ?_
              refine xg_lloadn 74 dX12_odds_73 rfl rfl rfl ?_
              refine xg_lsub 75 dX12_odds_74 rfl ?_
              refine xg_lmul 76 dX12_odds_75 rfl ?_
              refine xg_lload 78 dX12_odds_76 rfl rfl ?_
              refine xg_ldiv 79 dX12_odds_78 rfl (by first | omega | exact hR _ | exact ⟨hR _, by omega⟩ | exact ⟨by omega, hR _⟩ | exact ⟨hR _, hR _⟩) ?_
              refine xg_l2i 80 dX12_odds_79 rfl ?_
              subst hX
              exact xg_ireturn dX12_odds_80 rfl ⟨Nat.le_refl _, Nat.le_refl _⟩ ⟨rfl, rfl⟩
            · skip
              refine xg_lloadn 44 dX12_odds_43 rfl rfl rfl ?_
              refine xg_bipush 46 dX12_odds_44 rfl (by decide) ?_
              refine xg_aloadn 47 dX12_odds_46 rfl rfl rfl ?_
              refine xg_callV 50 12 [] _ kv_X12_foundMany ⟨_, _, rfl⟩ kl_RX12_400 dX12_odds_47 rfl (by assumption) (by omega) rfl rfl (Nat.le_of_ble_eq_true rfl) (by omega) ⟨Nat.le_refl _, Nat.le_refl _⟩ (ct_X12_foundMany hw hO) rfl ?_
              refine xg_isub 51 dX12_odds_50 rfl ?_
              refine xg_i2l 52 dX12_odds_51 rfl (by first | omega | exact hR _ | exact ⟨hR _, by omega⟩ | exact ⟨by omega, hR _⟩ | exact ⟨hR _, hR _⟩) ?_
              refine xg_lmul 53 dX12_odds_52 rfl ?_
              refine xg_lstoren 54 _ dX12_odds_53 rfl rfl rfl (by decide) (Or.inr rfl) ?_
              refine xg_lload 56 dX12_odds_54 rfl rfl ?_
              refine xg_ldc2 (z := 60) 59 kkL_RX12_461 dX12_odds_56 rfl rfl ?_
              refine xg_lmul 60 dX12_odds_59 rfl ?_
              refine xg_lstore 62 _ dX12_odds_60 rfl rfl (by decide) (Or.inr rfl) ?_
              refine xg_iinc 65 _ dX12_odds_62 rfl rfl rfl rfl (by decide) (Or.inr rfl) ?_
              refine xg_goto 37 dX12_odds_65 rfl ?_
              exact xg_weak _ (xle_s rfl (xle_s rfl (xle_s rfl (xle_n (xle_s rfl (xle_n (xle_s rfl xle_0))))))) (ih (k + 1) (by omega) (by omega))
        exact xg_weak _ (xle_s rfl (xle_s rfl (xle_s rfl (xle_n (xle_s rfl (xle_n (xle_s rfl xle_0))))))) (loop37 10 0 (by omega) (by omega))
      · exfalso; omega
  · first
    | (exfalso; omega)
    | skip
      refine xg_iconst 16 dX12_odds_15 rfl ?_
      refine xg_goto 20 dX12_odds_16 rfl ?_
      refine xg_iconst 21 dX12_odds_20 rfl ?_
      refine xg_callV 24 12 [_, _] _ kv_X12_throwsIf ⟨_, _, rfl⟩ kl_RX12_251 dX12_odds_21 rfl (by assumption) (by omega) rfl rfl (Nat.le_of_ble_eq_true rfl) (by omega) ⟨Nat.le_refl _, Nat.le_refl _⟩ (ct_throwsT hw) rfl ?_
      refine xg_ifeq 29 27 dX12_odds_24 rfl rfl (by first | omega | exact hR _ | exact ⟨hR _, by omega⟩ | exact ⟨by omega, hR _⟩ | exact ⟨hR _, hR _⟩) (fun hb24 => ?_) (fun hb24 => ?_)
      · exfalso; omega
      · skip
        exfalso; omega

def sCountA (w : Int → Int) (rem x : Int) : Int := if x = 0 then w 0 else if x = 1 then sEnt w 19 else if x = 2 then w 1 else if x = 3 then (if w 2 = 1 then w 1903 else -1) else if x = 15 then w 14 else if x = 16 then rem else if 4 ≤ x ∧ x ≤ 14 then w (3 + x - 4) else -1
theorem dX12_count_0 : decode cX12_count 0 = .ok (.aload_n 0, 1) := by decide +kernel
theorem dX12_count_1 : decode cX12_count 1 = .ok (.iconst 0, 1) := by decide +kernel
theorem dX12_count_2 : decode cX12_count 2 = .ok (.putfield 3, 3) := by decide +kernel
theorem dX12_count_5 : decode cX12_count 5 = .ok (.iload_n 1, 1) := by decide +kernel
theorem dX12_count_6 : decode cX12_count 6 = .ok (.tableswitch 137 0 16 #[82, 87, 94, 101, 137, 137, 137, 137, 137, 137, 137, 137, 137, 137, 137, 124, 132], 82) := by decide +kernel
theorem dX12_count_88 : decode cX12_count 88 = .ok (.aload_n 0, 1) := by decide +kernel
theorem dX12_count_89 : decode cX12_count 89 = .ok (.invokevirtual 66, 3) := by decide +kernel
theorem dX12_count_92 : decode cX12_count 92 = .ok (.ireturn, 1) := by decide +kernel
theorem dX12_count_93 : decode cX12_count 93 = .ok (.aload_n 0, 1) := by decide +kernel
theorem dX12_count_94 : decode cX12_count 94 = .ok (.bipush 19, 2) := by decide +kernel
theorem dX12_count_96 : decode cX12_count 96 = .ok (.invokevirtual 268, 3) := by decide +kernel
theorem dX12_count_99 : decode cX12_count 99 = .ok (.ireturn, 1) := by decide +kernel
theorem dX12_count_100 : decode cX12_count 100 = .ok (.aload_n 0, 1) := by decide +kernel
theorem dX12_count_101 : decode cX12_count 101 = .ok (.getfield 13, 3) := by decide +kernel
theorem dX12_count_104 : decode cX12_count 104 = .ok (.iconst 1, 1) := by decide +kernel
theorem dX12_count_105 : decode cX12_count 105 = .ok (.iaload, 1) := by decide +kernel
theorem dX12_count_106 : decode cX12_count 106 = .ok (.ireturn, 1) := by decide +kernel
theorem dX12_count_107 : decode cX12_count 107 = .ok (.aload_n 0, 1) := by decide +kernel
theorem dX12_count_108 : decode cX12_count 108 = .ok (.getfield 13, 3) := by decide +kernel
theorem dX12_count_111 : decode cX12_count 111 = .ok (.iconst 2, 1) := by decide +kernel
theorem dX12_count_112 : decode cX12_count 112 = .ok (.iaload, 1) := by decide +kernel
theorem dX12_count_113 : decode cX12_count 113 = .ok (.iconst 1, 1) := by decide +kernel
theorem dX12_count_114 : decode cX12_count 114 = .ok (.if_icmp .ne 14, 3) := by decide +kernel
theorem dX12_count_117 : decode cX12_count 117 = .ok (.aload_n 0, 1) := by decide +kernel
theorem dX12_count_118 : decode cX12_count 118 = .ok (.getfield 13, 3) := by decide +kernel
theorem dX12_count_121 : decode cX12_count 121 = .ok (.sipush 1903, 3) := by decide +kernel
theorem dX12_count_124 : decode cX12_count 124 = .ok (.iaload, 1) := by decide +kernel
theorem dX12_count_125 : decode cX12_count 125 = .ok (.goto 4, 3) := by decide +kernel
theorem dX12_count_128 : decode cX12_count 128 = .ok (.iconst (-1), 1) := by decide +kernel
theorem dX12_count_129 : decode cX12_count 129 = .ok (.ireturn, 1) := by decide +kernel
theorem dX12_count_130 : decode cX12_count 130 = .ok (.aload_n 0, 1) := by decide +kernel
theorem dX12_count_131 : decode cX12_count 131 = .ok (.getfield 13, 3) := by decide +kernel
theorem dX12_count_134 : decode cX12_count 134 = .ok (.bipush 14, 2) := by decide +kernel
theorem dX12_count_136 : decode cX12_count 136 = .ok (.iaload, 1) := by decide +kernel
theorem dX12_count_137 : decode cX12_count 137 = .ok (.ireturn, 1) := by decide +kernel
theorem dX12_count_138 : decode cX12_count 138 = .ok (.aload_n 0, 1) := by decide +kernel
theorem dX12_count_139 : decode cX12_count 139 = .ok (.getfield 59, 3) := by decide +kernel
theorem dX12_count_142 : decode cX12_count 142 = .ok (.ireturn, 1) := by decide +kernel
theorem dX12_count_143 : decode cX12_count 143 = .ok (.iload_n 1, 1) := by decide +kernel
theorem dX12_count_144 : decode cX12_count 144 = .ok (.iconst 4, 1) := by decide +kernel
theorem dX12_count_145 : decode cX12_count 145 = .ok (.bipush 14, 2) := by decide +kernel
theorem dX12_count_147 : decode cX12_count 147 = .ok (.invokestatic 70, 3) := by decide +kernel
theorem dX12_count_150 : decode cX12_count 150 = .ok (.ifCond .eq 16, 3) := by decide +kernel
theorem dX12_count_153 : decode cX12_count 153 = .ok (.aload_n 0, 1) := by decide +kernel
theorem dX12_count_154 : decode cX12_count 154 = .ok (.getfield 13, 3) := by decide +kernel
theorem dX12_count_157 : decode cX12_count 157 = .ok (.iconst 3, 1) := by decide +kernel
theorem dX12_count_158 : decode cX12_count 158 = .ok (.iload_n 1, 1) := by decide +kernel
theorem dX12_count_159 : decode cX12_count 159 = .ok (.iadd, 1) := by decide +kernel
theorem dX12_count_160 : decode cX12_count 160 = .ok (.iconst 4, 1) := by decide +kernel
theorem dX12_count_161 : decode cX12_count 161 = .ok (.isub, 1) := by decide +kernel
theorem dX12_count_162 : decode cX12_count 162 = .ok (.iaload, 1) := by decide +kernel
theorem dX12_count_163 : decode cX12_count 163 = .ok (.goto 4, 3) := by decide +kernel
theorem dX12_count_166 : decode cX12_count 166 = .ok (.iconst (-1), 1) := by decide +kernel
theorem dX12_count_167 : decode cX12_count 167 = .ok (.ireturn, 1) := by decide +kernel
set_option maxHeartbeats 4000000 in
set_option maxRecDepth 100000 in
theorem ct_X12_count {E : xE} {z : Nat} {T : Nat → Nat × Int} {F : Nat → Nat → Int} {I : Nat → Int → Int} {P : Nat → Nat → Option Nat} {Y : Nat → Int → Option Nat} {m : Nat} {w : Int → Int} (hw : wM T P m) (hO : wOk w){v : Int} (hv : -2147483648 ≤ v ∧ v < 2147483648) : Ct E 1 mX12_count 0 0 [.ref m, J v] (z, T, F, upA I (m + 1) w, P, Y) (xd (some (J (sCountA w (F m 7) v))) (z, T, upF F m 0 0, upA I (m + 1) (w), P, Y)) := by
  obtain ⟨⟨q0, q1, q2, q3⟩, -⟩ := id hw
  obtain ⟨hR, o0, o1, o2, o3, o4, o5, o6, oc, o13, o14, o16, o17, o18, ov⟩ := id hO
  have hN := wN_i o0.1
  refine Ct.of [some (.ref m), some (J v)] kt_X12_count rfl (Nat.le_of_ble_eq_true rfl) rfl (fun d hd => ?_)
  generalize hX : xN E _ _ _ = X
  refine xg_aloadn 1 dX12_count_0 rfl rfl rfl ?_
  refine xg_iconst 2 dX12_count_1 rfl ?_
  refine xg_putI 5 kf_RX12_3 dX12_count_2 rfl (by assumption) ?_
  refine xg_iloadn 6 dX12_count_5 rfl rfl rfl ?_
  rcases (show v = 0 ∨ v = 1 ∨ v = 2 ∨ v = 3 ∨ v = 4 ∨ v = 5 ∨ v = 6 ∨ v = 7 ∨ v = 8 ∨ v = 9 ∨ v = 10 ∨ v = 11 ∨ v = 12 ∨ v = 13 ∨ v = 14 ∨ v = 15 ∨ v = 16 ∨ (v < 0 ∨ 16 < v) by omega) with ht | ht | ht | ht | ht | ht | ht | ht | ht | ht | ht | ht | ht | ht | ht | ht | ht | ht
  · refine xg_tin (o := 82) 88 dX12_count_6 (by first | omega | exact hR _ | exact ⟨hR _, by omega⟩ | exact ⟨by omega, hR _⟩ | exact ⟨hR _, hR _⟩) ⟨by omega, by omega⟩ (by rw [show (v - 0).toNat = 0 by omega]; rfl) rfl ?_
    refine xg_aloadn 89 dX12_count_88 rfl rfl rfl ?_
    refine xg_callV 92 12 [] _ kv_X12_runs ⟨_, _, rfl⟩ kl_RX12_66 dX12_count_89 rfl (by assumption) (by omega) rfl rfl (Nat.le_of_ble_eq_true rfl) (by omega) ⟨Nat.le_refl _, Nat.le_refl _⟩ (ct_X12_runs hw) rfl ?_
    subst hX
    exact xg_ireturn dX12_count_92 rfl ⟨Nat.le_refl _, Nat.le_refl _⟩ ⟨by subst ht; rfl, rfl⟩
  · refine xg_tin (o := 87) 93 dX12_count_6 (by first | omega | exact hR _ | exact ⟨hR _, by omega⟩ | exact ⟨by omega, hR _⟩ | exact ⟨hR _, hR _⟩) ⟨by omega, by omega⟩ (by rw [show (v - 0).toNat = 1 by omega]; rfl) rfl ?_
    refine xg_aloadn 94 dX12_count_93 rfl rfl rfl ?_
    refine xg_bipush 96 dX12_count_94 rfl (by decide) ?_
    refine xg_callV 99 12 [_] _ kv_X12_entriesOf ⟨_, _, rfl⟩ kl_RX12_268 dX12_count_96 rfl (by assumption) (by omega) rfl rfl (Nat.le_of_ble_eq_true rfl) (by omega) ⟨Nat.le_refl _, Nat.le_refl _⟩ (ct_X12_entriesOf hw hR (by omega)) rfl ?_
    subst hX
    exact xg_ireturn dX12_count_99 rfl ⟨Nat.le_refl _, Nat.le_refl _⟩ ⟨by subst ht; rfl, rfl⟩
  · refine xg_tin (o := 94) 100 dX12_count_6 (by first | omega | exact hR _ | exact ⟨hR _, by omega⟩ | exact ⟨by omega, hR _⟩ | exact ⟨hR _, hR _⟩) ⟨by omega, by omega⟩ (by rw [show (v - 0).toNat = 2 by omega]; rfl) rfl ?_
    refine xg_aloadn 101 dX12_count_100 rfl rfl rfl ?_
    refine xg_getP 104 kf_RX12_13 dX12_count_101 rfl (by assumption) (by assumption) ?_
    refine xg_iconst 105 dX12_count_104 rfl ?_
    refine xg_ialdW 106 dX12_count_105 rfl (by assumption) (by first | omega | exact hR _ | exact ⟨hR _, by omega⟩ | exact ⟨by omega, hR _⟩ | exact ⟨hR _, hR _⟩) ?_
    subst hX
    exact xg_ireturn dX12_count_106 rfl ⟨Nat.le_refl _, Nat.le_refl _⟩ ⟨by subst ht; rfl, rfl⟩
  · refine xg_tin (o := 101) 107 dX12_count_6 (by first | omega | exact hR _ | exact ⟨hR _, by omega⟩ | exact ⟨by omega, hR _⟩ | exact ⟨hR _, hR _⟩) ⟨by omega, by omega⟩ (by rw [show (v - 0).toNat = 3 by omega]; rfl) rfl ?_
    refine xg_aloadn 108 dX12_count_107 rfl rfl rfl ?_
    refine xg_getP 111 kf_RX12_13 dX12_count_108 rfl (by assumption) (by assumption) ?_
    refine xg_iconst 112 dX12_count_111 rfl ?_
    refine xg_ialdW 113 dX12_count_112 rfl (by assumption) (by first | omega | exact hR _ | exact ⟨hR _, by omega⟩ | exact ⟨by omega, hR _⟩ | exact ⟨hR _, hR _⟩) ?_
    refine xg_iconst 114 dX12_count_113 rfl ?_
    refine xg_icne 128 117 dX12_count_114 rfl rfl (by first | omega | exact hR _ | exact ⟨hR _, by omega⟩ | exact ⟨by omega, hR _⟩ | exact ⟨hR _, hR _⟩) (fun hb114 => ?_) (fun hb114 => ?_)
    · skip
      refine xg_iconst 129 dX12_count_128 rfl ?_
      subst hX
      exact xg_ireturn dX12_count_129 rfl ⟨Nat.le_refl _, Nat.le_refl _⟩ ⟨by subst ht; show _ = some (J (if w 2 = 1 then w 1903 else -1)); rw [if_neg hb114], rfl⟩
    · skip
      refine xg_aloadn 118 dX12_count_117 rfl rfl rfl ?_
      refine xg_getP 121 kf_RX12_13 dX12_count_118 rfl (by assumption) (by assumption) ?_
      refine xg_sipush 124 dX12_count_121 rfl (by decide) ?_
      refine xg_ialdW 125 dX12_count_124 rfl (by assumption) (by first | omega | exact hR _ | exact ⟨hR _, by omega⟩ | exact ⟨by omega, hR _⟩ | exact ⟨hR _, hR _⟩) ?_
      refine xg_goto 129 dX12_count_125 rfl ?_
      subst hX
      exact xg_ireturn dX12_count_129 rfl ⟨Nat.le_refl _, Nat.le_refl _⟩ ⟨by subst ht; show _ = some (J (if w 2 = 1 then w 1903 else -1)); rw [if_pos hb114], rfl⟩
  · refine xg_tin (o := 137) 143 dX12_count_6 (by first | omega | exact hR _ | exact ⟨hR _, by omega⟩ | exact ⟨by omega, hR _⟩ | exact ⟨hR _, hR _⟩) ⟨by omega, by omega⟩ (by rw [show (v - 0).toNat = 4 by omega]; rfl) rfl ?_
    refine xg_iloadn 144 dX12_count_143 rfl rfl rfl ?_
    refine xg_iconst 145 dX12_count_144 rfl ?_
    refine xg_bipush 147 dX12_count_145 rfl (by decide) ?_
    refine xg_callS 150 [_, _, _] _ ks_X12_in kl_RX12_70 dX12_count_147 rfl rfl rfl (Nat.le_of_ble_eq_true rfl) (by omega) ⟨Nat.le_refl _, Nat.le_refl _⟩ (ct_X12_in (by omega)) rfl ?_
    refine xg_deq 166 153 dX12_count_150 rfl rfl (fun hb150 => ?_) (fun hb150 => ?_)
    · skip
      refine xg_iconst 167 dX12_count_166 rfl ?_
      subst hX
      exact xg_ireturn dX12_count_167 rfl ⟨Nat.le_refl _, Nat.le_refl _⟩ ⟨congrArg (fun v => some (J v)) (by unfold sCountA; first | (exfalso; omega) | (rw [if_neg (show ¬ v = 0 by omega), if_neg (show ¬ v = 1 by omega), if_neg (show ¬ v = 2 by omega), if_neg (show ¬ v = 3 by omega), if_neg (show ¬ v = 15 by omega), if_neg (show ¬ v = 16 by omega)]; first | rw [if_pos (show 4 ≤ v ∧ v ≤ 14 by omega)] | rw [if_neg (show ¬ (4 ≤ v ∧ v ≤ 14) by omega)])), rfl⟩
    · skip
      refine xg_aloadn 154 dX12_count_153 rfl rfl rfl ?_
      refine xg_getP 157 kf_RX12_13 dX12_count_154 rfl (by assumption) (by assumption) ?_
      refine xg_iconst 158 dX12_count_157 rfl ?_
      refine xg_iloadn 159 dX12_count_158 rfl rfl rfl ?_
      refine xg_iadd 160 dX12_count_159 rfl ?_
      refine xg_iconst 161 dX12_count_160 rfl ?_
      refine xg_isub 162 dX12_count_161 rfl ?_
      refine xg_ialdW 163 dX12_count_162 rfl (by assumption) (by first | omega | exact hR _ | exact ⟨hR _, by omega⟩ | exact ⟨by omega, hR _⟩ | exact ⟨hR _, hR _⟩) ?_
      refine xg_goto 167 dX12_count_163 rfl ?_
      subst hX
      exact xg_ireturn dX12_count_167 rfl ⟨Nat.le_refl _, Nat.le_refl _⟩ ⟨congrArg (fun v => some (J v)) (by unfold sCountA; first | (exfalso; omega) | (rw [if_neg (show ¬ v = 0 by omega), if_neg (show ¬ v = 1 by omega), if_neg (show ¬ v = 2 by omega), if_neg (show ¬ v = 3 by omega), if_neg (show ¬ v = 15 by omega), if_neg (show ¬ v = 16 by omega)]; first | rw [if_pos (show 4 ≤ v ∧ v ≤ 14 by omega)] | rw [if_neg (show ¬ (4 ≤ v ∧ v ≤ 14) by omega)])), rfl⟩
  · refine xg_tin (o := 137) 143 dX12_count_6 (by first | omega | exact hR _ | exact ⟨hR _, by omega⟩ | exact ⟨by omega, hR _⟩ | exact ⟨hR _, hR _⟩) ⟨by omega, by omega⟩ (by rw [show (v - 0).toNat = 5 by omega]; rfl) rfl ?_
    refine xg_iloadn 144 dX12_count_143 rfl rfl rfl ?_
    refine xg_iconst 145 dX12_count_144 rfl ?_
    refine xg_bipush 147 dX12_count_145 rfl (by decide) ?_
    refine xg_callS 150 [_, _, _] _ ks_X12_in kl_RX12_70 dX12_count_147 rfl rfl rfl (Nat.le_of_ble_eq_true rfl) (by omega) ⟨Nat.le_refl _, Nat.le_refl _⟩ (ct_X12_in (by omega)) rfl ?_
    refine xg_deq 166 153 dX12_count_150 rfl rfl (fun hb150 => ?_) (fun hb150 => ?_)
    · skip
      refine xg_iconst 167 dX12_count_166 rfl ?_
      subst hX
      exact xg_ireturn dX12_count_167 rfl ⟨Nat.le_refl _, Nat.le_refl _⟩ ⟨congrArg (fun v => some (J v)) (by unfold sCountA; first | (exfalso; omega) | (rw [if_neg (show ¬ v = 0 by omega), if_neg (show ¬ v = 1 by omega), if_neg (show ¬ v = 2 by omega), if_neg (show ¬ v = 3 by omega), if_neg (show ¬ v = 15 by omega), if_neg (show ¬ v = 16 by omega)]; first | rw [if_pos (show 4 ≤ v ∧ v ≤ 14 by omega)] | rw [if_neg (show ¬ (4 ≤ v ∧ v ≤ 14) by omega)])), rfl⟩
    · skip
      refine xg_aloadn 154 dX12_count_153 rfl rfl rfl ?_
      refine xg_getP 157 kf_RX12_13 dX12_count_154 rfl (by assumption) (by assumption) ?_
      refine xg_iconst 158 dX12_count_157 rfl ?_
      refine xg_iloadn 159 dX12_count_158 rfl rfl rfl ?_
      refine xg_iadd 160 dX12_count_159 rfl ?_
      refine xg_iconst 161 dX12_count_160 rfl ?_
      refine xg_isub 162 dX12_count_161 rfl ?_
      refine xg_ialdW 163 dX12_count_162 rfl (by assumption) (by first | omega | exact hR _ | exact ⟨hR _, by omega⟩ | exact ⟨by omega, hR _⟩ | exact ⟨hR _, hR _⟩) ?_
      refine xg_goto 167 dX12_count_163 rfl ?_
      subst hX
      exact xg_ireturn dX12_count_167 rfl ⟨Nat.le_refl _, Nat.le_refl _⟩ ⟨congrArg (fun v => some (J v)) (by unfold sCountA; first | (exfalso; omega) | (rw [if_neg (show ¬ v = 0 by omega), if_neg (show ¬ v = 1 by omega), if_neg (show ¬ v = 2 by omega), if_neg (show ¬ v = 3 by omega), if_neg (show ¬ v = 15 by omega), if_neg (show ¬ v = 16 by omega)]; first | rw [if_pos (show 4 ≤ v ∧ v ≤ 14 by omega)] | rw [if_neg (show ¬ (4 ≤ v ∧ v ≤ 14) by omega)])), rfl⟩
  · refine xg_tin (o := 137) 143 dX12_count_6 (by first | omega | exact hR _ | exact ⟨hR _, by omega⟩ | exact ⟨by omega, hR _⟩ | exact ⟨hR _, hR _⟩) ⟨by omega, by omega⟩ (by rw [show (v - 0).toNat = 6 by omega]; rfl) rfl ?_
    refine xg_iloadn 144 dX12_count_143 rfl rfl rfl ?_
    refine xg_iconst 145 dX12_count_144 rfl ?_
    refine xg_bipush 147 dX12_count_145 rfl (by decide) ?_
    refine xg_callS 150 [_, _, _] _ ks_X12_in kl_RX12_70 dX12_count_147 rfl rfl rfl (Nat.le_of_ble_eq_true rfl) (by omega) ⟨Nat.le_refl _, Nat.le_refl _⟩ (ct_X12_in (by omega)) rfl ?_
    refine xg_deq 166 153 dX12_count_150 rfl rfl (fun hb150 => ?_) (fun hb150 => ?_)
    · skip
      refine xg_iconst 167 dX12_count_166 rfl ?_
      subst hX
      exact xg_ireturn dX12_count_167 rfl ⟨Nat.le_refl _, Nat.le_refl _⟩ ⟨congrArg (fun v => some (J v)) (by unfold sCountA; first | (exfalso; omega) | (rw [if_neg (show ¬ v = 0 by omega), if_neg (show ¬ v = 1 by omega), if_neg (show ¬ v = 2 by omega), if_neg (show ¬ v = 3 by omega), if_neg (show ¬ v = 15 by omega), if_neg (show ¬ v = 16 by omega)]; first | rw [if_pos (show 4 ≤ v ∧ v ≤ 14 by omega)] | rw [if_neg (show ¬ (4 ≤ v ∧ v ≤ 14) by omega)])), rfl⟩
    · skip
      refine xg_aloadn 154 dX12_count_153 rfl rfl rfl ?_
      refine xg_getP 157 kf_RX12_13 dX12_count_154 rfl (by assumption) (by assumption) ?_
      refine xg_iconst 158 dX12_count_157 rfl ?_
      refine xg_iloadn 159 dX12_count_158 rfl rfl rfl ?_
      refine xg_iadd 160 dX12_count_159 rfl ?_
      refine xg_iconst 161 dX12_count_160 rfl ?_
      refine xg_isub 162 dX12_count_161 rfl ?_
      refine xg_ialdW 163 dX12_count_162 rfl (by assumption) (by first | omega | exact hR _ | exact ⟨hR _, by omega⟩ | exact ⟨by omega, hR _⟩ | exact ⟨hR _, hR _⟩) ?_
      refine xg_goto 167 dX12_count_163 rfl ?_
      subst hX
      exact xg_ireturn dX12_count_167 rfl ⟨Nat.le_refl _, Nat.le_refl _⟩ ⟨congrArg (fun v => some (J v)) (by unfold sCountA; first | (exfalso; omega) | (rw [if_neg (show ¬ v = 0 by omega), if_neg (show ¬ v = 1 by omega), if_neg (show ¬ v = 2 by omega), if_neg (show ¬ v = 3 by omega), if_neg (show ¬ v = 15 by omega), if_neg (show ¬ v = 16 by omega)]; first | rw [if_pos (show 4 ≤ v ∧ v ≤ 14 by omega)] | rw [if_neg (show ¬ (4 ≤ v ∧ v ≤ 14) by omega)])), rfl⟩
  · refine xg_tin (o := 137) 143 dX12_count_6 (by first | omega | exact hR _ | exact ⟨hR _, by omega⟩ | exact ⟨by omega, hR _⟩ | exact ⟨hR _, hR _⟩) ⟨by omega, by omega⟩ (by rw [show (v - 0).toNat = 7 by omega]; rfl) rfl ?_
    refine xg_iloadn 144 dX12_count_143 rfl rfl rfl ?_
    refine xg_iconst 145 dX12_count_144 rfl ?_
    refine xg_bipush 147 dX12_count_145 rfl (by decide) ?_
    refine xg_callS 150 [_, _, _] _ ks_X12_in kl_RX12_70 dX12_count_147 rfl rfl rfl (Nat.le_of_ble_eq_true rfl) (by omega) ⟨Nat.le_refl _, Nat.le_refl _⟩ (ct_X12_in (by omega)) rfl ?_
    refine xg_deq 166 153 dX12_count_150 rfl rfl (fun hb150 => ?_) (fun hb150 => ?_)
    · skip
      refine xg_iconst 167 dX12_count_166 rfl ?_
      subst hX
      exact xg_ireturn dX12_count_167 rfl ⟨Nat.le_refl _, Nat.le_refl _⟩ ⟨congrArg (fun v => some (J v)) (by unfold sCountA; first | (exfalso; omega) | (rw [if_neg (show ¬ v = 0 by omega), if_neg (show ¬ v = 1 by omega), if_neg (show ¬ v = 2 by omega), if_neg (show ¬ v = 3 by omega), if_neg (show ¬ v = 15 by omega), if_neg (show ¬ v = 16 by omega)]; first | rw [if_pos (show 4 ≤ v ∧ v ≤ 14 by omega)] | rw [if_neg (show ¬ (4 ≤ v ∧ v ≤ 14) by omega)])), rfl⟩
    · skip
      refine xg_aloadn 154 dX12_count_153 rfl rfl rfl ?_
      refine xg_getP 157 kf_RX12_13 dX12_count_154 rfl (by assumption) (by assumption) ?_
      refine xg_iconst 158 dX12_count_157 rfl ?_
      refine xg_iloadn 159 dX12_count_158 rfl rfl rfl ?_
      refine xg_iadd 160 dX12_count_159 rfl ?_
      refine xg_iconst 161 dX12_count_160 rfl ?_
      refine xg_isub 162 dX12_count_161 rfl ?_
      refine xg_ialdW 163 dX12_count_162 rfl (by assumption) (by first | omega | exact hR _ | exact ⟨hR _, by omega⟩ | exact ⟨by omega, hR _⟩ | exact ⟨hR _, hR _⟩) ?_
      refine xg_goto 167 dX12_count_163 rfl ?_
      subst hX
      exact xg_ireturn dX12_count_167 rfl ⟨Nat.le_refl _, Nat.le_refl _⟩ ⟨congrArg (fun v => some (J v)) (by unfold sCountA; first | (exfalso; omega) | (rw [if_neg (show ¬ v = 0 by omega), if_neg (show ¬ v = 1 by omega), if_neg (show ¬ v = 2 by omega), if_neg (show ¬ v = 3 by omega), if_neg (show ¬ v = 15 by omega), if_neg (show ¬ v = 16 by omega)]; first | rw [if_pos (show 4 ≤ v ∧ v ≤ 14 by omega)] | rw [if_neg (show ¬ (4 ≤ v ∧ v ≤ 14) by omega)])), rfl⟩
  · refine xg_tin (o := 137) 143 dX12_count_6 (by first | omega | exact hR _ | exact ⟨hR _, by omega⟩ | exact ⟨by omega, hR _⟩ | exact ⟨hR _, hR _⟩) ⟨by omega, by omega⟩ (by rw [show (v - 0).toNat = 8 by omega]; rfl) rfl ?_
    refine xg_iloadn 144 dX12_count_143 rfl rfl rfl ?_
    refine xg_iconst 145 dX12_count_144 rfl ?_
    refine xg_bipush 147 dX12_count_145 rfl (by decide) ?_
    refine xg_callS 150 [_, _, _] _ ks_X12_in kl_RX12_70 dX12_count_147 rfl rfl rfl (Nat.le_of_ble_eq_true rfl) (by omega) ⟨Nat.le_refl _, Nat.le_refl _⟩ (ct_X12_in (by omega)) rfl ?_
    refine xg_deq 166 153 dX12_count_150 rfl rfl (fun hb150 => ?_) (fun hb150 => ?_)
    · skip
      refine xg_iconst 167 dX12_count_166 rfl ?_
      subst hX
      exact xg_ireturn dX12_count_167 rfl ⟨Nat.le_refl _, Nat.le_refl _⟩ ⟨congrArg (fun v => some (J v)) (by unfold sCountA; first | (exfalso; omega) | (rw [if_neg (show ¬ v = 0 by omega), if_neg (show ¬ v = 1 by omega), if_neg (show ¬ v = 2 by omega), if_neg (show ¬ v = 3 by omega), if_neg (show ¬ v = 15 by omega), if_neg (show ¬ v = 16 by omega)]; first | rw [if_pos (show 4 ≤ v ∧ v ≤ 14 by omega)] | rw [if_neg (show ¬ (4 ≤ v ∧ v ≤ 14) by omega)])), rfl⟩
    · skip
      refine xg_aloadn 154 dX12_count_153 rfl rfl rfl ?_
      refine xg_getP 157 kf_RX12_13 dX12_count_154 rfl (by assumption) (by assumption) ?_
      refine xg_iconst 158 dX12_count_157 rfl ?_
      refine xg_iloadn 159 dX12_count_158 rfl rfl rfl ?_
      refine xg_iadd 160 dX12_count_159 rfl ?_
      refine xg_iconst 161 dX12_count_160 rfl ?_
      refine xg_isub 162 dX12_count_161 rfl ?_
      refine xg_ialdW 163 dX12_count_162 rfl (by assumption) (by first | omega | exact hR _ | exact ⟨hR _, by omega⟩ | exact ⟨by omega, hR _⟩ | exact ⟨hR _, hR _⟩) ?_
      refine xg_goto 167 dX12_count_163 rfl ?_
      subst hX
      exact xg_ireturn dX12_count_167 rfl ⟨Nat.le_refl _, Nat.le_refl _⟩ ⟨congrArg (fun v => some (J v)) (by unfold sCountA; first | (exfalso; omega) | (rw [if_neg (show ¬ v = 0 by omega), if_neg (show ¬ v = 1 by omega), if_neg (show ¬ v = 2 by omega), if_neg (show ¬ v = 3 by omega), if_neg (show ¬ v = 15 by omega), if_neg (show ¬ v = 16 by omega)]; first | rw [if_pos (show 4 ≤ v ∧ v ≤ 14 by omega)] | rw [if_neg (show ¬ (4 ≤ v ∧ v ≤ 14) by omega)])), rfl⟩
  · refine xg_tin (o := 137) 143 dX12_count_6 (by first | omega | exact hR _ | exact ⟨hR _, by omega⟩ | exact ⟨by omega, hR _⟩ | exact ⟨hR _, hR _⟩) ⟨by omega, by omega⟩ (by rw [show (v - 0).toNat = 9 by omega]; rfl) rfl ?_
    refine xg_iloadn 144 dX12_count_143 rfl rfl rfl ?_
    refine xg_iconst 145 dX12_count_144 rfl ?_
    refine xg_bipush 147 dX12_count_145 rfl (by decide) ?_
    refine xg_callS 150 [_, _, _] _ ks_X12_in kl_RX12_70 dX12_count_147 rfl rfl rfl (Nat.le_of_ble_eq_true rfl) (by omega) ⟨Nat.le_refl _, Nat.le_refl _⟩ (ct_X12_in (by omega)) rfl ?_
    refine xg_deq 166 153 dX12_count_150 rfl rfl (fun hb150 => ?_) (fun hb150 => ?_)
    · skip
      refine xg_iconst 167 dX12_count_166 rfl ?_
      subst hX
      exact xg_ireturn dX12_count_167 rfl ⟨Nat.le_refl _, Nat.le_refl _⟩ ⟨congrArg (fun v => some (J v)) (by unfold sCountA; first | (exfalso; omega) | (rw [if_neg (show ¬ v = 0 by omega), if_neg (show ¬ v = 1 by omega), if_neg (show ¬ v = 2 by omega), if_neg (show ¬ v = 3 by omega), if_neg (show ¬ v = 15 by omega), if_neg (show ¬ v = 16 by omega)]; first | rw [if_pos (show 4 ≤ v ∧ v ≤ 14 by omega)] | rw [if_neg (show ¬ (4 ≤ v ∧ v ≤ 14) by omega)])), rfl⟩
    · skip
      refine xg_aloadn 154 dX12_count_153 rfl rfl rfl ?_
      refine xg_getP 157 kf_RX12_13 dX12_count_154 rfl (by assumption) (by assumption) ?_
      refine xg_iconst 158 dX12_count_157 rfl ?_
      refine xg_iloadn 159 dX12_count_158 rfl rfl rfl ?_
      refine xg_iadd 160 dX12_count_159 rfl ?_
      refine xg_iconst 161 dX12_count_160 rfl ?_
      refine xg_isub 162 dX12_count_161 rfl ?_
      refine xg_ialdW 163 dX12_count_162 rfl (by assumption) (by first | omega | exact hR _ | exact ⟨hR _, by omega⟩ | exact ⟨by omega, hR _⟩ | exact ⟨hR _, hR _⟩) ?_
      refine xg_goto 167 dX12_count_163 rfl ?_
      subst hX
      exact xg_ireturn dX12_count_167 rfl ⟨Nat.le_refl _, Nat.le_refl _⟩ ⟨congrArg (fun v => some (J v)) (by unfold sCountA; first | (exfalso; omega) | (rw [if_neg (show ¬ v = 0 by omega), if_neg (show ¬ v = 1 by omega), if_neg (show ¬ v = 2 by omega), if_neg (show ¬ v = 3 by omega), if_neg (show ¬ v = 15 by omega), if_neg (show ¬ v = 16 by omega)]; first | rw [if_pos (show 4 ≤ v ∧ v ≤ 14 by omega)] | rw [if_neg (show ¬ (4 ≤ v ∧ v ≤ 14) by omega)])), rfl⟩
  · refine xg_tin (o := 137) 143 dX12_count_6 (by first | omega | exact hR _ | exact ⟨hR _, by omega⟩ | exact ⟨by omega, hR _⟩ | exact ⟨hR _, hR _⟩) ⟨by omega, by omega⟩ (by rw [show (v - 0).toNat = 10 by omega]; rfl) rfl ?_
    refine xg_iloadn 144 dX12_count_143 rfl rfl rfl ?_
    refine xg_iconst 145 dX12_count_144 rfl ?_
    refine xg_bipush 147 dX12_count_145 rfl (by decide) ?_
    refine xg_callS 150 [_, _, _] _ ks_X12_in kl_RX12_70 dX12_count_147 rfl rfl rfl (Nat.le_of_ble_eq_true rfl) (by omega) ⟨Nat.le_refl _, Nat.le_refl _⟩ (ct_X12_in (by omega)) rfl ?_
    refine xg_deq 166 153 dX12_count_150 rfl rfl (fun hb150 => ?_) (fun hb150 => ?_)
    · skip
      refine xg_iconst 167 dX12_count_166 rfl ?_
      subst hX
      exact xg_ireturn dX12_count_167 rfl ⟨Nat.le_refl _, Nat.le_refl _⟩ ⟨congrArg (fun v => some (J v)) (by unfold sCountA; first | (exfalso; omega) | (rw [if_neg (show ¬ v = 0 by omega), if_neg (show ¬ v = 1 by omega), if_neg (show ¬ v = 2 by omega), if_neg (show ¬ v = 3 by omega), if_neg (show ¬ v = 15 by omega), if_neg (show ¬ v = 16 by omega)]; first | rw [if_pos (show 4 ≤ v ∧ v ≤ 14 by omega)] | rw [if_neg (show ¬ (4 ≤ v ∧ v ≤ 14) by omega)])), rfl⟩
    · skip
      refine xg_aloadn 154 dX12_count_153 rfl rfl rfl ?_
      refine xg_getP 157 kf_RX12_13 dX12_count_154 rfl (by assumption) (by assumption) ?_
      refine xg_iconst 158 dX12_count_157 rfl ?_
      refine xg_iloadn 159 dX12_count_158 rfl rfl rfl ?_
      refine xg_iadd 160 dX12_count_159 rfl ?_
      refine xg_iconst 161 dX12_count_160 rfl ?_
      refine xg_isub 162 dX12_count_161 rfl ?_
      refine xg_ialdW 163 dX12_count_162 rfl (by assumption) (by first | omega | exact hR _ | exact ⟨hR _, by omega⟩ | exact ⟨by omega, hR _⟩ | exact ⟨hR _, hR _⟩) ?_
      refine xg_goto 167 dX12_count_163 rfl ?_
      subst hX
      exact xg_ireturn dX12_count_167 rfl ⟨Nat.le_refl _, Nat.le_refl _⟩ ⟨congrArg (fun v => some (J v)) (by unfold sCountA; first | (exfalso; omega) | (rw [if_neg (show ¬ v = 0 by omega), if_neg (show ¬ v = 1 by omega), if_neg (show ¬ v = 2 by omega), if_neg (show ¬ v = 3 by omega), if_neg (show ¬ v = 15 by omega), if_neg (show ¬ v = 16 by omega)]; first | rw [if_pos (show 4 ≤ v ∧ v ≤ 14 by omega)] | rw [if_neg (show ¬ (4 ≤ v ∧ v ≤ 14) by omega)])), rfl⟩
  · refine xg_tin (o := 137) 143 dX12_count_6 (by first | omega | exact hR _ | exact ⟨hR _, by omega⟩ | exact ⟨by omega, hR _⟩ | exact ⟨hR _, hR _⟩) ⟨by omega, by omega⟩ (by rw [show (v - 0).toNat = 11 by omega]; rfl) rfl ?_
    refine xg_iloadn 144 dX12_count_143 rfl rfl rfl ?_
    refine xg_iconst 145 dX12_count_144 rfl ?_
    refine xg_bipush 147 dX12_count_145 rfl (by decide) ?_
    refine xg_callS 150 [_, _, _] _ ks_X12_in kl_RX12_70 dX12_count_147 rfl rfl rfl (Nat.le_of_ble_eq_true rfl) (by omega) ⟨Nat.le_refl _, Nat.le_refl _⟩ (ct_X12_in (by omega)) rfl ?_
    refine xg_deq 166 153 dX12_count_150 rfl rfl (fun hb150 => ?_) (fun hb150 => ?_)
    · skip
      refine xg_iconst 167 dX12_count_166 rfl ?_
      subst hX
      exact xg_ireturn dX12_count_167 rfl ⟨Nat.le_refl _, Nat.le_refl _⟩ ⟨congrArg (fun v => some (J v)) (by unfold sCountA; first | (exfalso; omega) | (rw [if_neg (show ¬ v = 0 by omega), if_neg (show ¬ v = 1 by omega), if_neg (show ¬ v = 2 by omega), if_neg (show ¬ v = 3 by omega), if_neg (show ¬ v = 15 by omega), if_neg (show ¬ v = 16 by omega)]; first | rw [if_pos (show 4 ≤ v ∧ v ≤ 14 by omega)] | rw [if_neg (show ¬ (4 ≤ v ∧ v ≤ 14) by omega)])), rfl⟩
    · skip
      refine xg_aloadn 154 dX12_count_153 rfl rfl rfl ?_
      refine xg_getP 157 kf_RX12_13 dX12_count_154 rfl (by assumption) (by assumption) ?_
      refine xg_iconst 158 dX12_count_157 rfl ?_
      refine xg_iloadn 159 dX12_count_158 rfl rfl rfl ?_
      refine xg_iadd 160 dX12_count_159 rfl ?_
      refine xg_iconst 161 dX12_count_160 rfl ?_
      refine xg_isub 162 dX12_count_161 rfl ?_
      refine xg_ialdW 163 dX12_count_162 rfl (by assumption) (by first | omega | exact hR _ | exact ⟨hR _, by omega⟩ | exact ⟨by omega, hR _⟩ | exact ⟨hR _, hR _⟩) ?_
      refine xg_goto 167 dX12_count_163 rfl ?_
      subst hX
      exact xg_ireturn dX12_count_167 rfl ⟨Nat.le_refl _, Nat.le_refl _⟩ ⟨congrArg (fun v => some (J v)) (by unfold sCountA; first | (exfalso; omega) | (rw [if_neg (show ¬ v = 0 by omega), if_neg (show ¬ v = 1 by omega), if_neg (show ¬ v = 2 by omega), if_neg (show ¬ v = 3 by omega), if_neg (show ¬ v = 15 by omega), if_neg (show ¬ v = 16 by omega)]; first | rw [if_pos (show 4 ≤ v ∧ v ≤ 14 by omega)] | rw [if_neg (show ¬ (4 ≤ v ∧ v ≤ 14) by omega)])), rfl⟩
  · refine xg_tin (o := 137) 143 dX12_count_6 (by first | omega | exact hR _ | exact ⟨hR _, by omega⟩ | exact ⟨by omega, hR _⟩ | exact ⟨hR _, hR _⟩) ⟨by omega, by omega⟩ (by rw [show (v - 0).toNat = 12 by omega]; rfl) rfl ?_
    refine xg_iloadn 144 dX12_count_143 rfl rfl rfl ?_
    refine xg_iconst 145 dX12_count_144 rfl ?_
    refine xg_bipush 147 dX12_count_145 rfl (by decide) ?_
    refine xg_callS 150 [_, _, _] _ ks_X12_in kl_RX12_70 dX12_count_147 rfl rfl rfl (Nat.le_of_ble_eq_true rfl) (by omega) ⟨Nat.le_refl _, Nat.le_refl _⟩ (ct_X12_in (by omega)) rfl ?_
    refine xg_deq 166 153 dX12_count_150 rfl rfl (fun hb150 => ?_) (fun hb150 => ?_)
    · skip
      refine xg_iconst 167 dX12_count_166 rfl ?_
      subst hX
      exact xg_ireturn dX12_count_167 rfl ⟨Nat.le_refl _, Nat.le_refl _⟩ ⟨congrArg (fun v => some (J v)) (by unfold sCountA; first | (exfalso; omega) | (rw [if_neg (show ¬ v = 0 by omega), if_neg (show ¬ v = 1 by omega), if_neg (show ¬ v = 2 by omega), if_neg (show ¬ v = 3 by omega), if_neg (show ¬ v = 15 by omega), if_neg (show ¬ v = 16 by omega)]; first | rw [if_pos (show 4 ≤ v ∧ v ≤ 14 by omega)] | rw [if_neg (show ¬ (4 ≤ v ∧ v ≤ 14) by omega)])), rfl⟩
    · skip
      refine xg_aloadn 154 dX12_count_153 rfl rfl rfl ?_
      refine xg_getP 157 kf_RX12_13 dX12_count_154 rfl (by assumption) (by assumption) ?_
      refine xg_iconst 158 dX12_count_157 rfl ?_
      refine xg_iloadn 159 dX12_count_158 rfl rfl rfl ?_
      refine xg_iadd 160 dX12_count_159 rfl ?_
      refine xg_iconst 161 dX12_count_160 rfl ?_
      refine xg_isub 162 dX12_count_161 rfl ?_
      refine xg_ialdW 163 dX12_count_162 rfl (by assumption) (by first | omega | exact hR _ | exact ⟨hR _, by omega⟩ | exact ⟨by omega, hR _⟩ | exact ⟨hR _, hR _⟩) ?_
      refine xg_goto 167 dX12_count_163 rfl ?_
      subst hX
      exact xg_ireturn dX12_count_167 rfl ⟨Nat.le_refl _, Nat.le_refl _⟩ ⟨congrArg (fun v => some (J v)) (by unfold sCountA; first | (exfalso; omega) | (rw [if_neg (show ¬ v = 0 by omega), if_neg (show ¬ v = 1 by omega), if_neg (show ¬ v = 2 by omega), if_neg (show ¬ v = 3 by omega), if_neg (show ¬ v = 15 by omega), if_neg (show ¬ v = 16 by omega)]; first | rw [if_pos (show 4 ≤ v ∧ v ≤ 14 by omega)] | rw [if_neg (show ¬ (4 ≤ v ∧ v ≤ 14) by omega)])), rfl⟩
  · refine xg_tin (o := 137) 143 dX12_count_6 (by first | omega | exact hR _ | exact ⟨hR _, by omega⟩ | exact ⟨by omega, hR _⟩ | exact ⟨hR _, hR _⟩) ⟨by omega, by omega⟩ (by rw [show (v - 0).toNat = 13 by omega]; rfl) rfl ?_
    refine xg_iloadn 144 dX12_count_143 rfl rfl rfl ?_
    refine xg_iconst 145 dX12_count_144 rfl ?_
    refine xg_bipush 147 dX12_count_145 rfl (by decide) ?_
    refine xg_callS 150 [_, _, _] _ ks_X12_in kl_RX12_70 dX12_count_147 rfl rfl rfl (Nat.le_of_ble_eq_true rfl) (by omega) ⟨Nat.le_refl _, Nat.le_refl _⟩ (ct_X12_in (by omega)) rfl ?_
    refine xg_deq 166 153 dX12_count_150 rfl rfl (fun hb150 => ?_) (fun hb150 => ?_)
    · skip
      refine xg_iconst 167 dX12_count_166 rfl ?_
      subst hX
      exact xg_ireturn dX12_count_167 rfl ⟨Nat.le_refl _, Nat.le_refl _⟩ ⟨congrArg (fun v => some (J v)) (by unfold sCountA; first | (exfalso; omega) | (rw [if_neg (show ¬ v = 0 by omega), if_neg (show ¬ v = 1 by omega), if_neg (show ¬ v = 2 by omega), if_neg (show ¬ v = 3 by omega), if_neg (show ¬ v = 15 by omega), if_neg (show ¬ v = 16 by omega)]; first | rw [if_pos (show 4 ≤ v ∧ v ≤ 14 by omega)] | rw [if_neg (show ¬ (4 ≤ v ∧ v ≤ 14) by omega)])), rfl⟩
    · skip
      refine xg_aloadn 154 dX12_count_153 rfl rfl rfl ?_
      refine xg_getP 157 kf_RX12_13 dX12_count_154 rfl (by assumption) (by assumption) ?_
      refine xg_iconst 158 dX12_count_157 rfl ?_
      refine xg_iloadn 159 dX12_count_158 rfl rfl rfl ?_
      refine xg_iadd 160 dX12_count_159 rfl ?_
      refine xg_iconst 161 dX12_count_160 rfl ?_
      refine xg_isub 162 dX12_count_161 rfl ?_
      refine xg_ialdW 163 dX12_count_162 rfl (by assumption) (by first | omega | exact hR _ | exact ⟨hR _, by omega⟩ | exact ⟨by omega, hR _⟩ | exact ⟨hR _, hR _⟩) ?_
      refine xg_goto 167 dX12_count_163 rfl ?_
      subst hX
      exact xg_ireturn dX12_count_167 rfl ⟨Nat.le_refl _, Nat.le_refl _⟩ ⟨congrArg (fun v => some (J v)) (by unfold sCountA; first | (exfalso; omega) | (rw [if_neg (show ¬ v = 0 by omega), if_neg (show ¬ v = 1 by omega), if_neg (show ¬ v = 2 by omega), if_neg (show ¬ v = 3 by omega), if_neg (show ¬ v = 15 by omega), if_neg (show ¬ v = 16 by omega)]; first | rw [if_pos (show 4 ≤ v ∧ v ≤ 14 by omega)] | rw [if_neg (show ¬ (4 ≤ v ∧ v ≤ 14) by omega)])), rfl⟩
  · refine xg_tin (o := 137) 143 dX12_count_6 (by first | omega | exact hR _ | exact ⟨hR _, by omega⟩ | exact ⟨by omega, hR _⟩ | exact ⟨hR _, hR _⟩) ⟨by omega, by omega⟩ (by rw [show (v - 0).toNat = 14 by omega]; rfl) rfl ?_
    refine xg_iloadn 144 dX12_count_143 rfl rfl rfl ?_
    refine xg_iconst 145 dX12_count_144 rfl ?_
    refine xg_bipush 147 dX12_count_145 rfl (by decide) ?_
    refine xg_callS 150 [_, _, _] _ ks_X12_in kl_RX12_70 dX12_count_147 rfl rfl rfl (Nat.le_of_ble_eq_true rfl) (by omega) ⟨Nat.le_refl _, Nat.le_refl _⟩ (ct_X12_in (by omega)) rfl ?_
    refine xg_deq 166 153 dX12_count_150 rfl rfl (fun hb150 => ?_) (fun hb150 => ?_)
    · skip
      refine xg_iconst 167 dX12_count_166 rfl ?_
      subst hX
      exact xg_ireturn dX12_count_167 rfl ⟨Nat.le_refl _, Nat.le_refl _⟩ ⟨congrArg (fun v => some (J v)) (by unfold sCountA; first | (exfalso; omega) | (rw [if_neg (show ¬ v = 0 by omega), if_neg (show ¬ v = 1 by omega), if_neg (show ¬ v = 2 by omega), if_neg (show ¬ v = 3 by omega), if_neg (show ¬ v = 15 by omega), if_neg (show ¬ v = 16 by omega)]; first | rw [if_pos (show 4 ≤ v ∧ v ≤ 14 by omega)] | rw [if_neg (show ¬ (4 ≤ v ∧ v ≤ 14) by omega)])), rfl⟩
    · skip
      refine xg_aloadn 154 dX12_count_153 rfl rfl rfl ?_
      refine xg_getP 157 kf_RX12_13 dX12_count_154 rfl (by assumption) (by assumption) ?_
      refine xg_iconst 158 dX12_count_157 rfl ?_
      refine xg_iloadn 159 dX12_count_158 rfl rfl rfl ?_
      refine xg_iadd 160 dX12_count_159 rfl ?_
      refine xg_iconst 161 dX12_count_160 rfl ?_
      refine xg_isub 162 dX12_count_161 rfl ?_
      refine xg_ialdW 163 dX12_count_162 rfl (by assumption) (by first | omega | exact hR _ | exact ⟨hR _, by omega⟩ | exact ⟨by omega, hR _⟩ | exact ⟨hR _, hR _⟩) ?_
      refine xg_goto 167 dX12_count_163 rfl ?_
      subst hX
      exact xg_ireturn dX12_count_167 rfl ⟨Nat.le_refl _, Nat.le_refl _⟩ ⟨congrArg (fun v => some (J v)) (by unfold sCountA; first | (exfalso; omega) | (rw [if_neg (show ¬ v = 0 by omega), if_neg (show ¬ v = 1 by omega), if_neg (show ¬ v = 2 by omega), if_neg (show ¬ v = 3 by omega), if_neg (show ¬ v = 15 by omega), if_neg (show ¬ v = 16 by omega)]; first | rw [if_pos (show 4 ≤ v ∧ v ≤ 14 by omega)] | rw [if_neg (show ¬ (4 ≤ v ∧ v ≤ 14) by omega)])), rfl⟩
  · refine xg_tin (o := 124) 130 dX12_count_6 (by first | omega | exact hR _ | exact ⟨hR _, by omega⟩ | exact ⟨by omega, hR _⟩ | exact ⟨hR _, hR _⟩) ⟨by omega, by omega⟩ (by rw [show (v - 0).toNat = 15 by omega]; rfl) rfl ?_
    refine xg_aloadn 131 dX12_count_130 rfl rfl rfl ?_
    refine xg_getP 134 kf_RX12_13 dX12_count_131 rfl (by assumption) (by assumption) ?_
    refine xg_bipush 136 dX12_count_134 rfl (by decide) ?_
    refine xg_ialdW 137 dX12_count_136 rfl (by assumption) (by first | omega | exact hR _ | exact ⟨hR _, by omega⟩ | exact ⟨by omega, hR _⟩ | exact ⟨hR _, hR _⟩) ?_
    subst hX
    exact xg_ireturn dX12_count_137 rfl ⟨Nat.le_refl _, Nat.le_refl _⟩ ⟨by subst ht; rfl, rfl⟩
  · refine xg_tin (o := 132) 138 dX12_count_6 (by first | omega | exact hR _ | exact ⟨hR _, by omega⟩ | exact ⟨by omega, hR _⟩ | exact ⟨hR _, hR _⟩) ⟨by omega, by omega⟩ (by rw [show (v - 0).toNat = 16 by omega]; rfl) rfl ?_
    refine xg_aloadn 139 dX12_count_138 rfl rfl rfl ?_
    refine xg_getI 142 kf_RX12_59 dX12_count_139 rfl (by assumption) ?_
    subst hX
    exact xg_ireturn dX12_count_142 rfl ⟨Nat.le_refl _, Nat.le_refl _⟩ ⟨by subst ht; rw [upF_nk _ _ _ _ (by decide)]; rfl, rfl⟩
  · refine xg_tout 143 dX12_count_6 (by first | omega | exact hR _ | exact ⟨hR _, by omega⟩ | exact ⟨by omega, hR _⟩ | exact ⟨hR _, hR _⟩) ht rfl ?_
    refine xg_iloadn 144 dX12_count_143 rfl rfl rfl ?_
    refine xg_iconst 145 dX12_count_144 rfl ?_
    refine xg_bipush 147 dX12_count_145 rfl (by decide) ?_
    refine xg_callS 150 [_, _, _] _ ks_X12_in kl_RX12_70 dX12_count_147 rfl rfl rfl (Nat.le_of_ble_eq_true rfl) (by omega) ⟨Nat.le_refl _, Nat.le_refl _⟩ (ct_X12_in (by omega)) rfl ?_
    refine xg_deq 166 153 dX12_count_150 rfl rfl (fun hb150 => ?_) (fun hb150 => ?_)
    · skip
      refine xg_iconst 167 dX12_count_166 rfl ?_
      subst hX
      exact xg_ireturn dX12_count_167 rfl ⟨Nat.le_refl _, Nat.le_refl _⟩ ⟨congrArg (fun v => some (J v)) (by unfold sCountA; first | (exfalso; omega) | (rw [if_neg (show ¬ v = 0 by omega), if_neg (show ¬ v = 1 by omega), if_neg (show ¬ v = 2 by omega), if_neg (show ¬ v = 3 by omega), if_neg (show ¬ v = 15 by omega), if_neg (show ¬ v = 16 by omega)]; first | rw [if_pos (show 4 ≤ v ∧ v ≤ 14 by omega)] | rw [if_neg (show ¬ (4 ≤ v ∧ v ≤ 14) by omega)])), rfl⟩
    · skip
      refine xg_aloadn 154 dX12_count_153 rfl rfl rfl ?_
      refine xg_getP 157 kf_RX12_13 dX12_count_154 rfl (by assumption) (by assumption) ?_
      refine xg_iconst 158 dX12_count_157 rfl ?_
      refine xg_iloadn 159 dX12_count_158 rfl rfl rfl ?_
      refine xg_iadd 160 dX12_count_159 rfl ?_
      refine xg_iconst 161 dX12_count_160 rfl ?_
      refine xg_isub 162 dX12_count_161 rfl ?_
      refine xg_ialdW 163 dX12_count_162 rfl (by assumption) (by first | omega | exact hR _ | exact ⟨hR _, by omega⟩ | exact ⟨by omega, hR _⟩ | exact ⟨hR _, hR _⟩) ?_
      refine xg_goto 167 dX12_count_163 rfl ?_
      subst hX
      exact xg_ireturn dX12_count_167 rfl ⟨Nat.le_refl _, Nat.le_refl _⟩ ⟨congrArg (fun v => some (J v)) (by unfold sCountA; first | (exfalso; omega) | (rw [if_neg (show ¬ v = 0 by omega), if_neg (show ¬ v = 1 by omega), if_neg (show ¬ v = 2 by omega), if_neg (show ¬ v = 3 by omega), if_neg (show ¬ v = 15 by omega), if_neg (show ¬ v = 16 by omega)]; first | rw [if_pos (show 4 ≤ v ∧ v ≤ 14 by omega)] | rw [if_neg (show ¬ (4 ≤ v ∧ v ≤ 14) by omega)])), rfl⟩

