theorem xg_baldW {E : xE} {M : xM} {R : Room} {X : xX} {pc : Nat} {L : List (Option Value)} {st : List Value} {z : Nat} {T : Nat → Nat × Int} {F : Nat → Nat → Int} {I : Nat → Int → Int} {P : Nat → Nat → Option Nat} {Y : Nat → Int → Option Nat} {c n : Nat} {a b : Nat} {w : Int → Int} {i : Int} (q : Nat) (d : decode M.2.1 pc = .ok (.baload, 1)) (hq : pc + 1 = q) (hk : (T a).1 = 15 ∧ a ≠ b) (hi : 0 ≤ i ∧ i < (T a).2) (kk : xG E M R X q L (J (I a i) :: st) (z, T, F, upA I b w, P, Y) c n) : xG E M R X pc L (J i :: .ref a :: st) (z, T, F, upA I b w, P, Y) c n :=
  xg_bald q d hq hk.1 hi (by rw [upA_na _ _ _ hk.2]; exact kk)
def sWr (w : Int → Int) (a b : Int) : Int := if a = 0 then (if b = 0 then 2 else w 5 - sEnt w 19) else (if b = 0 then 0 else -1)
noncomputable def sMr (w : Int → Int) (a b : Int) : Int := if a = 0 then (if b = 0 then sDebt w / 4 else -sMany w 0) else (if b = 0 then 1 else 2)
noncomputable def sRst (w : Int → Int) (c : Nat) : Bool := @decide (sWr w (1 - ((c / 2 : Nat) : Int)) ((c % 2 : Nat) : Int) ≤ sWr w ((c / 2 : Nat) : Int) ((c % 2 : Nat) : Int) ∧ sMr w ((c / 2 : Nat) : Int) (1 - ((c % 2 : Nat) : Int)) ≤ sMr w ((c / 2 : Nat) : Int) ((c % 2 : Nat) : Int)) (Classical.propDecidable _)
theorem sRst_t {w : Int → Int} {a b : Nat} (hb : b < 2) (h1 : sWr w (1 - (a : Int)) b ≤ sWr w a b) (h2 : sMr w a (1 - (b : Int)) ≤ sMr w a b) : sRst w (2 * a + b) = true := by
  unfold sRst
  rw [show (2 * a + b) / 2 = a by omega, show (2 * a + b) % 2 = b by omega]
  exact @decide_eq_true _ (Classical.propDecidable _) ⟨h1, h2⟩
theorem sRst_f {w : Int → Int} {a b : Nat} (hb : b < 2) (h : sWr w a b < sWr w (1 - (a : Int)) b ∨ sMr w a b < sMr w a (1 - (b : Int))) : sRst w (2 * a + b) = false := by
  unfold sRst
  rw [show (2 * a + b) / 2 = a by omega, show (2 * a + b) % 2 = b by omega]
  exact @decide_eq_false _ (Classical.propDecidable _) (fun q => by omega)
theorem sWr_bd {w : Int → Int} (h : wOk w) (a b : Int) : -100 ≤ sWr w a b ∧ sWr w a b ≤ 100 := by
  have h1 := sEnt_bd w 19
  have h5 := h.2.2.2.2.2.2.1
  unfold sWr; (repeat' split) <;> omega
theorem sMr_bd {w : Int → Int} (h : wOk w) (a b : Int) : -100 ≤ sMr w a b ∧ sMr w a b ≤ 1000 := by
  have h1 := sDebt_bd (w := w) h.2.1.2
  have h2 := sMany_bd w 0
  have h3 := wN_i h.2.1.1
  have h4 := h.2.1
  unfold sMr; (repeat' split) <;> omega
theorem dX12_writerHas_0 : decode cX12_writerHas 0 = .ok (.iload_n 1, 1) := by decide +kernel
theorem dX12_writerHas_1 : decode cX12_writerHas 1 = .ok (.ifCond .ne 25, 3) := by decide +kernel
theorem dX12_writerHas_4 : decode cX12_writerHas 4 = .ok (.iload_n 2, 1) := by decide +kernel
theorem dX12_writerHas_5 : decode cX12_writerHas 5 = .ok (.ifCond .ne 7, 3) := by decide +kernel
theorem dX12_writerHas_8 : decode cX12_writerHas 8 = .ok (.iconst 2, 1) := by decide +kernel
theorem dX12_writerHas_9 : decode cX12_writerHas 9 = .ok (.goto 16, 3) := by decide +kernel
theorem dX12_writerHas_12 : decode cX12_writerHas 12 = .ok (.aload_n 0, 1) := by decide +kernel
theorem dX12_writerHas_13 : decode cX12_writerHas 13 = .ok (.getfield 13, 3) := by decide +kernel
theorem dX12_writerHas_16 : decode cX12_writerHas 16 = .ok (.iconst 5, 1) := by decide +kernel
theorem dX12_writerHas_17 : decode cX12_writerHas 17 = .ok (.iaload, 1) := by decide +kernel
theorem dX12_writerHas_18 : decode cX12_writerHas 18 = .ok (.aload_n 0, 1) := by decide +kernel
theorem dX12_writerHas_19 : decode cX12_writerHas 19 = .ok (.bipush 19, 2) := by decide +kernel
theorem dX12_writerHas_21 : decode cX12_writerHas 21 = .ok (.invokevirtual 268, 3) := by decide +kernel
theorem dX12_writerHas_24 : decode cX12_writerHas 24 = .ok (.isub, 1) := by decide +kernel
theorem dX12_writerHas_25 : decode cX12_writerHas 25 = .ok (.ireturn, 1) := by decide +kernel
theorem dX12_writerHas_26 : decode cX12_writerHas 26 = .ok (.iload_n 2, 1) := by decide +kernel
theorem dX12_writerHas_27 : decode cX12_writerHas 27 = .ok (.ifCond .ne 7, 3) := by decide +kernel
theorem dX12_writerHas_30 : decode cX12_writerHas 30 = .ok (.iconst 0, 1) := by decide +kernel
theorem dX12_writerHas_31 : decode cX12_writerHas 31 = .ok (.goto 4, 3) := by decide +kernel
theorem dX12_writerHas_34 : decode cX12_writerHas 34 = .ok (.iconst (-1), 1) := by decide +kernel
theorem dX12_writerHas_35 : decode cX12_writerHas 35 = .ok (.ireturn, 1) := by decide +kernel
set_option maxHeartbeats 4000000 in
set_option maxRecDepth 100000 in
theorem ct_X12_writerHas {E : xE} {z : Nat} {T : Nat → Nat × Int} {F : Nat → Nat → Int} {I : Nat → Int → Int} {P : Nat → Nat → Option Nat} {Y : Nat → Int → Option Nat} {m : Nat} {w : Int → Int} (hw : wM T P m) (hO : wOk w){a b : Int} (ha : a = 0 ∨ a = 1) (hb : b = 0 ∨ b = 1) : Ct E 1 mX12_writerHas 0 0 [.ref m, J a, J b] (z, T, F, upA I (m + 1) w, P, Y) (xd (some (J (sWr w a b))) (z, T, F, upA I (m + 1) w, P, Y)) := by
  obtain ⟨⟨q0, q1, q2, q3⟩, -⟩ := id hw
  obtain ⟨hR, o0, o1, o2, o3, o4, o5, o6, oc, o13, o14, o16, o17, o18, ov⟩ := id hO
  have hN := wN_i o0.1
  refine Ct.of [some (.ref m), some (J a), some (J b)] kt_X12_writerHas rfl (Nat.le_of_ble_eq_true rfl) rfl (fun d hd => ?_)
  generalize hX : xN E _ _ _ = X
  refine xg_iloadn 1 dX12_writerHas_0 rfl rfl rfl ?_
  refine xg_ifne 26 4 dX12_writerHas_1 rfl rfl (by first | omega | exact hR _ | exact ⟨hR _, by omega⟩ | exact ⟨by omega, hR _⟩ | exact ⟨hR _, hR _⟩) (fun hb1 => ?_) (fun hb1 => ?_)
  · skip
    refine xg_iloadn 27 dX12_writerHas_26 rfl rfl rfl ?_
    refine xg_ifne 34 30 dX12_writerHas_27 rfl rfl (by first | omega | exact hR _ | exact ⟨hR _, by omega⟩ | exact ⟨by omega, hR _⟩ | exact ⟨hR _, hR _⟩) (fun hb27 => ?_) (fun hb27 => ?_)
    · skip
      refine xg_iconst 35 dX12_writerHas_34 rfl ?_
      subst hX
      exact xg_ireturn dX12_writerHas_35 rfl ⟨Nat.le_refl _, Nat.le_refl _⟩ ⟨congrArg (fun v => some (J v)) (by unfold sWr; first | (rw [if_pos (by assumption), if_pos (by assumption)]; done) | (rw [if_pos (by assumption), if_neg (by assumption)]; done) | (rw [if_neg (by assumption), if_pos (by assumption)]; done) | (rw [if_neg (by assumption), if_neg (by assumption)]; done)), rfl⟩
    · skip
      refine xg_iconst 31 dX12_writerHas_30 rfl ?_
      refine xg_goto 35 dX12_writerHas_31 rfl ?_
      subst hX
      exact xg_ireturn dX12_writerHas_35 rfl ⟨Nat.le_refl _, Nat.le_refl _⟩ ⟨congrArg (fun v => some (J v)) (by unfold sWr; first | (rw [if_pos (by assumption), if_pos (by assumption)]; done) | (rw [if_pos (by assumption), if_neg (by assumption)]; done) | (rw [if_neg (by assumption), if_pos (by assumption)]; done) | (rw [if_neg (by assumption), if_neg (by assumption)]; done)), rfl⟩
  · skip
    refine xg_iloadn 5 dX12_writerHas_4 rfl rfl rfl ?_
    refine xg_ifne 12 8 dX12_writerHas_5 rfl rfl (by first | omega | exact hR _ | exact ⟨hR _, by omega⟩ | exact ⟨by omega, hR _⟩ | exact ⟨hR _, hR _⟩) (fun hb5 => ?_) (fun hb5 => ?_)
    · skip
      refine xg_aloadn 13 dX12_writerHas_12 rfl rfl rfl ?_
      refine xg_getP 16 kf_RX12_13 dX12_writerHas_13 rfl (by assumption) (by assumption) ?_
      refine xg_iconst 17 dX12_writerHas_16 rfl ?_
      refine xg_ialdW 18 dX12_writerHas_17 rfl (by assumption) (by first | omega | exact hR _ | exact ⟨hR _, by omega⟩ | exact ⟨by omega, hR _⟩ | exact ⟨hR _, hR _⟩) ?_
      refine xg_aloadn 19 dX12_writerHas_18 rfl rfl rfl ?_
      refine xg_bipush 21 dX12_writerHas_19 rfl (by decide) ?_
      refine xg_callV 24 12 [_] _ kv_X12_entriesOf ⟨_, _, rfl⟩ kl_RX12_268 dX12_writerHas_21 rfl (by assumption) (by omega) rfl rfl (Nat.le_of_ble_eq_true rfl) (by omega) ⟨Nat.le_refl _, Nat.le_refl _⟩ (ct_X12_entriesOf hw hR (by omega)) rfl ?_
      refine xg_isub 25 dX12_writerHas_24 rfl ?_
      subst hX
      exact xg_ireturn dX12_writerHas_25 rfl ⟨Nat.le_refl _, Nat.le_refl _⟩ ⟨congrArg (fun v => some (J v)) (by unfold sWr; first | (rw [if_pos (by assumption), if_pos (by assumption)]; done) | (rw [if_pos (by assumption), if_neg (by assumption)]; done) | (rw [if_neg (by assumption), if_pos (by assumption)]; done) | (rw [if_neg (by assumption), if_neg (by assumption)]; done)), rfl⟩
    · skip
      refine xg_iconst 9 dX12_writerHas_8 rfl ?_
      refine xg_goto 25 dX12_writerHas_9 rfl ?_
      subst hX
      exact xg_ireturn dX12_writerHas_25 rfl ⟨Nat.le_refl _, Nat.le_refl _⟩ ⟨congrArg (fun v => some (J v)) (by unfold sWr; first | (rw [if_pos (by assumption), if_pos (by assumption)]; done) | (rw [if_pos (by assumption), if_neg (by assumption)]; done) | (rw [if_neg (by assumption), if_pos (by assumption)]; done) | (rw [if_neg (by assumption), if_neg (by assumption)]; done)), rfl⟩

theorem dX12_mergerHas_0 : decode cX12_mergerHas 0 = .ok (.iload_n 1, 1) := by decide +kernel
theorem dX12_mergerHas_1 : decode cX12_mergerHas 1 = .ok (.ifCond .ne 26, 3) := by decide +kernel
theorem dX12_mergerHas_4 : decode cX12_mergerHas 4 = .ok (.iload_n 2, 1) := by decide +kernel
theorem dX12_mergerHas_5 : decode cX12_mergerHas 5 = .ok (.ifCond .ne 12, 3) := by decide +kernel
theorem dX12_mergerHas_8 : decode cX12_mergerHas 8 = .ok (.aload_n 0, 1) := by decide +kernel
theorem dX12_mergerHas_9 : decode cX12_mergerHas 9 = .ok (.invokevirtual 265, 3) := by decide +kernel
theorem dX12_mergerHas_12 : decode cX12_mergerHas 12 = .ok (.iconst 4, 1) := by decide +kernel
theorem dX12_mergerHas_13 : decode cX12_mergerHas 13 = .ok (.idiv, 1) := by decide +kernel
theorem dX12_mergerHas_14 : decode cX12_mergerHas 14 = .ok (.goto 12, 3) := by decide +kernel
theorem dX12_mergerHas_17 : decode cX12_mergerHas 17 = .ok (.aload_n 0, 1) := by decide +kernel
theorem dX12_mergerHas_18 : decode cX12_mergerHas 18 = .ok (.iconst 0, 1) := by decide +kernel
theorem dX12_mergerHas_19 : decode cX12_mergerHas 19 = .ok (.invokevirtual 254, 3) := by decide +kernel
theorem dX12_mergerHas_22 : decode cX12_mergerHas 22 = .ok (.invokestatic 257, 3) := by decide +kernel
theorem dX12_mergerHas_25 : decode cX12_mergerHas 25 = .ok (.ineg, 1) := by decide +kernel
theorem dX12_mergerHas_26 : decode cX12_mergerHas 26 = .ok (.ireturn, 1) := by decide +kernel
theorem dX12_mergerHas_27 : decode cX12_mergerHas 27 = .ok (.iload_n 2, 1) := by decide +kernel
theorem dX12_mergerHas_28 : decode cX12_mergerHas 28 = .ok (.ifCond .ne 7, 3) := by decide +kernel
theorem dX12_mergerHas_31 : decode cX12_mergerHas 31 = .ok (.iconst 1, 1) := by decide +kernel
theorem dX12_mergerHas_32 : decode cX12_mergerHas 32 = .ok (.goto 4, 3) := by decide +kernel
theorem dX12_mergerHas_35 : decode cX12_mergerHas 35 = .ok (.iconst 2, 1) := by decide +kernel
theorem dX12_mergerHas_36 : decode cX12_mergerHas 36 = .ok (.ireturn, 1) := by decide +kernel
set_option maxHeartbeats 4000000 in
set_option maxRecDepth 100000 in
theorem ct_X12_mergerHas {E : xE} {z : Nat} {T : Nat → Nat × Int} {F : Nat → Nat → Int} {I : Nat → Int → Int} {P : Nat → Nat → Option Nat} {Y : Nat → Int → Option Nat} {m : Nat} {w : Int → Int} (hw : wM T P m) (hO : wOk w){a b : Int} (ha : a = 0 ∨ a = 1) (hb : b = 0 ∨ b = 1) : Ct E 5 mX12_mergerHas 0 0 [.ref m, J a, J b] (z, T, F, upA I (m + 1) w, P, Y) (xd (some (J (sMr w a b))) (z, T, F, upA I (m + 1) w, P, Y)) := by
  obtain ⟨⟨q0, q1, q2, q3⟩, -⟩ := id hw
  obtain ⟨hR, o0, o1, o2, o3, o4, o5, o6, oc, o13, o14, o16, o17, o18, ov⟩ := id hO
  have hN := wN_i o0.1
  have hdb := sDebt_bd (w := w) o0.2
  refine Ct.of [some (.ref m), some (J a), some (J b)] kt_X12_mergerHas rfl (Nat.le_of_ble_eq_true rfl) rfl (fun d hd => ?_)
  generalize hX : xN E _ _ _ = X
  refine xg_iloadn 1 dX12_mergerHas_0 rfl rfl rfl ?_
  refine xg_ifne 27 4 dX12_mergerHas_1 rfl rfl (by first | omega | exact hR _ | exact ⟨hR _, by omega⟩ | exact ⟨by omega, hR _⟩ | exact ⟨hR _, hR _⟩) (fun hb1 => ?_) (fun hb1 => ?_)
  · skip
    refine xg_iloadn 28 dX12_mergerHas_27 rfl rfl rfl ?_
    refine xg_ifne 35 31 dX12_mergerHas_28 rfl rfl (by first | omega | exact hR _ | exact ⟨hR _, by omega⟩ | exact ⟨by omega, hR _⟩ | exact ⟨hR _, hR _⟩) (fun hb28 => ?_) (fun hb28 => ?_)
    · skip
      refine xg_iconst 36 dX12_mergerHas_35 rfl ?_
      subst hX
      exact xg_ireturn dX12_mergerHas_36 rfl ⟨Nat.le_refl _, Nat.le_refl _⟩ ⟨congrArg (fun v => some (J v)) (by unfold sMr; first | (rw [if_pos (by assumption), if_pos (by assumption)]; done) | (rw [if_pos (by assumption), if_neg (by assumption)]; done) | (rw [if_neg (by assumption), if_pos (by assumption)]; done) | (rw [if_neg (by assumption), if_neg (by assumption)]; done)), rfl⟩
    · skip
      refine xg_iconst 32 dX12_mergerHas_31 rfl ?_
      refine xg_goto 36 dX12_mergerHas_32 rfl ?_
      subst hX
      exact xg_ireturn dX12_mergerHas_36 rfl ⟨Nat.le_refl _, Nat.le_refl _⟩ ⟨congrArg (fun v => some (J v)) (by unfold sMr; first | (rw [if_pos (by assumption), if_pos (by assumption)]; done) | (rw [if_pos (by assumption), if_neg (by assumption)]; done) | (rw [if_neg (by assumption), if_pos (by assumption)]; done) | (rw [if_neg (by assumption), if_neg (by assumption)]; done)), rfl⟩
  · skip
    refine xg_iloadn 5 dX12_mergerHas_4 rfl rfl rfl ?_
    refine xg_ifne 17 8 dX12_mergerHas_5 rfl rfl (by first | omega | exact hR _ | exact ⟨hR _, by omega⟩ | exact ⟨by omega, hR _⟩ | exact ⟨hR _, hR _⟩) (fun hb5 => ?_) (fun hb5 => ?_)
    · skip
      refine xg_aloadn 18 dX12_mergerHas_17 rfl rfl rfl ?_
      refine xg_iconst 19 dX12_mergerHas_18 rfl ?_
      refine xg_callV 22 12 [_] _ kv_X12_runsOf ⟨_, _, rfl⟩ kl_RX12_254 dX12_mergerHas_19 rfl (by assumption) (by omega) rfl rfl (Nat.le_of_ble_eq_true rfl) (by omega) ⟨Nat.le_refl _, Nat.le_refl _⟩ (ct_X12_runsOf hw hO (by omega)) rfl ?_
      refine xg_callS 25 [_] _ ks_J6_bitCount_0f7a4 kl_RX12_257 dX12_mergerHas_22 rfl rfl rfl (Nat.le_of_ble_eq_true rfl) (by omega) ⟨Nat.le_refl _, Nat.le_refl _⟩ (ct_J6_bitCount_0f7a4) rfl ?_
      rw [xbc_runs 0 o0.2]
      refine xg_ineg 26 dX12_mergerHas_25 rfl ?_
      subst hX
      exact xg_ireturn dX12_mergerHas_26 rfl ⟨Nat.le_refl _, Nat.le_refl _⟩ ⟨congrArg (fun v => some (J v)) (by unfold sMr; first | (rw [if_pos (by assumption), if_pos (by assumption)]; done) | (rw [if_pos (by assumption), if_neg (by assumption)]; done) | (rw [if_neg (by assumption), if_pos (by assumption)]; done) | (rw [if_neg (by assumption), if_neg (by assumption)]; done)), rfl⟩
    · skip
      refine xg_aloadn 9 dX12_mergerHas_8 rfl rfl rfl ?_
      refine xg_callV 12 12 [] _ kv_X12_debtNow ⟨_, _, rfl⟩ kl_RX12_265 dX12_mergerHas_9 rfl (by assumption) (by omega) rfl rfl (Nat.le_of_ble_eq_true rfl) (by omega) ⟨Nat.le_refl _, Nat.le_refl _⟩ (ct_X12_debtNow hw hO) rfl ?_
      refine xg_iconst 13 dX12_mergerHas_12 rfl ?_
      refine xg_idiv 14 dX12_mergerHas_13 rfl (by first | omega | exact hR _ | exact ⟨hR _, by omega⟩ | exact ⟨by omega, hR _⟩ | exact ⟨hR _, hR _⟩) ?_
      refine xg_goto 26 dX12_mergerHas_14 rfl ?_
      subst hX
      exact xg_ireturn dX12_mergerHas_26 rfl ⟨Nat.le_refl _, Nat.le_refl _⟩ ⟨congrArg (fun v => some (J v)) (by unfold sMr; first | (rw [if_pos (by assumption), if_pos (by assumption)]; done) | (rw [if_pos (by assumption), if_neg (by assumption)]; done) | (rw [if_neg (by assumption), if_pos (by assumption)]; done) | (rw [if_neg (by assumption), if_neg (by assumption)]; done)), rfl⟩

theorem dX12_rests_0 : decode cX12_rests 0 = .ok (.aload_n 0, 1) := by decide +kernel
theorem dX12_rests_1 : decode cX12_rests 1 = .ok (.iconst 0, 1) := by decide +kernel
theorem dX12_rests_2 : decode cX12_rests 2 = .ok (.putfield 3, 3) := by decide +kernel
theorem dX12_rests_5 : decode cX12_rests 5 = .ok (.iconst 0, 1) := by decide +kernel
theorem dX12_rests_6 : decode cX12_rests 6 = .ok (.istore_n 1, 1) := by decide +kernel
theorem dX12_rests_7 : decode cX12_rests 7 = .ok (.iconst 0, 1) := by decide +kernel
theorem dX12_rests_8 : decode cX12_rests 8 = .ok (.istore_n 2, 1) := by decide +kernel
theorem dX12_rests_9 : decode cX12_rests 9 = .ok (.iload_n 2, 1) := by decide +kernel
theorem dX12_rests_10 : decode cX12_rests 10 = .ok (.iconst 2, 1) := by decide +kernel
theorem dX12_rests_11 : decode cX12_rests 11 = .ok (.if_icmp .ge 70, 3) := by decide +kernel
theorem dX12_rests_14 : decode cX12_rests 14 = .ok (.iconst 0, 1) := by decide +kernel
theorem dX12_rests_15 : decode cX12_rests 15 = .ok (.istore_n 3, 1) := by decide +kernel
theorem dX12_rests_16 : decode cX12_rests 16 = .ok (.iload_n 3, 1) := by decide +kernel
theorem dX12_rests_17 : decode cX12_rests 17 = .ok (.iconst 2, 1) := by decide +kernel
theorem dX12_rests_18 : decode cX12_rests 18 = .ok (.if_icmp .ge 57, 3) := by decide +kernel
theorem dX12_rests_21 : decode cX12_rests 21 = .ok (.iload_n 1, 1) := by decide +kernel
theorem dX12_rests_22 : decode cX12_rests 22 = .ok (.aload_n 0, 1) := by decide +kernel
theorem dX12_rests_23 : decode cX12_rests 23 = .ok (.iload_n 2, 1) := by decide +kernel
theorem dX12_rests_24 : decode cX12_rests 24 = .ok (.iload_n 3, 1) := by decide +kernel
theorem dX12_rests_25 : decode cX12_rests 25 = .ok (.invokevirtual 455, 3) := by decide +kernel
theorem dX12_rests_28 : decode cX12_rests 28 = .ok (.aload_n 0, 1) := by decide +kernel
theorem dX12_rests_29 : decode cX12_rests 29 = .ok (.iconst 1, 1) := by decide +kernel
theorem dX12_rests_30 : decode cX12_rests 30 = .ok (.iload_n 2, 1) := by decide +kernel
theorem dX12_rests_31 : decode cX12_rests 31 = .ok (.isub, 1) := by decide +kernel
theorem dX12_rests_32 : decode cX12_rests 32 = .ok (.iload_n 3, 1) := by decide +kernel
theorem dX12_rests_33 : decode cX12_rests 33 = .ok (.invokevirtual 455, 3) := by decide +kernel
theorem dX12_rests_36 : decode cX12_rests 36 = .ok (.if_icmp .lt 30, 3) := by decide +kernel
theorem dX12_rests_39 : decode cX12_rests 39 = .ok (.aload_n 0, 1) := by decide +kernel
theorem dX12_rests_40 : decode cX12_rests 40 = .ok (.iload_n 2, 1) := by decide +kernel
theorem dX12_rests_41 : decode cX12_rests 41 = .ok (.iload_n 3, 1) := by decide +kernel
theorem dX12_rests_42 : decode cX12_rests 42 = .ok (.invokevirtual 458, 3) := by decide +kernel
theorem dX12_rests_45 : decode cX12_rests 45 = .ok (.aload_n 0, 1) := by decide +kernel
theorem dX12_rests_46 : decode cX12_rests 46 = .ok (.iload_n 2, 1) := by decide +kernel
theorem dX12_rests_47 : decode cX12_rests 47 = .ok (.iconst 1, 1) := by decide +kernel
theorem dX12_rests_48 : decode cX12_rests 48 = .ok (.iload_n 3, 1) := by decide +kernel
theorem dX12_rests_49 : decode cX12_rests 49 = .ok (.isub, 1) := by decide +kernel
theorem dX12_rests_50 : decode cX12_rests 50 = .ok (.invokevirtual 458, 3) := by decide +kernel
theorem dX12_rests_53 : decode cX12_rests 53 = .ok (.if_icmp .lt 13, 3) := by decide +kernel
theorem dX12_rests_56 : decode cX12_rests 56 = .ok (.iconst 1, 1) := by decide +kernel
theorem dX12_rests_57 : decode cX12_rests 57 = .ok (.iconst 2, 1) := by decide +kernel
theorem dX12_rests_58 : decode cX12_rests 58 = .ok (.iload_n 2, 1) := by decide +kernel
theorem dX12_rests_59 : decode cX12_rests 59 = .ok (.imul, 1) := by decide +kernel
theorem dX12_rests_60 : decode cX12_rests 60 = .ok (.iload_n 3, 1) := by decide +kernel
theorem dX12_rests_61 : decode cX12_rests 61 = .ok (.iadd, 1) := by decide +kernel
theorem dX12_rests_62 : decode cX12_rests 62 = .ok (.ishl, 1) := by decide +kernel
theorem dX12_rests_63 : decode cX12_rests 63 = .ok (.goto 4, 3) := by decide +kernel
theorem dX12_rests_66 : decode cX12_rests 66 = .ok (.iconst 0, 1) := by decide +kernel
theorem dX12_rests_67 : decode cX12_rests 67 = .ok (.ior, 1) := by decide +kernel
theorem dX12_rests_68 : decode cX12_rests 68 = .ok (.istore_n 1, 1) := by decide +kernel
theorem dX12_rests_69 : decode cX12_rests 69 = .ok (.iinc 3 1, 3) := by decide +kernel
theorem dX12_rests_72 : decode cX12_rests 72 = .ok (.goto (-56), 3) := by decide +kernel
theorem dX12_rests_75 : decode cX12_rests 75 = .ok (.iinc 2 1, 3) := by decide +kernel
theorem dX12_rests_78 : decode cX12_rests 78 = .ok (.goto (-69), 3) := by decide +kernel
theorem dX12_rests_81 : decode cX12_rests 81 = .ok (.iload_n 1, 1) := by decide +kernel
theorem dX12_rests_82 : decode cX12_rests 82 = .ok (.ireturn, 1) := by decide +kernel
set_option maxHeartbeats 4000000 in
set_option maxRecDepth 100000 in
theorem ct_X12_rests {E : xE} {z : Nat} {T : Nat → Nat × Int} {F : Nat → Nat → Int} {I : Nat → Int → Int} {P : Nat → Nat → Option Nat} {Y : Nat → Int → Option Nat} {m : Nat} {w : Int → Int} (hw : wM T P m) (hO : wOk w) : Ct E 6 mX12_rests 0 0 [.ref m] (z, T, F, upA I (m + 1) w, P, Y) (xd (some (J (nSet (sRst w) 4 : Nat))) (z, T, upF F m 0 0, upA I (m + 1) (w), P, Y)) := by
  obtain ⟨⟨q0, q1, q2, q3⟩, -⟩ := id hw
  obtain ⟨hR, o0, o1, o2, o3, o4, o5, o6, oc, o13, o14, o16, o17, o18, ov⟩ := id hO
  have hN := wN_i o0.1
  refine Ct.of [some (.ref m), none, none, none] kt_X12_rests rfl (Nat.le_of_ble_eq_true rfl) rfl (fun d hd => ?_)
  generalize hX : xN E _ _ _ = X
  refine xg_aloadn 1 dX12_rests_0 rfl rfl rfl ?_
  refine xg_iconst 2 dX12_rests_1 rfl ?_
  refine xg_putI 5 kf_RX12_3 dX12_rests_2 rfl (by assumption) ?_
  refine xg_iconst 6 dX12_rests_5 rfl ?_
  refine xg_istoren 7 _ dX12_rests_6 rfl rfl rfl (by decide) (Or.inr rfl) ?_
  refine xg_iconst 8 dX12_rests_7 rfl ?_
  refine xg_istoren 9 _ dX12_rests_8 rfl rfl rfl (by decide) (Or.inr rfl) ?_
  have loop9 : ∀ (mm : Nat) (a : Nat) (v : Option Value), a ≤ 2 → 2 - (a : Int) < (mm : Int) → xG E mX12_rests (xR d 0 0) X 9 [some (.ref m), some (J (nSet (sRst w) (2 * a) : Nat)), some (J (a : Int)), none] [] (z, T, upF F m 0 0, upA I (m + 1) (w), P, Y) 0 0 := by
    intro mm
    induction mm with
    | zero => intro a v ha hm; exfalso; omega
    | succ mm ih =>
      intro a v ha hm
      refine xg_iloadn 10 dX12_rests_9 rfl rfl rfl ?_
      refine xg_iconst 11 dX12_rests_10 rfl ?_
      refine xg_icge 81 14 dX12_rests_11 rfl rfl (by first | omega | exact hR _ | exact ⟨hR _, by omega⟩ | exact ⟨by omega, hR _⟩ | exact ⟨hR _, hR _⟩) (fun hb11 => ?_) (fun hb11 => ?_)
      · skip
        refine xg_iloadn 82 dX12_rests_81 rfl rfl rfl ?_
        subst hX
        exact xg_ireturn dX12_rests_82 rfl ⟨Nat.le_refl _, Nat.le_refl _⟩ ⟨by rw [show a = 2 by omega], rfl⟩
      · skip
        refine xg_iconst 15 dX12_rests_14 rfl ?_
        refine xg_istoren 16 _ dX12_rests_15 rfl rfl rfl (by decide) (Or.inr rfl) ?_
        have loop16 : ∀ (mm : Nat) (b : Nat) (n : Int), b ≤ 2 → n = (nSet (sRst w) (2 * a + b) : Nat) → 2 - (b : Int) < (mm : Int) → xG E mX12_rests (xR d 0 0) X 16 [some (.ref m), some (J n), some (J (a : Int)), some (J (b : Int))] [] (z, T, upF F m 0 0, upA I (m + 1) (w), P, Y) 0 0 := by
          intro mm
          induction mm with
          | zero => intro b n hb hn hm; exfalso; omega
          | succ mm ih2 =>
            intro b n hb hn hm
            have e1 := sWr_bd hO (a : Int) (b : Int)
            have e2 := sWr_bd hO (1 - (a : Int)) (b : Int)
            have e3 := sMr_bd hO (a : Int) (b : Int)
            have e4 := sMr_bd hO (a : Int) (1 - (b : Int))
            refine xg_iloadn 17 dX12_rests_16 rfl rfl rfl ?_
            refine xg_iconst 18 dX12_rests_17 rfl ?_
            refine xg_icge 75 21 dX12_rests_18 rfl rfl (by first | omega | exact hR _ | exact ⟨hR _, by omega⟩ | exact ⟨by omega, hR _⟩ | exact ⟨hR _, hR _⟩) (fun hb18 => ?_) (fun hb18 => ?_)
            · skip
              refine xg_iinc 78 _ dX12_rests_75 rfl rfl rfl rfl (by decide) (Or.inr rfl) ?_
              refine xg_goto 9 dX12_rests_78 rfl ?_
              exact xg_weak _ (xle_s rfl (xle_s (by rw [hn, show b = 2 by omega]; rfl) (xle_s rfl (xle_n xle_0)))) (ih (a + 1) none (by omega) (by omega))
            · skip
              refine xg_iloadn 22 dX12_rests_21 rfl rfl rfl ?_
              refine xg_aloadn 23 dX12_rests_22 rfl rfl rfl ?_
              refine xg_iloadn 24 dX12_rests_23 rfl rfl rfl ?_
              refine xg_iloadn 25 dX12_rests_24 rfl rfl rfl ?_
              refine xg_callV 28 12 [_, _] _ kv_X12_writerHas ⟨_, _, rfl⟩ kl_RX12_455 dX12_rests_25 rfl (by assumption) (by omega) rfl rfl (Nat.le_of_ble_eq_true rfl) (by omega) ⟨Nat.le_refl _, Nat.le_refl _⟩ (ct_X12_writerHas hw hO (by omega) (by omega)) rfl ?_
              refine xg_aloadn 29 dX12_rests_28 rfl rfl rfl ?_
              refine xg_iconst 30 dX12_rests_29 rfl ?_
              refine xg_iloadn 31 dX12_rests_30 rfl rfl rfl ?_
              refine xg_isub 32 dX12_rests_31 rfl ?_
              refine xg_iloadn 33 dX12_rests_32 rfl rfl rfl ?_
              refine xg_callV 36 12 [_, _] _ kv_X12_writerHas ⟨_, _, rfl⟩ kl_RX12_455 dX12_rests_33 rfl (by assumption) (by omega) rfl rfl (Nat.le_of_ble_eq_true rfl) (by omega) ⟨Nat.le_refl _, Nat.le_refl _⟩ (ct_X12_writerHas hw hO (by omega) (by omega)) rfl ?_
              refine xg_iclt 66 39 dX12_rests_36 rfl rfl (by first | omega | exact hR _ | exact ⟨hR _, by omega⟩ | exact ⟨by omega, hR _⟩ | exact ⟨hR _, hR _⟩) (fun hb36 => ?_) (fun hb36 => ?_)
              · skip
                refine xg_iconst 67 dX12_rests_66 rfl ?_
                refine xg_ior 68 dX12_rests_67 rfl ?_
                refine xg_istoren 69 _ dX12_rests_68 rfl rfl rfl (by decide) (Or.inr rfl) ?_
                refine xg_iinc 72 _ dX12_rests_69 rfl rfl rfl rfl (by decide) (Or.inr rfl) ?_
                refine xg_goto 16 dX12_rests_72 rfl ?_
                exact xg_weak _ (xle_s rfl (xle_s rfl (xle_s rfl (xle_s rfl xle_0)))) (ih2 (b + 1) _ (by omega) (by rw [hn]; exact nSet_f (sRst_f (by omega) (Or.inl hb36)) (by omega)) (by omega))
              · skip
                refine xg_aloadn 40 dX12_rests_39 rfl rfl rfl ?_
                refine xg_iloadn 41 dX12_rests_40 rfl rfl rfl ?_
                refine xg_iloadn 42 dX12_rests_41 rfl rfl rfl ?_
                refine xg_callV 45 12 [_, _] _ kv_X12_mergerHas ⟨_, _, rfl⟩ kl_RX12_458 dX12_rests_42 rfl (by assumption) (by omega) rfl rfl (Nat.le_of_ble_eq_true rfl) (by omega) ⟨Nat.le_refl _, Nat.le_refl _⟩ (ct_X12_mergerHas hw hO (by omega) (by omega)) rfl ?_
                refine xg_aloadn 46 dX12_rests_45 rfl rfl rfl ?_
                refine xg_iloadn 47 dX12_rests_46 rfl rfl rfl ?_
                refine xg_iconst 48 dX12_rests_47 rfl ?_
                refine xg_iloadn 49 dX12_rests_48 rfl rfl rfl ?_
                refine xg_isub 50 dX12_rests_49 rfl ?_
                refine xg_callV 53 12 [_, _] _ kv_X12_mergerHas ⟨_, _, rfl⟩ kl_RX12_458 dX12_rests_50 rfl (by assumption) (by omega) rfl rfl (Nat.le_of_ble_eq_true rfl) (by omega) ⟨Nat.le_refl _, Nat.le_refl _⟩ (ct_X12_mergerHas hw hO (by omega) (by omega)) rfl ?_
                refine xg_iclt 66 56 dX12_rests_53 rfl rfl (by first | omega | exact hR _ | exact ⟨hR _, by omega⟩ | exact ⟨by omega, hR _⟩ | exact ⟨hR _, hR _⟩) (fun hb53 => ?_) (fun hb53 => ?_)
                · skip
                  refine xg_iconst 67 dX12_rests_66 rfl ?_
                  refine xg_ior 68 dX12_rests_67 rfl ?_
                  refine xg_istoren 69 _ dX12_rests_68 rfl rfl rfl (by decide) (Or.inr rfl) ?_
                  refine xg_iinc 72 _ dX12_rests_69 rfl rfl rfl rfl (by decide) (Or.inr rfl) ?_
                  refine xg_goto 16 dX12_rests_72 rfl ?_
                  exact xg_weak _ (xle_s rfl (xle_s rfl (xle_s rfl (xle_s rfl xle_0)))) (ih2 (b + 1) _ (by omega) (by rw [hn]; exact nSet_f (sRst_f (by omega) (Or.inr hb53)) (by omega)) (by omega))
                · skip
                  refine xg_iconst 57 dX12_rests_56 rfl ?_
                  refine xg_iconst 58 dX12_rests_57 rfl ?_
                  refine xg_iloadn 59 dX12_rests_58 rfl rfl rfl ?_
                  refine xg_imul 60 dX12_rests_59 rfl ?_
                  refine xg_iloadn 61 dX12_rests_60 rfl rfl rfl ?_
                  refine xg_iadd 62 dX12_rests_61 rfl ?_
                  refine xg_ishl 63 dX12_rests_62 rfl ?_
                  refine xg_goto 67 dX12_rests_63 rfl ?_
                  refine xg_ior 68 dX12_rests_67 rfl ?_
                  refine xg_istoren 69 _ dX12_rests_68 rfl rfl rfl (by decide) (Or.inr rfl) ?_
                  refine xg_iinc 72 _ dX12_rests_69 rfl rfl rfl rfl (by decide) (Or.inr rfl) ?_
                  refine xg_goto 16 dX12_rests_72 rfl ?_
                  exact xg_weak _ (xle_s rfl (xle_s rfl (xle_s rfl (xle_s rfl xle_0)))) (ih2 (b + 1) _ (by omega) (by rw [hn, show 2 * (a : Int) + (b : Int) = ((2 * a + b : Nat) : Int) by omega]; exact nSet_t (sRst_t (by omega) hb36 hb53) (by omega)) (by omega))
        exact xg_weak _ (xle_s rfl (xle_s rfl (xle_s rfl (xle_s rfl xle_0)))) (loop16 3 0 _ (by omega) rfl (by omega))
  exact xg_weak _ (xle_s rfl (xle_s rfl (xle_s rfl (xle_n xle_0)))) (loop9 3 0 none (by omega) (by omega))

theorem dX12_fault_0 : decode cX12_fault 0 = .ok (.aload_n 0, 1) := by decide +kernel
theorem dX12_fault_1 : decode cX12_fault 1 = .ok (.iconst 0, 1) := by decide +kernel
theorem dX12_fault_2 : decode cX12_fault 2 = .ok (.putfield 3, 3) := by decide +kernel
theorem dX12_fault_5 : decode cX12_fault 5 = .ok (.aload_n 0, 1) := by decide +kernel
theorem dX12_fault_6 : decode cX12_fault 6 = .ok (.getfield 33, 3) := by decide +kernel
theorem dX12_fault_9 : decode cX12_fault 9 = .ok (.ireturn, 1) := by decide +kernel
set_option maxHeartbeats 4000000 in
set_option maxRecDepth 100000 in
theorem ct_X12_fault {E : xE} {z : Nat} {T : Nat → Nat × Int} {F : Nat → Nat → Int} {I : Nat → Int → Int} {P : Nat → Nat → Option Nat} {Y : Nat → Int → Option Nat} {m : Nat} {w : Int → Int} (hw : wM T P m) : Ct E 0 mX12_fault 0 0 [.ref m] (z, T, F, upA I (m + 1) w, P, Y) (xd (some (J (F m 14))) (z, T, upF F m 0 0, upA I (m + 1) (w), P, Y)) := by
  obtain ⟨⟨q0, q1, q2, q3⟩, -⟩ := id hw
  refine Ct.of [some (.ref m)] kt_X12_fault rfl (Nat.le_of_ble_eq_true rfl) rfl (fun d hd => ?_)
  generalize hX : xN E _ _ _ = X
  refine xg_aloadn 1 dX12_fault_0 rfl rfl rfl ?_
  refine xg_iconst 2 dX12_fault_1 rfl ?_
  refine xg_putI 5 kf_RX12_3 dX12_fault_2 rfl (by assumption) ?_
  refine xg_aloadn 6 dX12_fault_5 rfl rfl rfl ?_
  refine xg_getI 9 kf_RX12_33 dX12_fault_6 rfl (by assumption) ?_
  subst hX
  exact xg_ireturn dX12_fault_9 rfl ⟨Nat.le_refl _, Nat.le_refl _⟩ ⟨by rw [upF_nk _ _ _ _ (show (14 : Nat) ≠ 0 by decide)], rfl⟩

theorem dX12_end_0 : decode cX12_end 0 = .ok (.aload_n 0, 1) := by decide +kernel
theorem dX12_end_1 : decode cX12_end 1 = .ok (.iconst 0, 1) := by decide +kernel
theorem dX12_end_2 : decode cX12_end 2 = .ok (.putfield 3, 3) := by decide +kernel
theorem dX12_end_5 : decode cX12_end 5 = .ok (.iload_n 1, 1) := by decide +kernel
theorem dX12_end_6 : decode cX12_end 6 = .ok (.ifCond .lt 11, 3) := by decide +kernel
theorem dX12_end_9 : decode cX12_end 9 = .ok (.iload_n 1, 1) := by decide +kernel
theorem dX12_end_10 : decode cX12_end 10 = .ok (.aload_n 0, 1) := by decide +kernel
theorem dX12_end_11 : decode cX12_end 11 = .ok (.getfield 80, 3) := by decide +kernel
theorem dX12_end_14 : decode cX12_end 14 = .ok (.if_icmp .le 5, 3) := by decide +kernel
theorem dX12_end_17 : decode cX12_end 17 = .ok (.iconst 0, 1) := by decide +kernel
theorem dX12_end_18 : decode cX12_end 18 = .ok (.ireturn, 1) := by decide +kernel
theorem dX12_end_19 : decode cX12_end 19 = .ok (.aload_n 0, 1) := by decide +kernel
theorem dX12_end_20 : decode cX12_end 20 = .ok (.iload_n 1, 1) := by decide +kernel
theorem dX12_end_21 : decode cX12_end 21 = .ok (.putfield 80, 3) := by decide +kernel
theorem dX12_end_24 : decode cX12_end 24 = .ok (.iconst 1, 1) := by decide +kernel
theorem dX12_end_25 : decode cX12_end 25 = .ok (.ireturn, 1) := by decide +kernel
set_option maxHeartbeats 4000000 in
set_option maxRecDepth 100000 in
theorem ct_X12_end_f {E : xE} {z : Nat} {T : Nat → Nat × Int} {F : Nat → Nat → Int} {I : Nat → Int → Int} {P : Nat → Nat → Option Nat} {Y : Nat → Int → Option Nat} {m : Nat} {w : Int → Int} (hw : wM T P m){v : Int} (hv : -2147483648 ≤ v ∧ v < 2147483648) (h9 : 0 ≤ F m 9 ∧ F m 9 ≤ 400) (hb : ¬ (0 ≤ v ∧ v ≤ F m 9)) : Ct E 0 mX12_end 0 0 [.ref m, J v] (z, T, F, upA I (m + 1) w, P, Y) (xd (some (J 0)) (z, T, upF F m 0 0, upA I (m + 1) (w), P, Y)) := by
  obtain ⟨⟨q0, q1, q2, q3⟩, -⟩ := id hw
  refine Ct.of [some (.ref m), some (J v)] kt_X12_end rfl (Nat.le_of_ble_eq_true rfl) rfl (fun d hd => ?_)
  generalize hX : xN E _ _ _ = X
  refine xg_aloadn 1 dX12_end_0 rfl rfl rfl ?_
  refine xg_iconst 2 dX12_end_1 rfl ?_
  refine xg_putI 5 kf_RX12_3 dX12_end_2 rfl (by assumption) ?_
  refine xg_iloadn 6 dX12_end_5 rfl rfl rfl ?_
  refine xg_iflt 17 9 dX12_end_6 rfl rfl (by first | omega | exact hR _ | exact ⟨hR _, by omega⟩ | exact ⟨by omega, hR _⟩ | exact ⟨hR _, hR _⟩) (fun hb6 => ?_) (fun hb6 => ?_)
  · first
    | (exfalso; omega)
    | skip
      refine xg_iconst 18 dX12_end_17 rfl ?_
      subst hX
      exact xg_zreturn dX12_end_18 rfl (by first | exact bI_01 _ | omega) ⟨Nat.le_refl _, Nat.le_refl _⟩ ⟨rfl, rfl⟩
  · first
    | (exfalso; omega)
    | skip
      refine xg_iloadn 10 dX12_end_9 rfl rfl rfl ?_
      refine xg_aloadn 11 dX12_end_10 rfl rfl rfl ?_
      refine xg_getI 14 kf_RX12_80 dX12_end_11 rfl (by assumption) ?_
      rw [upF_nk _ _ _ _ (show (9 : Nat) ≠ 0 by decide)]
      refine xg_icle 19 17 dX12_end_14 rfl rfl (by first | omega | exact hR _ | exact ⟨hR _, by omega⟩ | exact ⟨by omega, hR _⟩ | exact ⟨hR _, hR _⟩) (fun hb14 => ?_) (fun hb14 => ?_)
      · first
        | (exfalso; omega)
        | skip
          exfalso; omega
      · first
        | (exfalso; omega)
        | skip
          refine xg_iconst 18 dX12_end_17 rfl ?_
          subst hX
          exact xg_zreturn dX12_end_18 rfl (by first | exact bI_01 _ | omega) ⟨Nat.le_refl _, Nat.le_refl _⟩ ⟨rfl, rfl⟩

set_option maxHeartbeats 4000000 in
set_option maxRecDepth 100000 in
theorem ct_X12_end {E : xE} {z : Nat} {T : Nat → Nat × Int} {F : Nat → Nat → Int} {I : Nat → Int → Int} {P : Nat → Nat → Option Nat} {Y : Nat → Int → Option Nat} {m : Nat} {w : Int → Int} (hw : wM T P m){v : Int} (hv : -2147483648 ≤ v ∧ v < 2147483648) (h9 : 0 ≤ F m 9 ∧ F m 9 ≤ 400) (hb : 0 ≤ v ∧ v ≤ F m 9) : Ct E 0 mX12_end 0 0 [.ref m, J v] (z, T, F, upA I (m + 1) w, P, Y) (xd (some (J 1)) (z, T, upF (upF F m 0 0) m 9 v, upA I (m + 1) (w), P, Y)) := by
  obtain ⟨⟨q0, q1, q2, q3⟩, -⟩ := id hw
  refine Ct.of [some (.ref m), some (J v)] kt_X12_end rfl (Nat.le_of_ble_eq_true rfl) rfl (fun d hd => ?_)
  generalize hX : xN E _ _ _ = X
  refine xg_aloadn 1 dX12_end_0 rfl rfl rfl ?_
  refine xg_iconst 2 dX12_end_1 rfl ?_
  refine xg_putI 5 kf_RX12_3 dX12_end_2 rfl (by assumption) ?_
  refine xg_iloadn 6 dX12_end_5 rfl rfl rfl ?_
  refine xg_iflt 17 9 dX12_end_6 rfl rfl (by first | omega | exact hR _ | exact ⟨hR _, by omega⟩ | exact ⟨by omega, hR _⟩ | exact ⟨hR _, hR _⟩) (fun hb6 => ?_) (fun hb6 => ?_)
  · first
    | (exfalso; omega)
    | skip
      exfalso; omega
  · first
    | (exfalso; omega)
    | skip
      refine xg_iloadn 10 dX12_end_9 rfl rfl rfl ?_
      refine xg_aloadn 11 dX12_end_10 rfl rfl rfl ?_
      refine xg_getI 14 kf_RX12_80 dX12_end_11 rfl (by assumption) ?_
      rw [upF_nk _ _ _ _ (show (9 : Nat) ≠ 0 by decide)]
      refine xg_icle 19 17 dX12_end_14 rfl rfl (by first | omega | exact hR _ | exact ⟨hR _, by omega⟩ | exact ⟨by omega, hR _⟩ | exact ⟨hR _, hR _⟩) (fun hb14 => ?_) (fun hb14 => ?_)
      · first
        | (exfalso; omega)
        | skip
          refine xg_aloadn 20 dX12_end_19 rfl rfl rfl ?_
          refine xg_iloadn 21 dX12_end_20 rfl rfl rfl ?_
          refine xg_putI 24 kf_RX12_80 dX12_end_21 rfl (by assumption) ?_
          refine xg_iconst 25 dX12_end_24 rfl ?_
          subst hX
          exact xg_zreturn dX12_end_25 rfl (by first | exact bI_01 _ | omega) ⟨Nat.le_refl _, Nat.le_refl _⟩ ⟨rfl, rfl⟩
      · first
        | (exfalso; omega)
        | skip
          exfalso; omega

def fUse (F : Nat → Nat → Int) (m : Nat) : Nat → Nat → Int := upF (upF (upF (upF F m 0 0) m 11 (F m 9)) m 9 0) m 10 0
theorem fUse_11 (F : Nat → Nat → Int) (m : Nat) : fUse F m m 11 = F m 9 := by unfold fUse; rw [upF_nk _ _ _ _ (by decide), upF_nk _ _ _ _ (by decide), upF_at]
theorem dX12_uses_0 : decode cX12_uses 0 = .ok (.aload_n 0, 1) := by decide +kernel
theorem dX12_uses_1 : decode cX12_uses 1 = .ok (.iconst 0, 1) := by decide +kernel
theorem dX12_uses_2 : decode cX12_uses 2 = .ok (.putfield 3, 3) := by decide +kernel
theorem dX12_uses_5 : decode cX12_uses 5 = .ok (.aload_n 0, 1) := by decide +kernel
theorem dX12_uses_6 : decode cX12_uses 6 = .ok (.aload_n 0, 1) := by decide +kernel
theorem dX12_uses_7 : decode cX12_uses 7 = .ok (.getfield 80, 3) := by decide +kernel
theorem dX12_uses_10 : decode cX12_uses 10 = .ok (.putfield 86, 3) := by decide +kernel
theorem dX12_uses_13 : decode cX12_uses 13 = .ok (.aload_n 0, 1) := by decide +kernel
theorem dX12_uses_14 : decode cX12_uses 14 = .ok (.iconst 0, 1) := by decide +kernel
theorem dX12_uses_15 : decode cX12_uses 15 = .ok (.putfield 80, 3) := by decide +kernel
theorem dX12_uses_18 : decode cX12_uses 18 = .ok (.aload_n 0, 1) := by decide +kernel
theorem dX12_uses_19 : decode cX12_uses 19 = .ok (.iconst 0, 1) := by decide +kernel
theorem dX12_uses_20 : decode cX12_uses 20 = .ok (.putfield 83, 3) := by decide +kernel
theorem dX12_uses_23 : decode cX12_uses 23 = .ok (.return_, 1) := by decide +kernel
set_option maxHeartbeats 4000000 in
set_option maxRecDepth 100000 in
theorem ct_X12_uses {E : xE} {z : Nat} {T : Nat → Nat × Int} {F : Nat → Nat → Int} {I : Nat → Int → Int} {P : Nat → Nat → Option Nat} {Y : Nat → Int → Option Nat} {m : Nat} {w : Int → Int} (hw : wM T P m) : Ct E 0 mX12_uses 0 0 [.ref m] (z, T, F, upA I (m + 1) w, P, Y) (xd none (z, T, fUse F m, upA I (m + 1) w, P, Y)) := by
  obtain ⟨⟨q0, q1, q2, q3⟩, -⟩ := id hw
  refine Ct.of [some (.ref m)] kt_X12_uses rfl (Nat.le_of_ble_eq_true rfl) rfl (fun d hd => ?_)
  generalize hX : xN E _ _ _ = X
  refine xg_aloadn 1 dX12_uses_0 rfl rfl rfl ?_
  refine xg_iconst 2 dX12_uses_1 rfl ?_
  refine xg_putI 5 kf_RX12_3 dX12_uses_2 rfl (by assumption) ?_
  refine xg_aloadn 6 dX12_uses_5 rfl rfl rfl ?_
  refine xg_aloadn 7 dX12_uses_6 rfl rfl rfl ?_
  refine xg_getI 10 kf_RX12_80 dX12_uses_7 rfl (by assumption) ?_
  rw [upF_nk _ _ _ _ (show (9 : Nat) ≠ 0 by decide)]
  refine xg_putI 13 kf_RX12_86 dX12_uses_10 rfl (by assumption) ?_
  refine xg_aloadn 14 dX12_uses_13 rfl rfl rfl ?_
  refine xg_iconst 15 dX12_uses_14 rfl ?_
  refine xg_putI 18 kf_RX12_80 dX12_uses_15 rfl (by assumption) ?_
  refine xg_aloadn 19 dX12_uses_18 rfl rfl rfl ?_
  refine xg_iconst 20 dX12_uses_19 rfl ?_
  refine xg_putI 23 kf_RX12_83 dX12_uses_20 rfl (by assumption) ?_
  subst hX
  exact xg_return dX12_uses_23 rfl ⟨Nat.le_refl _, Nat.le_refl _⟩ ⟨rfl, rfl⟩

def tOk (t : Int → Int) : Nat → Bool
  | 0 => true
  | k + 1 => decide ((0 ≤ t (2 * (k : Int)) ∧ t (2 * (k : Int)) ≤ 59) ∧ 0 ≤ t (2 * (k : Int) + 1) ∧ t (2 * (k : Int) + 1) ≤ 101) && tOk t k
theorem tOk_at {t : Int → Int} : ∀ {n k : Nat}, tOk t n = true → k < n → (0 ≤ t (2 * (k : Int)) ∧ t (2 * (k : Int)) ≤ 59) ∧ 0 ≤ t (2 * (k : Int) + 1) ∧ t (2 * (k : Int) + 1) ≤ 101
  | n + 1, k, h, hk => by
    rw [tOk, Bool.and_eq_true] at h
    by_cases e : k = n
    · subst e; exact of_decide_eq_true h.1
    · exact tOk_at h.2 (by omega)
/-- the first so many bytes are rows of a key and a value -/
def sTld (t : Int → Int) (e : Int) : Bool := decide (e % 2 = 0 ∧ e ≤ 40) && tOk t (e / 2).toNat
def sTby (w : Int → Int) (r key : Int) : Int := if w (201 + 122 * r + key) = -1 then 101 else w (201 + 122 * r + key)
def sWrg (w t : Int → Int) (e : Int) (r : Int) : Int := pSum (fun k => if sTby w r (t (2 * k)) = t (2 * k + 1) then 0 else 1) (e / 2).toNat
theorem sWrg_bd (w t : Int → Int) (r : Int) (k : Nat) : 0 ≤ pSum (fun k => if sTby w r (t (2 * k)) = t (2 * k + 1) then 0 else 1) k ∧ pSum (fun k => if sTby w r (t (2 * k)) = t (2 * k + 1) then 0 else 1) k ≤ k := by
  have := pSum_bd (f := fun k => if sTby w r (t (2 * k)) = t (2 * k + 1) then 0 else 1) (b := 1) (k := k) (fun j _ => by split <;> omega)
  omega
def sFit (w t : Int → Int) (e wrong : Int) : Nat := nSet (fun r => decide (sWrg w t e (r : Int) ≤ wrong)) (wN w)
theorem sFit_lt {w : Int → Int} (h : w 0 ≤ 12) (t : Int → Int) (e wrong : Int) : sFit w t e wrong < 4096 := nSet_31 _ (by unfold wN; omega)
theorem sTby_bd {w : Int → Int} (h : wOk w) {r key : Int} (hr : 0 ≤ r ∧ r < 12) (hk : 0 ≤ key ∧ key < 60) : 0 ≤ sTby w r key ∧ sTby w r key ≤ 101 := by
  have := h.2.2.2.2.2.2.2.2.2.2.2.2.2.2 (201 + 122 * r + key) (by omega) (by omega)
  unfold sTby; split <;> omega
