/-! what is tried on the spare store -/
section LSP
variable {T : Nat → Nat × Int} {F F8 : Nat → Nat → Int} {I I8 : Nat → Int → Int} {P P8 : Nat → Nat → Option Nat} {Y Y8 : Nat → Int → Option Nat} {o m z b : Nat} {w : wWo} {ws ws' : Nat → Option wWo} {v r : Option Value}
/-- an ask that leaves its trace in the spare store alone -/
def xSp (o m z : Nat) (T : Nat → Nat × Int) (F : Nat → Nat → Int) (I : Nat → Int → Int) (P : Nat → Nat → Option Nat) (Y : Nat → Int → Option Nat) (ws : Nat → Option wWo) (r : Option Value) : Option Value → xH → Prop :=
  fun v h' => ∃ ws' : Nat → Option wWo, (∀ s : Nat, s ≠ 1 → ws' s = ws s) ∧ xAl o m z T F I P Y r ws' (F o 1) (F o 2) (F o 7) (F o 8) v h'
theorem xSp.of (hw : ∀ s : Nat, s ≠ 1 → ws' s = ws s) (hK : LK T F8 I8 P8 Y8 o m z ws') (hP : P8 o = P o) (hF : F8 o = F o) (hI : I8 (o + 1) = I (o + 1)) (hM : LF m T F I P Y T F8 I8 P8 Y8) (h4 : P o 4 = some b) (e : v = r) : xSp o m z T F I P Y ws r v (z, T, F8, I8, P8, Y8) := by
  subst e
  exact ⟨ws', hw, rfl, _, _, _, _, _, _, rfl, Nat.le_refl _, hK, ⟨⟨b, by rw [hP]; exact h4⟩, by rw [hP]⟩, ⟨by rw [hF], by rw [hF], by rw [hF], by rw [hF]⟩, hI, hM⟩
/-- stalls of the seeds 1 to k: least and greatest -/
noncomputable def sLs (w : wWo) (n : Nat) : Nat → Int
  | 0 => 9999
  | k + 1 => min (sLs w n k) ((sGo n (wS w 15 ((k : Int) + 1))).1 10)
noncomputable def sGs (w : wWo) (n : Nat) : Nat → Int
  | 0 => 0
  | k + 1 => max (sGs w n k) ((sGo n (wS w 15 ((k : Int) + 1))).1 10)
theorem wI2_s15 (h : wI2 w) {v : Int} (hv : -2147483648 ≤ v ∧ v < 2147483648) : wI2 (wS w 15 v) := h.S (by omega) (by unfold wCell; omega) (fun q => by omega)
theorem go10b (h : wI2 w) (n : Nat) : 0 ≤ (sGo n w).1 10 := ((wI2_go h n).1.1.1.2.2.2.2.2.2.2.2.1 10 (by omega) (by omega)).1
theorem sSp_k (h : wI2 w) (n : Nat) (bb : Bool) : ∀ k : Nat, k < 6 → w 10 ≤ 9999 → sSp w n bb (k + 1) = (if bb = true then sGs w n (k + 1) else sLs w n (k + 1)) ∧ 0 ≤ sSp w n bb (k + 1)
  | 0, _, h9 => by
    have h1 := wI2_s15 h (v := ((0 : Nat) : Int) + 1) (by omega)
    have h2 := go10b h1 n
    have h3 := go10 h1 (by rw [wS_ne _ _ _ (by omega)]; exact h9) n
    have h4 : sSp w n bb 0 = -1 := rfl
    have h5 : sGs w n 0 = 0 := rfl
    have h6 : sLs w n 0 = 9999 := rfl
    rw [sSp, sGs, sLs, h4, h5, h6, if_pos (by omega)]
    cases bb
    · rw [if_neg (by decide)]; omega
    · rw [if_pos rfl]; omega
  | k + 1, hk, h9 => by
    obtain ⟨i1, i2⟩ := sSp_k h n bb k (by omega) h9
    have h1 := wI2_s15 h (v := ((k + 1 : Nat) : Int) + 1) (by omega)
    have h2 := go10b h1 n
    have eG : sGs w n (k + 1 + 1) = max (sGs w n (k + 1)) ((sGo n (wS w 15 (((k + 1 : Nat) : Int) + 1))).1 10) := rfl
    have eL : sLs w n (k + 1 + 1) = min (sLs w n (k + 1)) ((sGo n (wS w 15 (((k + 1 : Nat) : Int) + 1))).1 10) := rfl
    have eS : sSp w n bb (k + 1 + 1) = if sSp w n bb (k + 1) < 0 then (sGo n (wS w 15 (((k + 1 : Nat) : Int) + 1))).1 10 else if bb = true then max (sSp w n bb (k + 1)) ((sGo n (wS w 15 (((k + 1 : Nat) : Int) + 1))).1 10) else min (sSp w n bb (k + 1)) ((sGo n (wS w 15 (((k + 1 : Nat) : Int) + 1))).1 10) := rfl
    rw [eS, if_neg (by omega), eG, eL]
    cases bb
    · simp only [Bool.false_eq_true, if_false] at i1 ⊢
      rw [i1] at i2 ⊢
      exact ⟨rfl, by omega⟩
    · simp only [if_true] at i1 ⊢
      rw [i1] at i2 ⊢
      exact ⟨rfl, by omega⟩
end LSP

theorem dX11_ahead_0 : decode cX11_ahead 0 = .ok (.iload_n 1, 1) := by decide +kernel
theorem dX11_ahead_1 : decode cX11_ahead 1 = .ok (.invokestatic 351, 3) := by decide +kernel
theorem dX11_ahead_4 : decode cX11_ahead 4 = .ok (.ifCond .eq 11, 3) := by decide +kernel
theorem dX11_ahead_7 : decode cX11_ahead 7 = .ok (.new 92, 3) := by decide +kernel
theorem dX11_ahead_10 : decode cX11_ahead 10 = .ok (.dup, 1) := by decide +kernel
theorem dX11_ahead_11 : decode cX11_ahead 11 = .ok (.invokespecial 94, 3) := by decide +kernel
theorem dX11_ahead_14 : decode cX11_ahead 14 = .ok (.athrow, 1) := by decide +kernel
theorem dX11_ahead_15 : decode cX11_ahead 15 = .ok (.aload_n 0, 1) := by decide +kernel
theorem dX11_ahead_16 : decode cX11_ahead 16 = .ok (.getfield 27, 3) := by decide +kernel
theorem dX11_ahead_19 : decode cX11_ahead 19 = .ok (.aload_n 0, 1) := by decide +kernel
theorem dX11_ahead_20 : decode cX11_ahead 20 = .ok (.getfield 23, 3) := by decide +kernel
theorem dX11_ahead_23 : decode cX11_ahead 23 = .ok (.invokevirtual 81, 3) := by decide +kernel
theorem dX11_ahead_26 : decode cX11_ahead 26 = .ok (.aload_n 0, 1) := by decide +kernel
theorem dX11_ahead_27 : decode cX11_ahead 27 = .ok (.getfield 27, 3) := by decide +kernel
theorem dX11_ahead_30 : decode cX11_ahead 30 = .ok (.iconst 1, 1) := by decide +kernel
theorem dX11_ahead_31 : decode cX11_ahead 31 = .ok (.putfield 354, 3) := by decide +kernel
theorem dX11_ahead_34 : decode cX11_ahead 34 = .ok (.aload_n 0, 1) := by decide +kernel
theorem dX11_ahead_35 : decode cX11_ahead 35 = .ok (.getfield 27, 3) := by decide +kernel
theorem dX11_ahead_38 : decode cX11_ahead 38 = .ok (.iload_n 1, 1) := by decide +kernel
theorem dX11_ahead_39 : decode cX11_ahead 39 = .ok (.invokevirtual 222, 3) := by decide +kernel
theorem dX11_ahead_42 : decode cX11_ahead 42 = .ok (.pop, 1) := by decide +kernel
theorem dX11_ahead_43 : decode cX11_ahead 43 = .ok (.iload_n 2, 1) := by decide +kernel
theorem dX11_ahead_44 : decode cX11_ahead 44 = .ok (.ifCond .eq 13, 3) := by decide +kernel
theorem dX11_ahead_47 : decode cX11_ahead 47 = .ok (.aload_n 0, 1) := by decide +kernel
theorem dX11_ahead_48 : decode cX11_ahead 48 = .ok (.getfield 27, 3) := by decide +kernel
theorem dX11_ahead_51 : decode cX11_ahead 51 = .ok (.getfield 314, 3) := by decide +kernel
theorem dX11_ahead_54 : decode cX11_ahead 54 = .ok (.goto 13, 3) := by decide +kernel
theorem dX11_ahead_57 : decode cX11_ahead 57 = .ok (.aload_n 0, 1) := by decide +kernel
theorem dX11_ahead_58 : decode cX11_ahead 58 = .ok (.getfield 27, 3) := by decide +kernel
theorem dX11_ahead_61 : decode cX11_ahead 61 = .ok (.getfield 287, 3) := by decide +kernel
theorem dX11_ahead_64 : decode cX11_ahead 64 = .ok (.getfield 357, 3) := by decide +kernel
theorem dX11_ahead_67 : decode cX11_ahead 67 = .ok (.ireturn, 1) := by decide +kernel
set_option maxHeartbeats 4000000 in
set_option maxRecDepth 100000 in
theorem ct_X11_ahead {E : xE} {z : Nat} {T : Nat → Nat × Int} {F : Nat → Nat → Int} {I : Nat → Int → Int} {P : Nat → Nat → Option Nat} {Y : Nat → Int → Option Nat} {o m : Nat} {ws : Nat → Option wWo} (hL : LK T F I P Y o m z ws) {a b : Nat} {w : wWo} (h3 : P o 3 = some a) (h4 : P o 4 = some b) (hu : ws 0 = some w) {n : Nat} {bb : Bool} (hn : n ≤ 60) : Ct E 7 mX11_ahead 0 0 [.ref o, J (n : Int), J (bI bb)] (z, T, F, I, P, Y) (xSp o m z T F I P Y ws (some (J (sAhead w n bb)))) := by
  have h1 : (T o).1 = 12 := hL.1.1
  obtain ⟨hS, hI, ka⟩ := hL.liv (s := 0) (by decide) h3 hu
  have hc := hL.cpy (s0 := 1) (s1 := 0) (by decide) (by decide) (by decide) h4 h3 hu (E := E)
  have kb : (T b).1 = 9 := (hL.2.2.1 1 b (by decide) h4).1.1.1
  have hWs := wI2_s15 hI (v := 1) (by omega)
  refine Ct.of [some (.ref o), some (J (n : Int)), some (J (bI bb))] kt_X11_ahead rfl (Nat.le_of_ble_eq_true rfl) rfl (fun d hd => ?_)
  generalize hX : xN E _ _ _ = X
  refine xg_iloadn 1 dX11_ahead_0 rfl rfl rfl ?_
  refine xg_callS 4 [_] _ ks_X11_isNoSpan kl_RX11_351 dX11_ahead_1 rfl rfl rfl (Nat.le_of_ble_eq_true rfl) (by omega) ⟨Nat.le_refl _, Nat.le_refl _⟩ (ct_X11_isNoSpan (by omega)) rfl ?_
  refine xg_deq 15 7 dX11_ahead_4 rfl rfl (fun hb4 => ?_) (fun hb4 => ?_)
  · skip
    refine xg_aloadn 16 dX11_ahead_15 rfl rfl rfl ?_
    refine xg_getP 19 kf_RX11_27 dX11_ahead_16 rfl h1 h4 ?_
    refine xg_aloadn 20 dX11_ahead_19 rfl rfl rfl ?_
    refine xg_getP 23 kf_RX11_23 dX11_ahead_20 rfl h1 h3 ?_
    refine xg_callVe 26 8 [_] _ kv_X8_copyFrom ⟨_, _, rfl⟩ kl_RX11_81 dX11_ahead_23 rfl kb (by omega) rfl rfl (Nat.le_of_ble_eq_true rfl) (by omega) ⟨Nat.le_refl _, Nat.le_refl _⟩ (hc.1) rfl (fun v9 h9 e9 => ?_)
    obtain ⟨rfl, F9, I9, P9, rfl, hS9, hF9, h169⟩ := e9
    obtain ⟨c1, c2, c3, c4, c5⟩ := hL.copy (s0 := 1) (s1 := 0) (by decide) (by decide) (by decide) h4 h3 hu hS9 hc.2 hF9 h169
    have r4 : P9 o 4 = some b := by rw [c2]; exact h4
    refine xg_aloadn 27 dX11_ahead_26 rfl rfl rfl ?_
    refine xg_getP 30 kf_RX11_27 dX11_ahead_27 rfl h1 r4 ?_
    refine xg_iconst 31 dX11_ahead_30 rfl ?_
    refine xg_putI 34 kf_RX11_354 dX11_ahead_31 rfl kb ?_
    refine xg_aloadn 35 dX11_ahead_34 rfl rfl rfl ?_
    refine xg_getP 38 kf_RX11_27 dX11_ahead_35 rfl h1 r4 ?_
    refine xg_iloadn 39 dX11_ahead_38 rfl rfl rfl ?_
    refine xg_callVq 42 8 [_] _ kv_X8_advance ⟨_, _, rfl⟩ kl_RX11_222 dX11_ahead_39 rfl kb (by omega) rfl rfl (Nat.le_of_ble_eq_true rfl) (by omega) ⟨Nat.le_refl _, Nat.le_refl _⟩ (ct_X8_advance (hS9.sc (k := 14) (i := 15) (by omega) (by unfold wCell; omega)) hWs.1 hn (sGoS_all hWs n)) rfl (fun F8 I8 P8 Y8 hS8 hF8 => ?_)
    obtain ⟨g1, g2, g3, g4, g5, g6⟩ := c1.act (s0 := 1) (by decide) (show lSl o P9 Y 1 = some b from r4) hS8 (wI2_go hWs n) ((SF.uF ⟨Nat.le_refl _, by omega⟩).tr hF8)
    have r48 : P8 o 4 = some b := by rw [g2]; exact r4
    obtain ⟨-, -, ⟨π, ⟨hSt, hPm⟩, ⟨hSc, hTl, hJb⟩, -⟩, -⟩ := id hS8
    obtain ⟨-, -, -, -, ⟨s6, s50⟩, -⟩ := id hSt
    refine xg_pop 43 dX11_ahead_42 rfl rfl ?_
    refine xg_iloadn 44 dX11_ahead_43 rfl rfl rfl ?_
    refine xg_beq 57 47 dX11_ahead_44 rfl rfl (fun hb44 => ?_) (fun hb44 => ?_)
    · skip
      refine xg_aloadn 58 dX11_ahead_57 rfl rfl rfl ?_
      refine xg_getP 61 kf_RX11_27 dX11_ahead_58 rfl h1 r48 ?_
      refine xg_getP 64 kf_RX11_287 dX11_ahead_61 rfl kb s6 ?_
      refine xg_getI 67 kf_RX11_357 dX11_ahead_64 rfl s50 ?_
      subst hX
      refine xg_ireturn dX11_ahead_67 rfl ⟨Nat.le_refl _, Nat.le_refl _⟩ ?_
      exact xSp.of (by intro s hs; unfold wsU; rw [if_neg hs, if_neg hs]) g1 (g2.trans c2) (g3.trans c3) (g4.trans c4) (c5.tr g6) h4 (by rw [hTl.2.2.2.1]; unfold sAhead; rw [if_neg (by simp [hb44])])
    · skip
      refine xg_aloadn 48 dX11_ahead_47 rfl rfl rfl ?_
      refine xg_getP 51 kf_RX11_27 dX11_ahead_48 rfl h1 r48 ?_
      refine xg_getI 54 kf_RX11_314 dX11_ahead_51 rfl kb ?_
      refine xg_goto 67 dX11_ahead_54 rfl ?_
      subst hX
      refine xg_ireturn dX11_ahead_67 rfl ⟨Nat.le_refl _, Nat.le_refl _⟩ ?_
      exact xSp.of (by intro s hs; unfold wsU; rw [if_neg hs, if_neg hs]) g1 (g2.trans c2) (g3.trans c3) (g4.trans c4) (c5.tr g6) h4 (by rw [hSc.1]; unfold sAhead; rw [if_pos hb44])
  · exfalso; omega

theorem dX11_trial_0 : decode cX11_trial 0 = .ok (.iload_n 1, 1) := by decide +kernel
theorem dX11_trial_1 : decode cX11_trial 1 = .ok (.invokestatic 351, 3) := by decide +kernel
theorem dX11_trial_4 : decode cX11_trial 4 = .ok (.ifCond .eq 11, 3) := by decide +kernel
theorem dX11_trial_7 : decode cX11_trial 7 = .ok (.new 92, 3) := by decide +kernel
theorem dX11_trial_10 : decode cX11_trial 10 = .ok (.dup, 1) := by decide +kernel
theorem dX11_trial_11 : decode cX11_trial 11 = .ok (.invokespecial 94, 3) := by decide +kernel
theorem dX11_trial_14 : decode cX11_trial 14 = .ok (.athrow, 1) := by decide +kernel
theorem dX11_trial_15 : decode cX11_trial 15 = .ok (.aload_n 0, 1) := by decide +kernel
theorem dX11_trial_16 : decode cX11_trial 16 = .ok (.getfield 27, 3) := by decide +kernel
theorem dX11_trial_19 : decode cX11_trial 19 = .ok (.aload_n 0, 1) := by decide +kernel
theorem dX11_trial_20 : decode cX11_trial 20 = .ok (.getfield 23, 3) := by decide +kernel
theorem dX11_trial_23 : decode cX11_trial 23 = .ok (.invokevirtual 81, 3) := by decide +kernel
theorem dX11_trial_26 : decode cX11_trial 26 = .ok (.aload_n 0, 1) := by decide +kernel
theorem dX11_trial_27 : decode cX11_trial 27 = .ok (.getfield 27, 3) := by decide +kernel
theorem dX11_trial_30 : decode cX11_trial 30 = .ok (.iload_n 1, 1) := by decide +kernel
theorem dX11_trial_31 : decode cX11_trial 31 = .ok (.invokevirtual 222, 3) := by decide +kernel
theorem dX11_trial_34 : decode cX11_trial 34 = .ok (.pop, 1) := by decide +kernel
theorem dX11_trial_35 : decode cX11_trial 35 = .ok (.iload_n 2, 1) := by decide +kernel
theorem dX11_trial_36 : decode cX11_trial 36 = .ok (.ifCond .eq 13, 3) := by decide +kernel
theorem dX11_trial_39 : decode cX11_trial 39 = .ok (.aload_n 0, 1) := by decide +kernel
theorem dX11_trial_40 : decode cX11_trial 40 = .ok (.getfield 27, 3) := by decide +kernel
theorem dX11_trial_43 : decode cX11_trial 43 = .ok (.invokevirtual 284, 3) := by decide +kernel
theorem dX11_trial_46 : decode cX11_trial 46 = .ok (.goto 13, 3) := by decide +kernel
theorem dX11_trial_49 : decode cX11_trial 49 = .ok (.aload_n 0, 1) := by decide +kernel
theorem dX11_trial_50 : decode cX11_trial 50 = .ok (.getfield 27, 3) := by decide +kernel
theorem dX11_trial_53 : decode cX11_trial 53 = .ok (.getfield 287, 3) := by decide +kernel
theorem dX11_trial_56 : decode cX11_trial 56 = .ok (.getfield 360, 3) := by decide +kernel
theorem dX11_trial_59 : decode cX11_trial 59 = .ok (.ireturn, 1) := by decide +kernel
set_option maxHeartbeats 4000000 in
set_option maxRecDepth 100000 in
theorem ct_X11_trial {E : xE} {z : Nat} {T : Nat → Nat × Int} {F : Nat → Nat → Int} {I : Nat → Int → Int} {P : Nat → Nat → Option Nat} {Y : Nat → Int → Option Nat} {o m : Nat} {ws : Nat → Option wWo} (hL : LK T F I P Y o m z ws) {a b : Nat} {w : wWo} (h3 : P o 3 = some a) (h4 : P o 4 = some b) (hu : ws 0 = some w) {n : Nat} {bb : Bool} (hn : n ≤ 60) : Ct E 7 mX11_trial 0 0 [.ref o, J (n : Int), J (bI bb)] (z, T, F, I, P, Y) (xSp o m z T F I P Y ws (some (J (sTrial w n bb)))) := by
  have h1 : (T o).1 = 12 := hL.1.1
  obtain ⟨hS, hI, ka⟩ := hL.liv (s := 0) (by decide) h3 hu
  have hc := hL.cpy (s0 := 1) (s1 := 0) (by decide) (by decide) (by decide) h4 h3 hu (E := E)
  have kb : (T b).1 = 9 := (hL.2.2.1 1 b (by decide) h4).1.1.1
  refine Ct.of [some (.ref o), some (J (n : Int)), some (J (bI bb))] kt_X11_trial rfl (Nat.le_of_ble_eq_true rfl) rfl (fun d hd => ?_)
  generalize hX : xN E _ _ _ = X
  refine xg_iloadn 1 dX11_trial_0 rfl rfl rfl ?_
  refine xg_callS 4 [_] _ ks_X11_isNoSpan kl_RX11_351 dX11_trial_1 rfl rfl rfl (Nat.le_of_ble_eq_true rfl) (by omega) ⟨Nat.le_refl _, Nat.le_refl _⟩ (ct_X11_isNoSpan (by omega)) rfl ?_
  refine xg_deq 15 7 dX11_trial_4 rfl rfl (fun hb4 => ?_) (fun hb4 => ?_)
  · skip
    refine xg_aloadn 16 dX11_trial_15 rfl rfl rfl ?_
    refine xg_getP 19 kf_RX11_27 dX11_trial_16 rfl h1 h4 ?_
    refine xg_aloadn 20 dX11_trial_19 rfl rfl rfl ?_
    refine xg_getP 23 kf_RX11_23 dX11_trial_20 rfl h1 h3 ?_
    refine xg_callVe 26 8 [_] _ kv_X8_copyFrom ⟨_, _, rfl⟩ kl_RX11_81 dX11_trial_23 rfl kb (by omega) rfl rfl (Nat.le_of_ble_eq_true rfl) (by omega) ⟨Nat.le_refl _, Nat.le_refl _⟩ (hc.1) rfl (fun v9 h9 e9 => ?_)
    obtain ⟨rfl, F9, I9, P9, rfl, hS9, hF9, h169⟩ := e9
    obtain ⟨c1, c2, c3, c4, c5⟩ := hL.copy (s0 := 1) (s1 := 0) (by decide) (by decide) (by decide) h4 h3 hu hS9 hc.2 hF9 h169
    have r4 : P9 o 4 = some b := by rw [c2]; exact h4
    refine xg_aloadn 27 dX11_trial_26 rfl rfl rfl ?_
    refine xg_getP 30 kf_RX11_27 dX11_trial_27 rfl h1 r4 ?_
    refine xg_iloadn 31 dX11_trial_30 rfl rfl rfl ?_
    refine xg_callVq 34 8 [_] _ kv_X8_advance ⟨_, _, rfl⟩ kl_RX11_222 dX11_trial_31 rfl kb (by omega) rfl rfl (Nat.le_of_ble_eq_true rfl) (by omega) ⟨Nat.le_refl _, Nat.le_refl _⟩ (ct_X8_advance hS9 hI.1 hn (sGoS_all hI n)) rfl (fun F8 I8 P8 Y8 hS8 hF8 => ?_)
    obtain ⟨g1, g2, g3, g4, g5, g6⟩ := c1.act (s0 := 1) (by decide) (show lSl o P9 Y 1 = some b from r4) hS8 (wI2_go hI n) (hF8)
    have r48 : P8 o 4 = some b := by rw [g2]; exact r4
    obtain ⟨-, -, ⟨π, ⟨hSt, hPm⟩, ⟨hSc, hTl, hJb⟩, -⟩, -⟩ := id hS8
    obtain ⟨-, -, -, -, ⟨s6, s50⟩, -⟩ := id hSt
    refine xg_pop 35 dX11_trial_34 rfl rfl ?_
    refine xg_iloadn 36 dX11_trial_35 rfl rfl rfl ?_
    refine xg_beq 49 39 dX11_trial_36 rfl rfl (fun hb36 => ?_) (fun hb36 => ?_)
    · skip
      refine xg_aloadn 50 dX11_trial_49 rfl rfl rfl ?_
      refine xg_getP 53 kf_RX11_27 dX11_trial_50 rfl h1 r48 ?_
      refine xg_getP 56 kf_RX11_287 dX11_trial_53 rfl kb s6 ?_
      refine xg_getI 59 kf_RX11_360 dX11_trial_56 rfl s50 ?_
      subst hX
      refine xg_ireturn dX11_trial_59 rfl ⟨Nat.le_refl _, Nat.le_refl _⟩ ?_
      exact xSp.of (by intro s hs; unfold wsU; rw [if_neg hs, if_neg hs]) g1 (g2.trans c2) (g3.trans c3) (g4.trans c4) (c5.tr g6) h4 (by rw [hTl.2.2.2.2.2]; unfold sTrial; rw [if_neg (by simp [hb36])])
    · skip
      refine xg_aloadn 40 dX11_trial_39 rfl rfl rfl ?_
      refine xg_getP 43 kf_RX11_27 dX11_trial_40 rfl h1 r48 ?_
      refine xg_callV 46 8 [] _ kv_X8_foundKeys ⟨_, _, rfl⟩ kl_RX11_284 dX11_trial_43 rfl kb (by omega) rfl rfl (Nat.le_of_ble_eq_true rfl) (by omega) ⟨Nat.le_refl _, Nat.le_refl _⟩ (ct_X8_foundKeys hS8) rfl ?_
      refine xg_goto 59 dX11_trial_46 rfl ?_
      subst hX
      refine xg_ireturn dX11_trial_59 rfl ⟨Nat.le_refl _, Nat.le_refl _⟩ ?_
      exact xSp.of (by intro s hs; unfold wsU; rw [if_neg hs, if_neg hs]) g1 (g2.trans c2) (g3.trans c3) (g4.trans c4) (c5.tr g6) h4 (by unfold sTrial; rw [if_pos hb36])
  · exfalso; omega

theorem dX11_span_0 : decode cX11_span 0 = .ok (.iload_n 1, 1) := by decide +kernel
theorem dX11_span_1 : decode cX11_span 1 = .ok (.invokestatic 351, 3) := by decide +kernel
theorem dX11_span_4 : decode cX11_span 4 = .ok (.ifCond .eq 11, 3) := by decide +kernel
theorem dX11_span_7 : decode cX11_span 7 = .ok (.new 92, 3) := by decide +kernel
theorem dX11_span_10 : decode cX11_span 10 = .ok (.dup, 1) := by decide +kernel
theorem dX11_span_11 : decode cX11_span 11 = .ok (.invokespecial 94, 3) := by decide +kernel
theorem dX11_span_14 : decode cX11_span 14 = .ok (.athrow, 1) := by decide +kernel
theorem dX11_span_15 : decode cX11_span 15 = .ok (.sipush 9999, 3) := by decide +kernel
theorem dX11_span_18 : decode cX11_span 18 = .ok (.istore_n 3, 1) := by decide +kernel
theorem dX11_span_19 : decode cX11_span 19 = .ok (.iconst 0, 1) := by decide +kernel
theorem dX11_span_20 : decode cX11_span 20 = .ok (.istore 4, 2) := by decide +kernel
theorem dX11_span_22 : decode cX11_span 22 = .ok (.iconst 1, 1) := by decide +kernel
theorem dX11_span_23 : decode cX11_span 23 = .ok (.istore 5, 2) := by decide +kernel
theorem dX11_span_25 : decode cX11_span 25 = .ok (.iload 5, 2) := by decide +kernel
theorem dX11_span_27 : decode cX11_span 27 = .ok (.bipush 6, 2) := by decide +kernel
theorem dX11_span_29 : decode cX11_span 29 = .ok (.if_icmp .gt 70, 3) := by decide +kernel
theorem dX11_span_32 : decode cX11_span 32 = .ok (.aload_n 0, 1) := by decide +kernel
theorem dX11_span_33 : decode cX11_span 33 = .ok (.getfield 27, 3) := by decide +kernel
theorem dX11_span_36 : decode cX11_span 36 = .ok (.aload_n 0, 1) := by decide +kernel
theorem dX11_span_37 : decode cX11_span 37 = .ok (.getfield 23, 3) := by decide +kernel
theorem dX11_span_40 : decode cX11_span 40 = .ok (.invokevirtual 81, 3) := by decide +kernel
theorem dX11_span_43 : decode cX11_span 43 = .ok (.aload_n 0, 1) := by decide +kernel
theorem dX11_span_44 : decode cX11_span 44 = .ok (.getfield 27, 3) := by decide +kernel
theorem dX11_span_47 : decode cX11_span 47 = .ok (.iload 5, 2) := by decide +kernel
theorem dX11_span_49 : decode cX11_span 49 = .ok (.putfield 354, 3) := by decide +kernel
theorem dX11_span_52 : decode cX11_span 52 = .ok (.aload_n 0, 1) := by decide +kernel
theorem dX11_span_53 : decode cX11_span 53 = .ok (.getfield 27, 3) := by decide +kernel
theorem dX11_span_56 : decode cX11_span 56 = .ok (.iload_n 1, 1) := by decide +kernel
theorem dX11_span_57 : decode cX11_span 57 = .ok (.invokevirtual 222, 3) := by decide +kernel
theorem dX11_span_60 : decode cX11_span 60 = .ok (.pop, 1) := by decide +kernel
theorem dX11_span_61 : decode cX11_span 61 = .ok (.iload_n 3, 1) := by decide +kernel
theorem dX11_span_62 : decode cX11_span 62 = .ok (.aload_n 0, 1) := by decide +kernel
theorem dX11_span_63 : decode cX11_span 63 = .ok (.getfield 27, 3) := by decide +kernel
theorem dX11_span_66 : decode cX11_span 66 = .ok (.getfield 287, 3) := by decide +kernel
theorem dX11_span_69 : decode cX11_span 69 = .ok (.getfield 357, 3) := by decide +kernel
theorem dX11_span_72 : decode cX11_span 72 = .ok (.invokestatic 363, 3) := by decide +kernel
theorem dX11_span_75 : decode cX11_span 75 = .ok (.istore_n 3, 1) := by decide +kernel
theorem dX11_span_76 : decode cX11_span 76 = .ok (.iload 4, 2) := by decide +kernel
theorem dX11_span_78 : decode cX11_span 78 = .ok (.aload_n 0, 1) := by decide +kernel
theorem dX11_span_79 : decode cX11_span 79 = .ok (.getfield 27, 3) := by decide +kernel
theorem dX11_span_82 : decode cX11_span 82 = .ok (.getfield 287, 3) := by decide +kernel
theorem dX11_span_85 : decode cX11_span 85 = .ok (.getfield 357, 3) := by decide +kernel
theorem dX11_span_88 : decode cX11_span 88 = .ok (.invokestatic 303, 3) := by decide +kernel
theorem dX11_span_91 : decode cX11_span 91 = .ok (.istore 4, 2) := by decide +kernel
theorem dX11_span_93 : decode cX11_span 93 = .ok (.iinc 5 1, 3) := by decide +kernel
theorem dX11_span_96 : decode cX11_span 96 = .ok (.goto (-71), 3) := by decide +kernel
theorem dX11_span_99 : decode cX11_span 99 = .ok (.iload_n 2, 1) := by decide +kernel
theorem dX11_span_100 : decode cX11_span 100 = .ok (.ifCond .eq 8, 3) := by decide +kernel
theorem dX11_span_103 : decode cX11_span 103 = .ok (.iload 4, 2) := by decide +kernel
theorem dX11_span_105 : decode cX11_span 105 = .ok (.goto 4, 3) := by decide +kernel
theorem dX11_span_108 : decode cX11_span 108 = .ok (.iload_n 3, 1) := by decide +kernel
theorem dX11_span_109 : decode cX11_span 109 = .ok (.ireturn, 1) := by decide +kernel
set_option maxHeartbeats 4000000 in
set_option maxRecDepth 100000 in
theorem ct_X11_span {E : xE} {z : Nat} {T : Nat → Nat × Int} {F : Nat → Nat → Int} {I : Nat → Int → Int} {P : Nat → Nat → Option Nat} {Y : Nat → Int → Option Nat} {o m : Nat} {ws : Nat → Option wWo} (hL : LK T F I P Y o m z ws) {a b : Nat} {w : wWo} (h3 : P o 3 = some a) (h4 : P o 4 = some b) (hu : ws 0 = some w) {n : Nat} {bb : Bool} (hn : n ≤ 60) (h9 : w 10 ≤ 9999) : Ct E 7 mX11_span 0 0 [.ref o, J (n : Int), J (bI bb)] (z, T, F, I, P, Y) (xSp o m z T F I P Y ws (some (J (sSp w n bb 6)))) := by
  have h1 : (T o).1 = 12 := hL.1.1
  obtain ⟨hS, hI, ka⟩ := hL.liv (s := 0) (by decide) h3 hu
  have hc := hL.cpy (s0 := 1) (s1 := 0) (by decide) (by decide) (by decide) h4 h3 hu (E := E)
  have kb : (T b).1 = 9 := (hL.2.2.1 1 b (by decide) h4).1.1.1
  refine Ct.of [some (.ref o), some (J (n : Int)), some (J (bI bb)), none, none, none] kt_X11_span rfl (Nat.le_of_ble_eq_true rfl) rfl (fun d hd => ?_)
  generalize hX : xN E _ _ _ = X
  refine xg_iloadn 1 dX11_span_0 rfl rfl rfl ?_
  refine xg_callS 4 [_] _ ks_X11_isNoSpan kl_RX11_351 dX11_span_1 rfl rfl rfl (Nat.le_of_ble_eq_true rfl) (by omega) ⟨Nat.le_refl _, Nat.le_refl _⟩ (ct_X11_isNoSpan (by omega)) rfl ?_
  refine xg_deq 15 7 dX11_span_4 rfl rfl (fun hb4 => ?_) (fun hb4 => ?_)
  · skip
    refine xg_sipush 18 dX11_span_15 rfl (by decide) ?_
    refine xg_istoren 19 _ dX11_span_18 rfl rfl rfl (by decide) (Or.inr rfl) ?_
    refine xg_iconst 20 dX11_span_19 rfl ?_
    refine xg_istore 22 _ dX11_span_20 rfl rfl (by decide) (Or.inr rfl) ?_
    refine xg_iconst 23 dX11_span_22 rfl ?_
    refine xg_istore 25 _ dX11_span_23 rfl rfl (by decide) (Or.inr rfl) ?_
    have loop25 : ∀ (mm : Nat) (k : Nat) (x1 x2 x3 : Int) (F1 : Nat → Nat → Int) (I1 : Nat → Int → Int) (P1 : Nat → Nat → Option Nat) (Y1 : Nat → Int → Option Nat) (ws1 : Nat → Option wWo), (k ≤ 6 ∧ x1 = (k : Int) + 1 ∧ x2 = sLs w n k ∧ x3 = sGs w n k ∧ (0 ≤ x2 ∧ x2 ≤ 9999) ∧ 0 ≤ x3 ∧ x3 ≤ 9999) → LK T F1 I1 P1 Y1 o m z ws1 → (∀ s : Nat, s ≠ 1 → ws1 s = ws s) → P1 o = P o → F1 o = F o → I1 (o + 1) = I (o + 1) → LF m T F I P Y T F1 I1 P1 Y1 → 10 - (k : Int) < (mm : Int) → xG E mX11_span (xR d 0 0) X 25 [some (.ref o), some (J (n : Int)), some (J (bI bb)), some (J x2), some (J x3), some (J x1)] [] (z, T, F1, I1, P1, Y1) 0 0 := by
      intro mm
      induction mm with
      | zero => intro k x1 x2 x3 F1 I1 P1 Y1 ws1 hk hK1 hw1 hP1 hF1 hI1 hM1 hm; exfalso; omega
      | succ mm ih =>
        intro k x1 x2 x3 F1 I1 P1 Y1 ws1 hk hK1 hw1 hP1 hF1 hI1 hM1 hm
        obtain ⟨k6, e1, e2, e3, xb2, xb3⟩ := hk
        have p3 : P1 o 3 = some a := by rw [hP1]; exact h3
        have p4 : P1 o 4 = some b := by rw [hP1]; exact h4
        have hu1 : ws1 0 = some w := by rw [hw1 0 (by decide)]; exact hu
        have hc2 := hK1.cpy (s0 := 1) (s1 := 0) (by decide) (by decide) (by decide) p4 p3 hu1 (E := E)
        refine xg_iload 27 dX11_span_25 rfl rfl ?_
        refine xg_bipush 29 dX11_span_27 rfl (by decide) ?_
        refine xg_icgt 99 32 dX11_span_29 rfl rfl (by omega) (fun hb29 => ?_) (fun hb29 => ?_)
        · skip
          refine xg_iloadn 100 dX11_span_99 rfl rfl rfl ?_
          refine xg_beq 108 103 dX11_span_100 rfl rfl (fun hb100 => ?_) (fun hb100 => ?_)
          · skip
            refine xg_iloadn 109 dX11_span_108 rfl rfl rfl ?_
            subst hX
            refine xg_ireturn dX11_span_109 rfl ⟨Nat.le_refl _, Nat.le_refl _⟩ ?_
            rcases sSp_k hI n bb 5 (by omega) h9 with ⟨f1, -⟩
            have k66 : k = 6 := by omega
            subst k66
            exact xSp.of hw1 hK1 hP1 hF1 hI1 hM1 h4 (by rw [f1, if_neg (by simp [hb100]), e2])
          · skip
            refine xg_iload 105 dX11_span_103 rfl rfl ?_
            refine xg_goto 109 dX11_span_105 rfl ?_
            subst hX
            refine xg_ireturn dX11_span_109 rfl ⟨Nat.le_refl _, Nat.le_refl _⟩ ?_
            rcases sSp_k hI n bb 5 (by omega) h9 with ⟨f1, -⟩
            have k66 : k = 6 := by omega
            subst k66
            exact xSp.of hw1 hK1 hP1 hF1 hI1 hM1 h4 (by rw [f1, if_pos hb100, e3])
        · have hWs := wI2_s15 hI (v := x1) (by omega)
          have x10 := go10 hWs (by rw [wS_ne _ _ _ (by omega)]; exact h9) n
          have x0 := go10b hWs n
          refine xg_aloadn 33 dX11_span_32 rfl rfl rfl ?_
          refine xg_getP 36 kf_RX11_27 dX11_span_33 rfl h1 p4 ?_
          refine xg_aloadn 37 dX11_span_36 rfl rfl rfl ?_
          refine xg_getP 40 kf_RX11_23 dX11_span_37 rfl h1 p3 ?_
          refine xg_callVe 43 8 [_] _ kv_X8_copyFrom ⟨_, _, rfl⟩ kl_RX11_81 dX11_span_40 rfl kb (by omega) rfl rfl (Nat.le_of_ble_eq_true rfl) (by omega) ⟨Nat.le_refl _, Nat.le_refl _⟩ (hc2.1) rfl (fun v9 h9 e9 => ?_)
          obtain ⟨rfl, F9, I9, P9, rfl, hS9, hF9, h169⟩ := e9
          obtain ⟨c1, c2, c3, c4, c5⟩ := hK1.copy (s0 := 1) (s1 := 0) (by decide) (by decide) (by decide) p4 p3 hu1 hS9 hc.2 hF9 h169
          have r4 : P9 o 4 = some b := by rw [c2]; exact p4
          refine xg_aloadn 44 dX11_span_43 rfl rfl rfl ?_
          refine xg_getP 47 kf_RX11_27 dX11_span_44 rfl h1 r4 ?_
          refine xg_iload 49 dX11_span_47 rfl rfl ?_
          refine xg_putI 52 kf_RX11_354 dX11_span_49 rfl kb ?_
          refine xg_aloadn 53 dX11_span_52 rfl rfl rfl ?_
          refine xg_getP 56 kf_RX11_27 dX11_span_53 rfl h1 r4 ?_
          refine xg_iloadn 57 dX11_span_56 rfl rfl rfl ?_
          refine xg_callVq 60 8 [_] _ kv_X8_advance ⟨_, _, rfl⟩ kl_RX11_222 dX11_span_57 rfl kb (by omega) rfl rfl (Nat.le_of_ble_eq_true rfl) (by omega) ⟨Nat.le_refl _, Nat.le_refl _⟩ (ct_X8_advance (hS9.sc (k := 14) (i := 15) (by omega) (by unfold wCell; omega)) hWs.1 hn (sGoS_all hWs n)) rfl (fun F8 I8 P8 Y8 hS8 hF8 => ?_)
          obtain ⟨g1, g2, g3, g4, g5, g6⟩ := c1.act (s0 := 1) (by decide) (show lSl o P9 Y1 1 = some b from r4) hS8 (wI2_go hWs n) ((SF.uF ⟨Nat.le_refl _, by omega⟩).tr hF8)
          have r48 : P8 o 4 = some b := by rw [g2]; exact r4
          obtain ⟨-, -, ⟨π, ⟨hSt, hPm⟩, ⟨hSc, hTl, hJb⟩, -⟩, -⟩ := id hS8
          obtain ⟨-, -, -, -, ⟨s6, s50⟩, -⟩ := id hSt
          have h10 : F8 (b + 50) 3 = (sGo n (wS w 15 x1)).1 10 := hTl.2.2.2.1
          refine xg_pop 61 dX11_span_60 rfl rfl ?_
          refine xg_iloadn 62 dX11_span_61 rfl rfl rfl ?_
          refine xg_aloadn 63 dX11_span_62 rfl rfl rfl ?_
          refine xg_getP 66 kf_RX11_27 dX11_span_63 rfl h1 r48 ?_
          refine xg_getP 69 kf_RX11_287 dX11_span_66 rfl kb s6 ?_
          refine xg_getI 72 kf_RX11_357 dX11_span_69 rfl s50 ?_
          refine xg_mmin 75 kl_RX11_363 dX11_span_72 rfl (by rw [h10]; omega) (Nat.le_of_ble_eq_true rfl) (by omega) ⟨Nat.le_refl _, Nat.le_refl _⟩ ?_
          refine xg_istoren 76 _ dX11_span_75 rfl rfl rfl (by decide) (Or.inr rfl) ?_
          refine xg_iload 78 dX11_span_76 rfl rfl ?_
          refine xg_aloadn 79 dX11_span_78 rfl rfl rfl ?_
          refine xg_getP 82 kf_RX11_27 dX11_span_79 rfl h1 r48 ?_
          refine xg_getP 85 kf_RX11_287 dX11_span_82 rfl kb s6 ?_
          refine xg_getI 88 kf_RX11_357 dX11_span_85 rfl s50 ?_
          refine xg_mmax 91 kl_RX11_303 dX11_span_88 rfl (by rw [h10]; omega) (Nat.le_of_ble_eq_true rfl) (by omega) ⟨Nat.le_refl _, Nat.le_refl _⟩ ?_
          refine xg_istore 93 _ dX11_span_91 rfl rfl (by decide) (Or.inr rfl) ?_
          refine xg_iinc 96 _ dX11_span_93 rfl rfl rfl rfl (by decide) (Or.inr rfl) ?_
          refine xg_goto 25 dX11_span_96 rfl ?_
          refine ih (k + 1) (x1 + 1) _ _ F8 I8 P8 Y8 _ ⟨by omega, by omega, ?_, ?_, by rw [h10]; omega, by rw [h10]; omega⟩ g1 (fun s hs => by unfold wsU; rw [if_neg hs, if_neg hs]; exact hw1 s hs) ((g2.trans c2).trans hP1) ((g3.trans c3).trans hF1) ((g4.trans c4).trans hI1) (hM1.tr (c5.tr g6)) (by omega)
          · rw [sLs, h10, ← e1, e2]
          · rw [sGs, h10, ← e1, e3]
    exact loop25 11 0 1 9999 0 F I P Y ws ⟨by omega, by omega, rfl, rfl, by omega, by omega⟩ hL (fun _ _ => rfl) rfl rfl rfl LF.rf (by omega)
  · exfalso; omega

