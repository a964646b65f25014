theorem dX12_ofLog_0 : decode cX12_ofLog 0 = .ok (.aload_n 0, 1) := by decide +kernel
theorem dX12_ofLog_1 : decode cX12_ofLog 1 = .ok (.getfield 13, 3) := by decide +kernel
theorem dX12_ofLog_4 : decode cX12_ofLog 4 = .ok (.sipush 1663, 3) := by decide +kernel
theorem dX12_ofLog_7 : decode cX12_ofLog 7 = .ok (.iconst 4, 1) := by decide +kernel
theorem dX12_ofLog_8 : decode cX12_ofLog 8 = .ok (.iload_n 1, 1) := by decide +kernel
theorem dX12_ofLog_9 : decode cX12_ofLog 9 = .ok (.imul, 1) := by decide +kernel
theorem dX12_ofLog_10 : decode cX12_ofLog 10 = .ok (.iadd, 1) := by decide +kernel
theorem dX12_ofLog_11 : decode cX12_ofLog 11 = .ok (.iload_n 2, 1) := by decide +kernel
theorem dX12_ofLog_12 : decode cX12_ofLog 12 = .ok (.iadd, 1) := by decide +kernel
theorem dX12_ofLog_13 : decode cX12_ofLog 13 = .ok (.iaload, 1) := by decide +kernel
theorem dX12_ofLog_14 : decode cX12_ofLog 14 = .ok (.ireturn, 1) := by decide +kernel
set_option maxHeartbeats 4000000 in
set_option maxRecDepth 100000 in
theorem ct_X12_ofLog {E : xE} {z : Nat} {T : Nat → Nat × Int} {F : Nat → Nat → Int} {I : Nat → Int → Int} {P : Nat → Nat → Option Nat} {Y : Nat → Int → Option Nat} {m : Nat} {w : Int → Int} (hw : wM T P m) (hO : wOk w){a x : Int} (ha : 0 ≤ a ∧ a < 60) (hx : 0 ≤ x ∧ x ≤ 3) : Ct E 0 mX12_ofLog 0 0 [.ref m, J a, J x] (z, T, F, upA I (m + 1) w, P, Y) (xd (some (J (w (1663 + 4 * a + x)))) (z, T, F, upA I (m + 1) w, P, Y)) := by
  obtain ⟨⟨q0, q1, q2, q3⟩, -⟩ := id hw
  refine Ct.of [some (.ref m), some (J a), some (J x)] kt_X12_ofLog rfl (Nat.le_of_ble_eq_true rfl) rfl (fun d hd => ?_)
  generalize hX : xN E _ _ _ = X
  refine xg_aloadn 1 dX12_ofLog_0 rfl rfl rfl ?_
  refine xg_getP 4 kf_RX12_13 dX12_ofLog_1 rfl (by assumption) (by assumption) ?_
  refine xg_sipush 7 dX12_ofLog_4 rfl (by decide) ?_
  refine xg_iconst 8 dX12_ofLog_7 rfl ?_
  refine xg_iloadn 9 dX12_ofLog_8 rfl rfl rfl ?_
  refine xg_imul 10 dX12_ofLog_9 rfl ?_
  refine xg_iadd 11 dX12_ofLog_10 rfl ?_
  refine xg_iloadn 12 dX12_ofLog_11 rfl rfl rfl ?_
  refine xg_iadd 13 dX12_ofLog_12 rfl ?_
  refine xg_ialdW 14 dX12_ofLog_13 rfl (by assumption) (by first | omega | exact hR _ | exact ⟨hR _, by omega⟩ | exact ⟨by omega, hR _⟩ | exact ⟨hR _, hR _⟩) ?_
  subst hX
  exact xg_ireturn dX12_ofLog_14 rfl ⟨Nat.le_refl _, Nat.le_refl _⟩ ⟨rfl, rfl⟩

theorem dX12_log_0 : decode cX12_log 0 = .ok (.aload_n 0, 1) := by decide +kernel
theorem dX12_log_1 : decode cX12_log 1 = .ok (.iconst 0, 1) := by decide +kernel
theorem dX12_log_2 : decode cX12_log 2 = .ok (.putfield 3, 3) := by decide +kernel
theorem dX12_log_5 : decode cX12_log 5 = .ok (.aload_n 0, 1) := by decide +kernel
theorem dX12_log_6 : decode cX12_log 6 = .ok (.iload_n 2, 1) := by decide +kernel
theorem dX12_log_7 : decode cX12_log 7 = .ok (.iconst 0, 1) := by decide +kernel
theorem dX12_log_8 : decode cX12_log 8 = .ok (.iconst 3, 1) := by decide +kernel
theorem dX12_log_9 : decode cX12_log 9 = .ok (.invokestatic 70, 3) := by decide +kernel
theorem dX12_log_12 : decode cX12_log 12 = .ok (.ifCond .ne 7, 3) := by decide +kernel
theorem dX12_log_15 : decode cX12_log 15 = .ok (.iconst 1, 1) := by decide +kernel
theorem dX12_log_16 : decode cX12_log 16 = .ok (.goto 4, 3) := by decide +kernel
theorem dX12_log_19 : decode cX12_log 19 = .ok (.iconst 0, 1) := by decide +kernel
theorem dX12_log_20 : decode cX12_log 20 = .ok (.iconst 1, 1) := by decide +kernel
theorem dX12_log_21 : decode cX12_log 21 = .ok (.invokevirtual 251, 3) := by decide +kernel
theorem dX12_log_24 : decode cX12_log 24 = .ok (.ifCond .eq 5, 3) := by decide +kernel
theorem dX12_log_27 : decode cX12_log 27 = .ok (.iconst 0, 1) := by decide +kernel
theorem dX12_log_28 : decode cX12_log 28 = .ok (.ireturn, 1) := by decide +kernel
theorem dX12_log_29 : decode cX12_log 29 = .ok (.iload_n 1, 1) := by decide +kernel
theorem dX12_log_30 : decode cX12_log 30 = .ok (.iconst 0, 1) := by decide +kernel
theorem dX12_log_31 : decode cX12_log 31 = .ok (.aload_n 0, 1) := by decide +kernel
theorem dX12_log_32 : decode cX12_log 32 = .ok (.getfield 13, 3) := by decide +kernel
theorem dX12_log_35 : decode cX12_log 35 = .ok (.bipush 14, 2) := by decide +kernel
theorem dX12_log_37 : decode cX12_log 37 = .ok (.iaload, 1) := by decide +kernel
theorem dX12_log_38 : decode cX12_log 38 = .ok (.iconst 1, 1) := by decide +kernel
theorem dX12_log_39 : decode cX12_log 39 = .ok (.isub, 1) := by decide +kernel
theorem dX12_log_40 : decode cX12_log 40 = .ok (.invokestatic 70, 3) := by decide +kernel
theorem dX12_log_43 : decode cX12_log 43 = .ok (.ifCond .eq 12, 3) := by decide +kernel
theorem dX12_log_46 : decode cX12_log 46 = .ok (.aload_n 0, 1) := by decide +kernel
theorem dX12_log_47 : decode cX12_log 47 = .ok (.iload_n 1, 1) := by decide +kernel
theorem dX12_log_48 : decode cX12_log 48 = .ok (.iload_n 2, 1) := by decide +kernel
theorem dX12_log_49 : decode cX12_log 49 = .ok (.invokevirtual 477, 3) := by decide +kernel
theorem dX12_log_52 : decode cX12_log 52 = .ok (.goto 4, 3) := by decide +kernel
theorem dX12_log_55 : decode cX12_log 55 = .ok (.iconst (-1), 1) := by decide +kernel
theorem dX12_log_56 : decode cX12_log 56 = .ok (.ireturn, 1) := by decide +kernel
set_option maxHeartbeats 4000000 in
set_option maxRecDepth 100000 in
theorem ct_X12_log_t1 {E : xE} {z : Nat} {T : Nat → Nat × Int} {F : Nat → Nat → Int} {I : Nat → Int → Int} {P : Nat → Nat → Option Nat} {Y : Nat → Int → Option Nat} {m : Nat} {w : Int → Int} (hw : wM T P m) (hO : wOk w){v x : Int} (hv : -2147483648 ≤ v ∧ v < 2147483648) (hx : -2147483648 ≤ x ∧ x < 2147483648) (hb : ¬ (0 ≤ x ∧ x ≤ 3)) : Ct E 1 mX12_log 0 0 [.ref m, J v, J x] (z, T, F, upA I (m + 1) w, P, Y) (xd (some (J 0)) (z, T, upF F m 0 1, upA I (m + 1) (w), P, Y)) := by
  obtain ⟨⟨q0, q1, q2, q3⟩, -⟩ := id hw
  obtain ⟨hR, o0, o1, o2, o3, o4, o5, o6, oc, o13, o14, o16, o17, o18, ov⟩ := id hO
  have hN := wN_i o0.1
  refine Ct.of [some (.ref m), some (J v), some (J x)] kt_X12_log rfl (Nat.le_of_ble_eq_true rfl) rfl (fun d hd => ?_)
  generalize hX : xN E _ _ _ = X
  refine xg_aloadn 1 dX12_log_0 rfl rfl rfl ?_
  refine xg_iconst 2 dX12_log_1 rfl ?_
  refine xg_putI 5 kf_RX12_3 dX12_log_2 rfl (by assumption) ?_
  refine xg_aloadn 6 dX12_log_5 rfl rfl rfl ?_
  refine xg_iloadn 7 dX12_log_6 rfl rfl rfl ?_
  refine xg_iconst 8 dX12_log_7 rfl ?_
  refine xg_iconst 9 dX12_log_8 rfl ?_
  refine xg_callS 12 [_, _, _] _ ks_X12_in kl_RX12_70 dX12_log_9 rfl rfl rfl (Nat.le_of_ble_eq_true rfl) (by omega) ⟨Nat.le_refl _, Nat.le_refl _⟩ (ct_X12_in (by omega)) rfl ?_
  refine xg_dne 19 15 dX12_log_12 rfl rfl (fun hb12 => ?_) (fun hb12 => ?_)
  · first
    | (exfalso; omega)
    | skip
      refine xg_iconst 20 dX12_log_19 rfl ?_
      refine xg_iconst 21 dX12_log_20 rfl ?_
      refine xg_callV 24 12 [_, _] _ kv_X12_throwsIf ⟨_, _, rfl⟩ kl_RX12_251 dX12_log_21 rfl (by assumption) (by omega) rfl rfl (Nat.le_of_ble_eq_true rfl) (by omega) ⟨Nat.le_refl _, Nat.le_refl _⟩ (ct_throwsF hw) rfl ?_
      refine xg_ifeq 29 27 dX12_log_24 rfl rfl (by first | omega | exact hR _ | exact ⟨hR _, by omega⟩ | exact ⟨by omega, hR _⟩ | exact ⟨hR _, hR _⟩) (fun hb24 => ?_) (fun hb24 => ?_)
      · skip
        exfalso; omega
      · exfalso; omega
  · first
    | (exfalso; omega)
    | skip
      refine xg_iconst 16 dX12_log_15 rfl ?_
      refine xg_goto 20 dX12_log_16 rfl ?_
      refine xg_iconst 21 dX12_log_20 rfl ?_
      refine xg_callV 24 12 [_, _] _ kv_X12_throwsIf ⟨_, _, rfl⟩ kl_RX12_251 dX12_log_21 rfl (by assumption) (by omega) rfl rfl (Nat.le_of_ble_eq_true rfl) (by omega) ⟨Nat.le_refl _, Nat.le_refl _⟩ (ct_throwsT hw) rfl ?_
      refine xg_ifeq 29 27 dX12_log_24 rfl rfl (by first | omega | exact hR _ | exact ⟨hR _, by omega⟩ | exact ⟨by omega, hR _⟩ | exact ⟨hR _, hR _⟩) (fun hb24 => ?_) (fun hb24 => ?_)
      · exfalso; omega
      · skip
        refine xg_iconst 28 dX12_log_27 rfl ?_
        subst hX
        exact xg_ireturn dX12_log_28 rfl ⟨Nat.le_refl _, Nat.le_refl _⟩ ⟨rfl, by rw [upF_upF]⟩

set_option maxHeartbeats 4000000 in
set_option maxRecDepth 100000 in
theorem ct_X12_log {E : xE} {z : Nat} {T : Nat → Nat × Int} {F : Nat → Nat → Int} {I : Nat → Int → Int} {P : Nat → Nat → Option Nat} {Y : Nat → Int → Option Nat} {m : Nat} {w : Int → Int} (hw : wM T P m) (hO : wOk w){v x : Int} (hv : -2147483648 ≤ v ∧ v < 2147483648) (hx : -2147483648 ≤ x ∧ x < 2147483648) (hb : 0 ≤ x ∧ x ≤ 3) : Ct E 1 mX12_log 0 0 [.ref m, J v, J x] (z, T, F, upA I (m + 1) w, P, Y) (xd (some (J (if 0 ≤ v ∧ v < w 14 then w (1663 + 4 * v + x) else -1))) (z, T, upF F m 0 0, upA I (m + 1) (w), P, Y)) := by
  obtain ⟨⟨q0, q1, q2, q3⟩, -⟩ := id hw
  obtain ⟨hR, o0, o1, o2, o3, o4, o5, o6, oc, o13, o14, o16, o17, o18, ov⟩ := id hO
  have hN := wN_i o0.1
  refine Ct.of [some (.ref m), some (J v), some (J x)] kt_X12_log rfl (Nat.le_of_ble_eq_true rfl) rfl (fun d hd => ?_)
  generalize hX : xN E _ _ _ = X
  refine xg_aloadn 1 dX12_log_0 rfl rfl rfl ?_
  refine xg_iconst 2 dX12_log_1 rfl ?_
  refine xg_putI 5 kf_RX12_3 dX12_log_2 rfl (by assumption) ?_
  refine xg_aloadn 6 dX12_log_5 rfl rfl rfl ?_
  refine xg_iloadn 7 dX12_log_6 rfl rfl rfl ?_
  refine xg_iconst 8 dX12_log_7 rfl ?_
  refine xg_iconst 9 dX12_log_8 rfl ?_
  refine xg_callS 12 [_, _, _] _ ks_X12_in kl_RX12_70 dX12_log_9 rfl rfl rfl (Nat.le_of_ble_eq_true rfl) (by omega) ⟨Nat.le_refl _, Nat.le_refl _⟩ (ct_X12_in (by omega)) rfl ?_
  refine xg_dne 19 15 dX12_log_12 rfl rfl (fun hb12 => ?_) (fun hb12 => ?_)
  · first
    | (exfalso; omega)
    | skip
      refine xg_iconst 20 dX12_log_19 rfl ?_
      refine xg_iconst 21 dX12_log_20 rfl ?_
      refine xg_callV 24 12 [_, _] _ kv_X12_throwsIf ⟨_, _, rfl⟩ kl_RX12_251 dX12_log_21 rfl (by assumption) (by omega) rfl rfl (Nat.le_of_ble_eq_true rfl) (by omega) ⟨Nat.le_refl _, Nat.le_refl _⟩ (ct_throwsF hw) rfl ?_
      refine xg_ifeq 29 27 dX12_log_24 rfl rfl (by first | omega | exact hR _ | exact ⟨hR _, by omega⟩ | exact ⟨by omega, hR _⟩ | exact ⟨hR _, hR _⟩) (fun hb24 => ?_) (fun hb24 => ?_)
      · skip
        refine xg_iloadn 30 dX12_log_29 rfl rfl rfl ?_
        refine xg_iconst 31 dX12_log_30 rfl ?_
        refine xg_aloadn 32 dX12_log_31 rfl rfl rfl ?_
        refine xg_getP 35 kf_RX12_13 dX12_log_32 rfl (by assumption) (by assumption) ?_
        refine xg_bipush 37 dX12_log_35 rfl (by decide) ?_
        refine xg_ialdW 38 dX12_log_37 rfl (by assumption) (by first | omega | exact hR _ | exact ⟨hR _, by omega⟩ | exact ⟨by omega, hR _⟩ | exact ⟨hR _, hR _⟩) ?_
        refine xg_iconst 39 dX12_log_38 rfl ?_
        refine xg_isub 40 dX12_log_39 rfl ?_
        refine xg_callS 43 [_, _, _] _ ks_X12_in kl_RX12_70 dX12_log_40 rfl rfl rfl (Nat.le_of_ble_eq_true rfl) (by omega) ⟨Nat.le_refl _, Nat.le_refl _⟩ (ct_X12_in (by omega)) rfl ?_
        refine xg_deq 55 46 dX12_log_43 rfl rfl (fun hb43 => ?_) (fun hb43 => ?_)
        · skip
          refine xg_iconst 56 dX12_log_55 rfl ?_
          subst hX
          exact xg_ireturn dX12_log_56 rfl ⟨Nat.le_refl _, Nat.le_refl _⟩ ⟨by rw [if_neg (by omega)], rfl⟩
        · skip
          refine xg_aloadn 47 dX12_log_46 rfl rfl rfl ?_
          refine xg_iloadn 48 dX12_log_47 rfl rfl rfl ?_
          refine xg_iloadn 49 dX12_log_48 rfl rfl rfl ?_
          refine xg_callV 52 12 [_, _] _ kv_X12_ofLog ⟨_, _, rfl⟩ kl_RX12_477 dX12_log_49 rfl (by assumption) (by omega) rfl rfl (Nat.le_of_ble_eq_true rfl) (by omega) ⟨Nat.le_refl _, Nat.le_refl _⟩ (ct_X12_ofLog hw hO (by omega) (by omega)) rfl ?_
          refine xg_goto 56 dX12_log_52 rfl ?_
          subst hX
          exact xg_ireturn dX12_log_56 rfl ⟨Nat.le_refl _, Nat.le_refl _⟩ ⟨by rw [if_pos (by omega)], rfl⟩
      · exfalso; omega
  · first
    | (exfalso; omega)
    | skip
      refine xg_iconst 16 dX12_log_15 rfl ?_
      refine xg_goto 20 dX12_log_16 rfl ?_
      refine xg_iconst 21 dX12_log_20 rfl ?_
      refine xg_callV 24 12 [_, _] _ kv_X12_throwsIf ⟨_, _, rfl⟩ kl_RX12_251 dX12_log_21 rfl (by assumption) (by omega) rfl rfl (Nat.le_of_ble_eq_true rfl) (by omega) ⟨Nat.le_refl _, Nat.le_refl _⟩ (ct_throwsT hw) rfl ?_
      refine xg_ifeq 29 27 dX12_log_24 rfl rfl (by first | omega | exact hR _ | exact ⟨hR _, by omega⟩ | exact ⟨by omega, hR _⟩ | exact ⟨hR _, hR _⟩) (fun hb24 => ?_) (fun hb24 => ?_)
      · exfalso; omega
      · skip
        exfalso; omega

/-- the log from the row k downward: how many of that kind, the latest tick -/
def sLed (w : Int → Int) (kind : Int) (top : Nat) : Nat → Int × Int
  | 0 => (0, -1)
  | k + 1 => if w (1663 + 4 * ((top : Int) - 1 - k) + 1) = kind then ((sLed w kind top k).1 + 1, w (1663 + 4 * ((top : Int) - 1 - k))) else sLed w kind top k
theorem sLed_bd (w : Int → Int) (kind : Int) (top : Nat) : ∀ k : Nat, 0 ≤ (sLed w kind top k).1 ∧ (sLed w kind top k).1 ≤ k
  | 0 => by simp [sLed]
  | k + 1 => by
    have := sLed_bd w kind top k
    rw [sLed]
    split
    · dsimp only; omega
    · omega
def sOver (w : Int → Int) (a : Bool) : Int :=
  if (if a = true then w 9 else sFndN w) = 0 then 0 else 100 * (if a = true then w 8 else sEnt w 19 + sAllE w) / (if a = true then w 9 else sFndN w)
theorem sFndN_bd (w : Int → Int) : 0 ≤ sFndN w ∧ sFndN w ≤ 60 := by
  have := pSum_bd (f := fun k => if sFnd w k = -1 then 0 else 1) (b := 1) (k := 60) (fun j _ => by split <;> omega)
  unfold sFndN; omega
theorem sAllE_bd {w : Int → Int} (h : w 0 ≤ 12) : 0 ≤ sAllE w ∧ sAllE w ≤ 720 := sEntIn_bd _ h
def sAm (w : Int → Int) (x r : Int) : Int := if x = 0 then sEnt w (201 + 122 * r) else sMostR w r
def sMst (w : Int → Int) (x : Int) : Nat → Int
  | 0 => -1
  | r + 1 => if sMst w x r = -1 ∨ sAm w x (sMst w x r) < sAm w x (r : Int) then (r : Int) else sMst w x r
theorem sMst_bd (w : Int → Int) (x : Int) : ∀ r : Nat, -1 ≤ sMst w x r ∧ sMst w x r < r
  | 0 => by simp [sMst]
  | r + 1 => by
    have := sMst_bd w x r
    rw [sMst]; split <;> omega
theorem sAm_bd {w : Int → Int} (h : wOk w) {x r : Int} (hr : 0 ≤ r ∧ r < 12) : 0 ≤ sAm w x r ∧ sAm w x r ≤ 100 := by
  have h1 := sEnt_bd w (201 + 122 * r)
  have h2 := pMost_bd (f := fun k => w (201 + 122 * r + k)) (g := fun k => w (261 + 122 * r + k)) (fun k hk => by have := h.2.2.2.2.2.2.2.2.2.2.2.2.2.2 (261 + 122 * r + k) (by omega) (by omega); omega) 60 (by omega)
  unfold sAm sMostR; split <;> omega
def sTw1 (w : Int → Int) (a : Int) : Nat → Int := pSum (fun b => if w (199 + 122 * a) = w (199 + 122 * b) ∧ sEnt w (201 + 122 * a) = sEnt w (201 + 122 * b) then 1 else 0)
def sTw (w : Int → Int) : Nat → Int := pSum (fun a => sTw1 w a a.toNat)
theorem sTw1_bd (w : Int → Int) (a : Int) (k : Nat) : 0 ≤ sTw1 w a k ∧ sTw1 w a k ≤ k := by
  have := pSum_bd (f := fun b => if w (199 + 122 * a) = w (199 + 122 * b) ∧ sEnt w (201 + 122 * a) = sEnt w (201 + 122 * b) then 1 else 0) (b := 1) (k := k) (fun j _ => by split <;> omega)
  unfold sTw1; omega
theorem sTw_bd (w : Int → Int) {k : Nat} (hk : k ≤ 12) : 0 ≤ sTw w k ∧ sTw w k ≤ 12 * k :=
  pSum_bd (b := 12) (fun j hj => by have := sTw1_bd w (j : Int) (j : Int).toNat; omega)
def sPw (x : Int) : Nat → Int
  | 0 => 1
  | k + 1 => sPw x k * x
theorem sPw_bd {x : Int} (h : 0 ≤ x ∧ x ≤ 60) : ∀ k : Nat, k ≤ 5 → 0 ≤ sPw x k ∧ sPw x k ≤ sPw 60 k
  | 0, _ => by simp [sPw]
  | k + 1, hk => by
    have h1 := sPw_bd h k (by omega)
    rw [sPw, sPw]
    exact ⟨Int.mul_nonneg h1.1 h.1, Int.mul_le_mul h1.2 h.2 h.1 (Int.le_trans h1.1 h1.2)⟩
theorem sPw60 : ∀ k : Nat, k ≤ 5 → 1 ≤ sPw 60 k ∧ sPw 60 k ≤ 777600000
  | 0, _ => by decide
  | 1, _ => by decide
  | 2, _ => by decide
  | 3, _ => by decide
  | 4, _ => by decide
  | 5, _ => by decide
def sOdds (w : Int → Int) (n : Nat) : Int := 10000 * (sPw 60 n - sPw (60 - sFndN w) n) / sPw 60 n
theorem dX12_led_0 : decode cX12_led 0 = .ok (.aload_n 0, 1) := by decide +kernel
theorem dX12_led_1 : decode cX12_led 1 = .ok (.iconst 0, 1) := by decide +kernel
theorem dX12_led_2 : decode cX12_led 2 = .ok (.putfield 3, 3) := by decide +kernel
theorem dX12_led_5 : decode cX12_led 5 = .ok (.aload_n 0, 1) := by decide +kernel
theorem dX12_led_6 : decode cX12_led 6 = .ok (.iload_n 1, 1) := by decide +kernel
theorem dX12_led_7 : decode cX12_led 7 = .ok (.iconst 0, 1) := by decide +kernel
theorem dX12_led_8 : decode cX12_led 8 = .ok (.iconst 3, 1) := by decide +kernel
theorem dX12_led_9 : decode cX12_led 9 = .ok (.invokestatic 70, 3) := by decide +kernel
theorem dX12_led_12 : decode cX12_led 12 = .ok (.ifCond .ne 7, 3) := by decide +kernel
theorem dX12_led_15 : decode cX12_led 15 = .ok (.iconst 1, 1) := by decide +kernel
theorem dX12_led_16 : decode cX12_led 16 = .ok (.goto 4, 3) := by decide +kernel
theorem dX12_led_19 : decode cX12_led 19 = .ok (.iconst 0, 1) := by decide +kernel
theorem dX12_led_20 : decode cX12_led 20 = .ok (.iconst 1, 1) := by decide +kernel
theorem dX12_led_21 : decode cX12_led 21 = .ok (.invokevirtual 251, 3) := by decide +kernel
theorem dX12_led_24 : decode cX12_led 24 = .ok (.ifCond .eq 5, 3) := by decide +kernel
theorem dX12_led_27 : decode cX12_led 27 = .ok (.iconst 0, 1) := by decide +kernel
theorem dX12_led_28 : decode cX12_led 28 = .ok (.ireturn, 1) := by decide +kernel
theorem dX12_led_29 : decode cX12_led 29 = .ok (.iconst 0, 1) := by decide +kernel
theorem dX12_led_30 : decode cX12_led 30 = .ok (.istore_n 3, 1) := by decide +kernel
theorem dX12_led_31 : decode cX12_led 31 = .ok (.iconst (-1), 1) := by decide +kernel
theorem dX12_led_32 : decode cX12_led 32 = .ok (.istore 4, 2) := by decide +kernel
theorem dX12_led_34 : decode cX12_led 34 = .ok (.aload_n 0, 1) := by decide +kernel
theorem dX12_led_35 : decode cX12_led 35 = .ok (.getfield 13, 3) := by decide +kernel
theorem dX12_led_38 : decode cX12_led 38 = .ok (.bipush 14, 2) := by decide +kernel
theorem dX12_led_40 : decode cX12_led 40 = .ok (.iaload, 1) := by decide +kernel
theorem dX12_led_41 : decode cX12_led 41 = .ok (.iconst 1, 1) := by decide +kernel
theorem dX12_led_42 : decode cX12_led 42 = .ok (.isub, 1) := by decide +kernel
theorem dX12_led_43 : decode cX12_led 43 = .ok (.istore 5, 2) := by decide +kernel
theorem dX12_led_45 : decode cX12_led 45 = .ok (.iload 5, 2) := by decide +kernel
theorem dX12_led_47 : decode cX12_led 47 = .ok (.ifCond .lt 35, 3) := by decide +kernel
theorem dX12_led_50 : decode cX12_led 50 = .ok (.aload_n 0, 1) := by decide +kernel
theorem dX12_led_51 : decode cX12_led 51 = .ok (.iload 5, 2) := by decide +kernel
theorem dX12_led_53 : decode cX12_led 53 = .ok (.iconst 1, 1) := by decide +kernel
theorem dX12_led_54 : decode cX12_led 54 = .ok (.invokevirtual 477, 3) := by decide +kernel
theorem dX12_led_57 : decode cX12_led 57 = .ok (.iload_n 1, 1) := by decide +kernel
theorem dX12_led_58 : decode cX12_led 58 = .ok (.if_icmp .eq 6, 3) := by decide +kernel
theorem dX12_led_61 : decode cX12_led 61 = .ok (.goto 15, 3) := by decide +kernel
theorem dX12_led_64 : decode cX12_led 64 = .ok (.iinc 3 1, 3) := by decide +kernel
theorem dX12_led_67 : decode cX12_led 67 = .ok (.aload_n 0, 1) := by decide +kernel
theorem dX12_led_68 : decode cX12_led 68 = .ok (.iload 5, 2) := by decide +kernel
theorem dX12_led_70 : decode cX12_led 70 = .ok (.iconst 0, 1) := by decide +kernel
theorem dX12_led_71 : decode cX12_led 71 = .ok (.invokevirtual 477, 3) := by decide +kernel
theorem dX12_led_74 : decode cX12_led 74 = .ok (.istore 4, 2) := by decide +kernel
theorem dX12_led_76 : decode cX12_led 76 = .ok (.iinc 5 (-1), 3) := by decide +kernel
theorem dX12_led_79 : decode cX12_led 79 = .ok (.goto (-34), 3) := by decide +kernel
theorem dX12_led_82 : decode cX12_led 82 = .ok (.iload_n 2, 1) := by decide +kernel
theorem dX12_led_83 : decode cX12_led 83 = .ok (.ifCond .eq 8, 3) := by decide +kernel
theorem dX12_led_86 : decode cX12_led 86 = .ok (.iload 4, 2) := by decide +kernel
theorem dX12_led_88 : decode cX12_led 88 = .ok (.goto 4, 3) := by decide +kernel
theorem dX12_led_91 : decode cX12_led 91 = .ok (.iload_n 3, 1) := by decide +kernel
theorem dX12_led_92 : decode cX12_led 92 = .ok (.ireturn, 1) := by decide +kernel
set_option maxHeartbeats 4000000 in
set_option maxRecDepth 100000 in
theorem ct_X12_led_t1 {E : xE} {z : Nat} {T : Nat → Nat × Int} {F : Nat → Nat → Int} {I : Nat → Int → Int} {P : Nat → Nat → Option Nat} {Y : Nat → Int → Option Nat} {m : Nat} {w : Int → Int} (hw : wM T P m) (hO : wOk w){v : Int} {b : Bool} (hv : -2147483648 ≤ v ∧ v < 2147483648) (hb : ¬ (0 ≤ v ∧ v ≤ 3)) : Ct E 1 mX12_led 0 0 [.ref m, J v, J (bI b)] (z, T, F, upA I (m + 1) w, P, Y) (xd (some (J 0)) (z, T, upF F m 0 1, upA I (m + 1) (w), P, Y)) := by
  obtain ⟨⟨q0, q1, q2, q3⟩, -⟩ := id hw
  obtain ⟨hR, o0, o1, o2, o3, o4, o5, o6, oc, o13, o14, o16, o17, o18, ov⟩ := id hO
  have hN := wN_i o0.1
  refine Ct.of [some (.ref m), some (J v), some (J (bI b)), none, none, none] kt_X12_led rfl (Nat.le_of_ble_eq_true rfl) rfl (fun d hd => ?_)
  generalize hX : xN E _ _ _ = X
  refine xg_aloadn 1 dX12_led_0 rfl rfl rfl ?_
  refine xg_iconst 2 dX12_led_1 rfl ?_
  refine xg_putI 5 kf_RX12_3 dX12_led_2 rfl (by assumption) ?_
  refine xg_aloadn 6 dX12_led_5 rfl rfl rfl ?_
  refine xg_iloadn 7 dX12_led_6 rfl rfl rfl ?_
  refine xg_iconst 8 dX12_led_7 rfl ?_
  refine xg_iconst 9 dX12_led_8 rfl ?_
  refine xg_callS 12 [_, _, _] _ ks_X12_in kl_RX12_70 dX12_led_9 rfl rfl rfl (Nat.le_of_ble_eq_true rfl) (by omega) ⟨Nat.le_refl _, Nat.le_refl _⟩ (ct_X12_in (by omega)) rfl ?_
  refine xg_dne 19 15 dX12_led_12 rfl rfl (fun hb12 => ?_) (fun hb12 => ?_)
  · first
    | (exfalso; omega)
    | skip
      refine xg_iconst 20 dX12_led_19 rfl ?_
      refine xg_iconst 21 dX12_led_20 rfl ?_
      refine xg_callV 24 12 [_, _] _ kv_X12_throwsIf ⟨_, _, rfl⟩ kl_RX12_251 dX12_led_21 rfl (by assumption) (by omega) rfl rfl (Nat.le_of_ble_eq_true rfl) (by omega) ⟨Nat.le_refl _, Nat.le_refl _⟩ (ct_throwsF hw) rfl ?_
      refine xg_ifeq 29 27 dX12_led_24 rfl rfl (by first | omega | exact hR _ | exact ⟨hR _, by omega⟩ | exact ⟨by omega, hR _⟩ | exact ⟨hR _, hR _⟩) (fun hb24 => ?_) (fun hb24 => ?_)
      · skip
        exfalso; omega
      · exfalso; omega
  · first
    | (exfalso; omega)
    | skip
      refine xg_iconst 16 dX12_led_15 rfl ?_
      refine xg_goto 20 dX12_led_16 rfl ?_
      refine xg_iconst 21 dX12_led_20 rfl ?_
      refine xg_callV 24 12 [_, _] _ kv_X12_throwsIf ⟨_, _, rfl⟩ kl_RX12_251 dX12_led_21 rfl (by assumption) (by omega) rfl rfl (Nat.le_of_ble_eq_true rfl) (by omega) ⟨Nat.le_refl _, Nat.le_refl _⟩ (ct_throwsT hw) rfl ?_
      refine xg_ifeq 29 27 dX12_led_24 rfl rfl (by first | omega | exact hR _ | exact ⟨hR _, by omega⟩ | exact ⟨by omega, hR _⟩ | exact ⟨hR _, hR _⟩) (fun hb24 => ?_) (fun hb24 => ?_)
      · exfalso; omega
      · skip
        refine xg_iconst 28 dX12_led_27 rfl ?_
        subst hX
        exact xg_ireturn dX12_led_28 rfl ⟨Nat.le_refl _, Nat.le_refl _⟩ ⟨rfl, by rw [upF_upF]⟩

set_option maxHeartbeats 4000000 in
set_option maxRecDepth 100000 in
theorem ct_X12_led {E : xE} {z : Nat} {T : Nat → Nat × Int} {F : Nat → Nat → Int} {I : Nat → Int → Int} {P : Nat → Nat → Option Nat} {Y : Nat → Int → Option Nat} {m : Nat} {w : Int → Int} (hw : wM T P m) (hO : wOk w){v : Int} {b : Bool} (hb : 0 ≤ v ∧ v ≤ 3) : Ct E 1 mX12_led 0 0 [.ref m, J v, J (bI b)] (z, T, F, upA I (m + 1) w, P, Y) (xd (some (J (if b = true then (sLed w v (w 14).toNat (w 14).toNat).2 else (sLed w v (w 14).toNat (w 14).toNat).1))) (z, T, upF F m 0 0, upA I (m + 1) (w), P, Y)) := by
  obtain ⟨⟨q0, q1, q2, q3⟩, -⟩ := id hw
  obtain ⟨hR, o0, o1, o2, o3, o4, o5, o6, oc, o13, o14, o16, o17, o18, ov⟩ := id hO
  have hN := wN_i o0.1
  refine Ct.of [some (.ref m), some (J v), some (J (bI b)), none, none, none] kt_X12_led rfl (Nat.le_of_ble_eq_true rfl) rfl (fun d hd => ?_)
  generalize hX : xN E _ _ _ = X
  refine xg_aloadn 1 dX12_led_0 rfl rfl rfl ?_
  refine xg_iconst 2 dX12_led_1 rfl ?_
  refine xg_putI 5 kf_RX12_3 dX12_led_2 rfl (by assumption) ?_
  refine xg_aloadn 6 dX12_led_5 rfl rfl rfl ?_
  refine xg_iloadn 7 dX12_led_6 rfl rfl rfl ?_
  refine xg_iconst 8 dX12_led_7 rfl ?_
  refine xg_iconst 9 dX12_led_8 rfl ?_
  refine xg_callS 12 [_, _, _] _ ks_X12_in kl_RX12_70 dX12_led_9 rfl rfl rfl (Nat.le_of_ble_eq_true rfl) (by omega) ⟨Nat.le_refl _, Nat.le_refl _⟩ (ct_X12_in (by omega)) rfl ?_
  refine xg_dne 19 15 dX12_led_12 rfl rfl (fun hb12 => ?_) (fun hb12 => ?_)
  · first
    | (exfalso; omega)
    | skip
      refine xg_iconst 20 dX12_led_19 rfl ?_
      refine xg_iconst 21 dX12_led_20 rfl ?_
      refine xg_callV 24 12 [_, _] _ kv_X12_throwsIf ⟨_, _, rfl⟩ kl_RX12_251 dX12_led_21 rfl (by assumption) (by omega) rfl rfl (Nat.le_of_ble_eq_true rfl) (by omega) ⟨Nat.le_refl _, Nat.le_refl _⟩ (ct_throwsF hw) rfl ?_
      refine xg_ifeq 29 27 dX12_led_24 rfl rfl (by first | omega | exact hR _ | exact ⟨hR _, by omega⟩ | exact ⟨by omega, hR _⟩ | exact ⟨hR _, hR _⟩) (fun hb24 => ?_) (fun hb24 => ?_)
      · skip
        refine xg_iconst 30 dX12_led_29 rfl ?_
        refine xg_istoren 31 _ dX12_led_30 rfl rfl rfl (by decide) (Or.inr rfl) ?_
        refine xg_iconst 32 dX12_led_31 rfl ?_
        refine xg_istore 34 _ dX12_led_32 rfl rfl (by decide) (Or.inr rfl) ?_
        refine xg_aloadn 35 dX12_led_34 rfl rfl rfl ?_
        refine xg_getP 38 kf_RX12_13 dX12_led_35 rfl (by assumption) (by assumption) ?_
        refine xg_bipush 40 dX12_led_38 rfl (by decide) ?_
        refine xg_ialdW 41 dX12_led_40 rfl (by assumption) (by first | omega | exact hR _ | exact ⟨hR _, by omega⟩ | exact ⟨by omega, hR _⟩ | exact ⟨hR _, hR _⟩) ?_
        refine xg_iconst 42 dX12_led_41 rfl ?_
        refine xg_isub 43 dX12_led_42 rfl ?_
        refine xg_istore 45 _ dX12_led_43 rfl rfl (by decide) (Or.inr rfl) ?_
        have loop45 : ∀ (mm : Nat) (k : Nat), ((k : Int) ≤ w 14) → w 14 - k < (mm : Int) → xG E mX12_led (xR d 0 0) X 45 [some (.ref m), some (J v), some (J (bI b)), some (J (sLed w v (w 14).toNat k).1), some (J (sLed w v (w 14).toNat k).2), some (J (w 14 - 1 - k))] [] (z, T, upF F m 0 0, upA I (m + 1) (w), P, Y) 0 0 := by
          intro mm
          induction mm with
          | zero => intro k hk hm; exfalso; omega
          | succ mm ih =>
            intro k hk hm
            have hlb := sLed_bd w v (w 14).toNat k
            have ht14 : (((w 14).toNat : Nat) : Int) = w 14 := by omega
            have hq1 := hR (1663 + 4 * (w 14 - 1 - (k : Int)) + 1)
            refine xg_iload 47 dX12_led_45 rfl rfl ?_
            refine xg_iflt 82 50 dX12_led_47 rfl rfl (by first | omega | exact hR _ | exact ⟨hR _, by omega⟩ | exact ⟨by omega, hR _⟩ | exact ⟨hR _, hR _⟩) (fun hb47 => ?_) (fun hb47 => ?_)
            · skip
              refine xg_iloadn 83 dX12_led_82 rfl rfl rfl ?_
              refine xg_beq 91 86 dX12_led_83 rfl rfl (fun hb83 => ?_) (fun hb83 => ?_)
              · skip
                refine xg_iloadn 92 dX12_led_91 rfl rfl rfl ?_
                subst hX
                exact xg_ireturn dX12_led_92 rfl ⟨Nat.le_refl _, Nat.le_refl _⟩ ⟨by rw [if_neg (by rw [hb83]; decide), show k = (w 14).toNat by omega], rfl⟩
              · skip
                refine xg_iload 88 dX12_led_86 rfl rfl ?_
                refine xg_goto 92 dX12_led_88 rfl ?_
                subst hX
                exact xg_ireturn dX12_led_92 rfl ⟨Nat.le_refl _, Nat.le_refl _⟩ ⟨by rw [if_pos hb83, show k = (w 14).toNat by omega], rfl⟩
            · skip
              refine xg_aloadn 51 dX12_led_50 rfl rfl rfl ?_
              refine xg_iload 53 dX12_led_51 rfl rfl ?_
              refine xg_iconst 54 dX12_led_53 rfl ?_
              refine xg_callV 57 12 [_, _] _ kv_X12_ofLog ⟨_, _, rfl⟩ kl_RX12_477 dX12_led_54 rfl (by assumption) (by omega) rfl rfl (Nat.le_of_ble_eq_true rfl) (by omega) ⟨Nat.le_refl _, Nat.le_refl _⟩ (ct_X12_ofLog hw hO (by omega) (by omega)) rfl ?_
              refine xg_iloadn 58 dX12_led_57 rfl rfl rfl ?_
              refine xg_iceq 64 61 dX12_led_58 rfl rfl (by first | omega | exact hR _ | exact ⟨hR _, by omega⟩ | exact ⟨by omega, hR _⟩ | exact ⟨hR _, hR _⟩) (fun hb58 => ?_) (fun hb58 => ?_)
              · skip
                refine xg_iinc 67 _ dX12_led_64 rfl rfl rfl rfl (by decide) (Or.inr rfl) ?_
                refine xg_aloadn 68 dX12_led_67 rfl rfl rfl ?_
                refine xg_iload 70 dX12_led_68 rfl rfl ?_
                refine xg_iconst 71 dX12_led_70 rfl ?_
                refine xg_callV 74 12 [_, _] _ kv_X12_ofLog ⟨_, _, rfl⟩ kl_RX12_477 dX12_led_71 rfl (by assumption) (by omega) rfl rfl (Nat.le_of_ble_eq_true rfl) (by omega) ⟨Nat.le_refl _, Nat.le_refl _⟩ (ct_X12_ofLog hw hO (by omega) (by omega)) rfl ?_
                refine xg_istore 76 _ dX12_led_74 rfl rfl (by decide) (Or.inr rfl) ?_
                refine xg_iinc 79 _ dX12_led_76 rfl rfl rfl rfl (by decide) (Or.inr rfl) ?_
                refine xg_goto 45 dX12_led_79 rfl ?_
                exact xg_weak _ (xle_s rfl (xle_s rfl (xle_s rfl (xle_s (by rw [sLed, ht14, if_pos hb58]) (xle_s (by rw [sLed, ht14, if_pos hb58]; simp only [Int.add_zero]) (xle_s (by rw [show w 14 - 1 - ((k + 1 : Nat) : Int) = w 14 - 1 - (k : Int) + -1 by omega]) xle_0)))))) (ih (k + 1) (by omega) (by omega))
              · skip
                refine xg_goto 76 dX12_led_61 rfl ?_
                refine xg_iinc 79 _ dX12_led_76 rfl rfl rfl rfl (by decide) (Or.inr rfl) ?_
                refine xg_goto 45 dX12_led_79 rfl ?_
                exact xg_weak _ (xle_s rfl (xle_s rfl (xle_s rfl (xle_s (by rw [sLed, ht14, if_neg hb58]) (xle_s (by rw [sLed, ht14, if_neg hb58]) (xle_s (by rw [show w 14 - 1 - ((k + 1 : Nat) : Int) = w 14 - 1 - (k : Int) + -1 by omega]) xle_0)))))) (ih (k + 1) (by omega) (by omega))
        exact xg_weak _ (xle_s rfl (xle_s rfl (xle_s rfl (xle_s rfl (xle_s rfl (xle_s (by rw [show w 14 - 1 - ((0 : Nat) : Int) = w 14 - 1 by omega]) xle_0)))))) (loop45 70 0 (by omega) (by omega))
      · exfalso; omega
  · first
    | (exfalso; omega)
    | skip
      refine xg_iconst 16 dX12_led_15 rfl ?_
      refine xg_goto 20 dX12_led_16 rfl ?_
      refine xg_iconst 21 dX12_led_20 rfl ?_
      refine xg_callV 24 12 [_, _] _ kv_X12_throwsIf ⟨_, _, rfl⟩ kl_RX12_251 dX12_led_21 rfl (by assumption) (by omega) rfl rfl (Nat.le_of_ble_eq_true rfl) (by omega) ⟨Nat.le_refl _, Nat.le_refl _⟩ (ct_throwsT hw) rfl ?_
      refine xg_ifeq 29 27 dX12_led_24 rfl rfl (by first | omega | exact hR _ | exact ⟨hR _, by omega⟩ | exact ⟨by omega, hR _⟩ | exact ⟨hR _, hR _⟩) (fun hb24 => ?_) (fun hb24 => ?_)
      · exfalso; omega
      · skip
        exfalso; omega

theorem dX12_seed_0 : decode cX12_seed 0 = .ok (.aload_n 0, 1) := by decide +kernel
theorem dX12_seed_1 : decode cX12_seed 1 = .ok (.iconst 0, 1) := by decide +kernel
theorem dX12_seed_2 : decode cX12_seed 2 = .ok (.putfield 3, 3) := by decide +kernel
theorem dX12_seed_5 : decode cX12_seed 5 = .ok (.aload_n 0, 1) := by decide +kernel
theorem dX12_seed_6 : decode cX12_seed 6 = .ok (.getfield 13, 3) := by decide +kernel
theorem dX12_seed_9 : decode cX12_seed 9 = .ok (.bipush 15, 2) := by decide +kernel
theorem dX12_seed_11 : decode cX12_seed 11 = .ok (.iaload, 1) := by decide +kernel
theorem dX12_seed_12 : decode cX12_seed 12 = .ok (.istore_n 2, 1) := by decide +kernel
theorem dX12_seed_13 : decode cX12_seed 13 = .ok (.aload_n 0, 1) := by decide +kernel
theorem dX12_seed_14 : decode cX12_seed 14 = .ok (.getfield 13, 3) := by decide +kernel
theorem dX12_seed_17 : decode cX12_seed 17 = .ok (.bipush 15, 2) := by decide +kernel
theorem dX12_seed_19 : decode cX12_seed 19 = .ok (.iload_n 1, 1) := by decide +kernel
theorem dX12_seed_20 : decode cX12_seed 20 = .ok (.iastore, 1) := by decide +kernel
theorem dX12_seed_21 : decode cX12_seed 21 = .ok (.iload_n 2, 1) := by decide +kernel
theorem dX12_seed_22 : decode cX12_seed 22 = .ok (.ireturn, 1) := by decide +kernel
set_option maxHeartbeats 4000000 in
set_option maxRecDepth 100000 in
theorem ct_X12_seed {E : xE} {z : Nat} {T : Nat → Nat × Int} {F : Nat → Nat → Int} {I : Nat → Int → Int} {P : Nat → Nat → Option Nat} {Y : Nat → Int → Option Nat} {m : Nat} {w : Int → Int} (hw : wM T P m) (hO : wOk w){v : Int} (hv : -2147483648 ≤ v ∧ v < 2147483648) : Ct E 0 mX12_seed 0 0 [.ref m, J v] (z, T, F, upA I (m + 1) w, P, Y) (xd (some (J (w 15))) (z, T, upF F m 0 0, upA I (m + 1) (wS w 15 v), P, Y)) := by
  obtain ⟨⟨q0, q1, q2, q3⟩, -⟩ := id hw
  obtain ⟨hR, o0, o1, o2, o3, o4, o5, o6, oc, o13, o14, o16, o17, o18, ov⟩ := id hO
  have hN := wN_i o0.1
  refine Ct.of [some (.ref m), some (J v), none] kt_X12_seed rfl (Nat.le_of_ble_eq_true rfl) rfl (fun d hd => ?_)
  generalize hX : xN E _ _ _ = X
  refine xg_aloadn 1 dX12_seed_0 rfl rfl rfl ?_
  refine xg_iconst 2 dX12_seed_1 rfl ?_
  refine xg_putI 5 kf_RX12_3 dX12_seed_2 rfl (by assumption) ?_
  refine xg_aloadn 6 dX12_seed_5 rfl rfl rfl ?_
  refine xg_getP 9 kf_RX12_13 dX12_seed_6 rfl (by assumption) (by assumption) ?_
  refine xg_bipush 11 dX12_seed_9 rfl (by decide) ?_
  refine xg_ialdW 12 dX12_seed_11 rfl (by assumption) (by first | omega | exact hR _ | exact ⟨hR _, by omega⟩ | exact ⟨by omega, hR _⟩ | exact ⟨hR _, hR _⟩) ?_
  refine xg_istoren 13 _ dX12_seed_12 rfl rfl rfl (by decide) (Or.inr rfl) ?_
  refine xg_aloadn 14 dX12_seed_13 rfl rfl rfl ?_
  refine xg_getP 17 kf_RX12_13 dX12_seed_14 rfl (by assumption) (by assumption) ?_
  refine xg_bipush 19 dX12_seed_17 rfl (by decide) ?_
  refine xg_iloadn 20 dX12_seed_19 rfl rfl rfl ?_
  refine xg_iastW 21 dX12_seed_20 rfl (by assumption) (by first | omega | exact hR _ | exact ⟨hR _, by omega⟩ | exact ⟨by omega, hR _⟩ | exact ⟨hR _, hR _⟩) ?_
  refine xg_iloadn 22 dX12_seed_21 rfl rfl rfl ?_
  subst hX
  exact xg_ireturn dX12_seed_22 rfl ⟨Nat.le_refl _, Nat.le_refl _⟩ ⟨rfl, rfl⟩

theorem dX12_over_0 : decode cX12_over 0 = .ok (.aload_n 0, 1) := by decide +kernel
theorem dX12_over_1 : decode cX12_over 1 = .ok (.iconst 0, 1) := by decide +kernel
theorem dX12_over_2 : decode cX12_over 2 = .ok (.putfield 3, 3) := by decide +kernel
theorem dX12_over_5 : decode cX12_over 5 = .ok (.iload_n 1, 1) := by decide +kernel
theorem dX12_over_6 : decode cX12_over 6 = .ok (.ifCond .eq 13, 3) := by decide +kernel
theorem dX12_over_9 : decode cX12_over 9 = .ok (.aload_n 0, 1) := by decide +kernel
theorem dX12_over_10 : decode cX12_over 10 = .ok (.getfield 13, 3) := by decide +kernel
theorem dX12_over_13 : decode cX12_over 13 = .ok (.bipush 8, 2) := by decide +kernel
theorem dX12_over_15 : decode cX12_over 15 = .ok (.iaload, 1) := by decide +kernel
theorem dX12_over_16 : decode cX12_over 16 = .ok (.goto 14, 3) := by decide +kernel
theorem dX12_over_19 : decode cX12_over 19 = .ok (.aload_n 0, 1) := by decide +kernel
theorem dX12_over_20 : decode cX12_over 20 = .ok (.bipush 19, 2) := by decide +kernel
theorem dX12_over_22 : decode cX12_over 22 = .ok (.invokevirtual 268, 3) := by decide +kernel
theorem dX12_over_25 : decode cX12_over 25 = .ok (.aload_n 0, 1) := by decide +kernel
theorem dX12_over_26 : decode cX12_over 26 = .ok (.invokevirtual 379, 3) := by decide +kernel
theorem dX12_over_29 : decode cX12_over 29 = .ok (.iadd, 1) := by decide +kernel
theorem dX12_over_30 : decode cX12_over 30 = .ok (.istore_n 2, 1) := by decide +kernel
theorem dX12_over_31 : decode cX12_over 31 = .ok (.iload_n 1, 1) := by decide +kernel
theorem dX12_over_32 : decode cX12_over 32 = .ok (.ifCond .eq 13, 3) := by decide +kernel
theorem dX12_over_35 : decode cX12_over 35 = .ok (.aload_n 0, 1) := by decide +kernel
theorem dX12_over_36 : decode cX12_over 36 = .ok (.getfield 13, 3) := by decide +kernel
theorem dX12_over_39 : decode cX12_over 39 = .ok (.bipush 9, 2) := by decide +kernel
theorem dX12_over_41 : decode cX12_over 41 = .ok (.iaload, 1) := by decide +kernel
theorem dX12_over_42 : decode cX12_over 42 = .ok (.goto 7, 3) := by decide +kernel
theorem dX12_over_45 : decode cX12_over 45 = .ok (.aload_n 0, 1) := by decide +kernel
theorem dX12_over_46 : decode cX12_over 46 = .ok (.invokevirtual 400, 3) := by decide +kernel
theorem dX12_over_49 : decode cX12_over 49 = .ok (.istore_n 3, 1) := by decide +kernel
theorem dX12_over_50 : decode cX12_over 50 = .ok (.iload_n 3, 1) := by decide +kernel
theorem dX12_over_51 : decode cX12_over 51 = .ok (.ifCond .ne 7, 3) := by decide +kernel
theorem dX12_over_54 : decode cX12_over 54 = .ok (.iconst 0, 1) := by decide +kernel
theorem dX12_over_55 : decode cX12_over 55 = .ok (.goto 9, 3) := by decide +kernel
theorem dX12_over_58 : decode cX12_over 58 = .ok (.bipush 100, 2) := by decide +kernel
theorem dX12_over_60 : decode cX12_over 60 = .ok (.iload_n 2, 1) := by decide +kernel
theorem dX12_over_61 : decode cX12_over 61 = .ok (.imul, 1) := by decide +kernel
theorem dX12_over_62 : decode cX12_over 62 = .ok (.iload_n 3, 1) := by decide +kernel
theorem dX12_over_63 : decode cX12_over 63 = .ok (.idiv, 1) := by decide +kernel
theorem dX12_over_64 : decode cX12_over 64 = .ok (.ireturn, 1) := by decide +kernel
