theorem upF_upF (F : Nat → Nat → Int) (a k : Nat) (x y : Int) : upF (upF F a k x) a k y = upF F a k y := by
  funext b j; unfold upF; split <;> rfl
theorem ct_throwsT {E : xE} {z : Nat} {T : Nat → Nat × Int} {F : Nat → Nat → Int} {I : Nat → Int → Int} {P : Nat → Nat → Option Nat} {Y : Nat → Int → Option Nat} {m : Nat} {w : Int → Int} (hw : wM T P m) {code : Int} : Ct E 0 mX12_throwsIf 0 0 [.ref m, J 1, J code] (z, T, F, upA I (m + 1) w, P, Y) (xd (some (J 1)) (z, T, upF F m 0 code, upA I (m + 1) (w), P, Y)) := ct_X12_throwsIf (b := true) hw
theorem ct_throwsF {E : xE} {z : Nat} {T : Nat → Nat × Int} {F : Nat → Nat → Int} {I : Nat → Int → Int} {P : Nat → Nat → Option Nat} {Y : Nat → Int → Option Nat} {m : Nat} {w : Int → Int} (hw : wM T P m) {code : Int} : Ct E 0 mX12_throwsIf 0 0 [.ref m, J 0, J code] (z, T, F, upA I (m + 1) w, P, Y) (xd (some (J 0)) (z, T, F, upA I (m + 1) w, P, Y)) := ct_X12_throwsIf (b := false) hw
section XSP
variable {E : xE} {M : xM} {R : Room} {X : xX} {pc : Nat} {L : List (Option Value)} {st : List Value} {h : xH} {c n : Nat}
theorem xg_bsplit {b : Bool} {x : Int} (kt : b = true → xG E M R X pc L (J x :: J 1 :: st) h c n) (kf : b = false → xG E M R X pc L (J x :: J 0 :: st) h c n) : xG E M R X pc L (J x :: J (bI b) :: st) h c n := by
  cases b with
  | true => exact kt rfl
  | false => exact kf rfl
theorem xg_dsplit {p : Prop} [Decidable p] {x : Int} (kt : p → xG E M R X pc L (J x :: J 1 :: st) h c n) (kf : ¬ p → xG E M R X pc L (J x :: J 0 :: st) h c n) : xG E M R X pc L (J x :: J (bI (decide p)) :: st) h c n :=
  xg_bsplit (fun q => kt (of_decide_eq_true q)) (fun q => kf (of_decide_eq_false q))
end XSP
theorem dX12_debt_0 : decode cX12_debt 0 = .ok (.aload_n 0, 1) := by decide +kernel
theorem dX12_debt_1 : decode cX12_debt 1 = .ok (.iconst 0, 1) := by decide +kernel
theorem dX12_debt_2 : decode cX12_debt 2 = .ok (.putfield 3, 3) := by decide +kernel
theorem dX12_debt_5 : decode cX12_debt 5 = .ok (.aload_n 0, 1) := by decide +kernel
theorem dX12_debt_6 : decode cX12_debt 6 = .ok (.invokevirtual 265, 3) := by decide +kernel
theorem dX12_debt_9 : decode cX12_debt 9 = .ok (.ireturn, 1) := by decide +kernel
set_option maxHeartbeats 4000000 in
set_option maxRecDepth 100000 in
theorem ct_X12_debt {E : xE} {z : Nat} {T : Nat → Nat × Int} {F : Nat → Nat → Int} {I : Nat → Int → Int} {P : Nat → Nat → Option Nat} {Y : Nat → Int → Option Nat} {m : Nat} {w : Int → Int} (hw : wM T P m) (hO : wOk w) : Ct E 5 mX12_debt 0 0 [.ref m] (z, T, F, upA I (m + 1) w, P, Y) (xd (some (J (sDebt w))) (z, T, upF F m 0 0, upA I (m + 1) (w), P, Y)) := by
  obtain ⟨⟨q0, q1, q2, q3⟩, -⟩ := id hw
  obtain ⟨hR, o0, o1, o2, o3, o4, o5, o6, oc, o13, o14, o16, o17, o18, ov⟩ := id hO
  have hN := wN_i o0.1
  refine Ct.of [some (.ref m)] kt_X12_debt rfl (Nat.le_of_ble_eq_true rfl) rfl (fun d hd => ?_)
  generalize hX : xN E _ _ _ = X
  refine xg_aloadn 1 dX12_debt_0 rfl rfl rfl ?_
  refine xg_iconst 2 dX12_debt_1 rfl ?_
  refine xg_putI 5 kf_RX12_3 dX12_debt_2 rfl (by assumption) ?_
  refine xg_aloadn 6 dX12_debt_5 rfl rfl rfl ?_
  refine xg_callV 9 12 [] _ kv_X12_debtNow ⟨_, _, rfl⟩ kl_RX12_265 dX12_debt_6 rfl (by assumption) (by omega) rfl rfl (Nat.le_of_ble_eq_true rfl) (by omega) ⟨Nat.le_refl _, Nat.le_refl _⟩ (ct_X12_debtNow hw hO) rfl ?_
  subst hX
  exact xg_ireturn dX12_debt_9 rfl ⟨Nat.le_refl _, Nat.le_refl _⟩ ⟨rfl, rfl⟩

theorem dX12_many_0 : decode cX12_many 0 = .ok (.aload_n 0, 1) := by decide +kernel
theorem dX12_many_1 : decode cX12_many 1 = .ok (.iconst 0, 1) := by decide +kernel
theorem dX12_many_2 : decode cX12_many 2 = .ok (.putfield 3, 3) := by decide +kernel
theorem dX12_many_5 : decode cX12_many 5 = .ok (.aload_n 0, 1) := by decide +kernel
theorem dX12_many_6 : decode cX12_many 6 = .ok (.invokevirtual 400, 3) := by decide +kernel
theorem dX12_many_9 : decode cX12_many 9 = .ok (.ireturn, 1) := by decide +kernel
set_option maxHeartbeats 4000000 in
set_option maxRecDepth 100000 in
theorem ct_X12_many {E : xE} {z : Nat} {T : Nat → Nat × Int} {F : Nat → Nat → Int} {I : Nat → Int → Int} {P : Nat → Nat → Option Nat} {Y : Nat → Int → Option Nat} {m : Nat} {w : Int → Int} (hw : wM T P m) (hO : wOk w) : Ct E 5 mX12_many 0 0 [.ref m] (z, T, F, upA I (m + 1) w, P, Y) (xd (some (J (sFndN w))) (z, T, upF F m 0 0, upA I (m + 1) (w), P, Y)) := by
  obtain ⟨⟨q0, q1, q2, q3⟩, -⟩ := id hw
  obtain ⟨hR, o0, o1, o2, o3, o4, o5, o6, oc, o13, o14, o16, o17, o18, ov⟩ := id hO
  have hN := wN_i o0.1
  refine Ct.of [some (.ref m)] kt_X12_many rfl (Nat.le_of_ble_eq_true rfl) rfl (fun d hd => ?_)
  generalize hX : xN E _ _ _ = X
  refine xg_aloadn 1 dX12_many_0 rfl rfl rfl ?_
  refine xg_iconst 2 dX12_many_1 rfl ?_
  refine xg_putI 5 kf_RX12_3 dX12_many_2 rfl (by assumption) ?_
  refine xg_aloadn 6 dX12_many_5 rfl rfl rfl ?_
  refine xg_callV 9 12 [] _ kv_X12_foundMany ⟨_, _, rfl⟩ kl_RX12_400 dX12_many_6 rfl (by assumption) (by omega) rfl rfl (Nat.le_of_ble_eq_true rfl) (by omega) ⟨Nat.le_refl _, Nat.le_refl _⟩ (ct_X12_foundMany hw hO) rfl ?_
  subst hX
  exact xg_ireturn dX12_many_9 rfl ⟨Nat.le_refl _, Nat.le_refl _⟩ ⟨rfl, rfl⟩

theorem dX12_slice_0 : decode cX12_slice 0 = .ok (.aload_n 0, 1) := by decide +kernel
theorem dX12_slice_1 : decode cX12_slice 1 = .ok (.iconst 0, 1) := by decide +kernel
theorem dX12_slice_2 : decode cX12_slice 2 = .ok (.putfield 3, 3) := by decide +kernel
theorem dX12_slice_5 : decode cX12_slice 5 = .ok (.aload_n 0, 1) := by decide +kernel
theorem dX12_slice_6 : decode cX12_slice 6 = .ok (.invokevirtual 340, 3) := by decide +kernel
theorem dX12_slice_9 : decode cX12_slice 9 = .ok (.ireturn, 1) := by decide +kernel
set_option maxHeartbeats 4000000 in
set_option maxRecDepth 100000 in
theorem ct_X12_slice {E : xE} {z : Nat} {T : Nat → Nat × Int} {F : Nat → Nat → Int} {I : Nat → Int → Int} {P : Nat → Nat → Option Nat} {Y : Nat → Int → Option Nat} {m : Nat} {w : Int → Int} (hw : wM T P m) (hO : wOk w) (hL : wLw w) : Ct E 9 mX12_slice 0 0 [.ref m] (z, T, F, upA I (m + 1) w, P, Y) (xs m (some (J (sSlice w))) z T (upF F m 0 0) I (w) P Y) := by
  obtain ⟨⟨q0, q1, q2, q3⟩, -⟩ := id hw
  obtain ⟨hR, o0, o1, o2, o3, o4, o5, o6, oc, o13, o14, o16, o17, o18, ov⟩ := id hO
  have hN := wN_i o0.1
  refine Ct.of [some (.ref m)] kt_X12_slice rfl (Nat.le_of_ble_eq_true rfl) rfl (fun d hd => ?_)
  generalize hX : xN E _ _ _ = X
  refine xg_aloadn 1 dX12_slice_0 rfl rfl rfl ?_
  refine xg_iconst 2 dX12_slice_1 rfl ?_
  refine xg_putI 5 kf_RX12_3 dX12_slice_2 rfl (by assumption) ?_
  refine xg_aloadn 6 dX12_slice_5 rfl rfl rfl ?_
  refine xg_callVs 9 12 [] _ kv_X12_sliceNow ⟨_, _, rfl⟩ kl_RX12_340 dX12_slice_6 rfl (by assumption) (by omega) rfl rfl (Nat.le_of_ble_eq_true rfl) (by omega) ⟨Nat.le_refl _, Nat.le_refl _⟩ (ct_X12_sliceNow hw hO hL) rfl (fun Ib hIb => ?_)
  subst hX
  exact xg_ireturn dX12_slice_9 rfl ⟨Nat.le_refl _, Nat.le_refl _⟩ ⟨rfl, Ib, hIb, rfl⟩

theorem dX12_get_0 : decode cX12_get 0 = .ok (.aload_n 0, 1) := by decide +kernel
theorem dX12_get_1 : decode cX12_get 1 = .ok (.iconst 0, 1) := by decide +kernel
theorem dX12_get_2 : decode cX12_get 2 = .ok (.putfield 3, 3) := by decide +kernel
theorem dX12_get_5 : decode cX12_get 5 = .ok (.aload_n 0, 1) := by decide +kernel
theorem dX12_get_6 : decode cX12_get 6 = .ok (.iload_n 1, 1) := by decide +kernel
theorem dX12_get_7 : decode cX12_get 7 = .ok (.invokestatic 388, 3) := by decide +kernel
theorem dX12_get_10 : decode cX12_get 10 = .ok (.iconst 1, 1) := by decide +kernel
theorem dX12_get_11 : decode cX12_get 11 = .ok (.invokevirtual 251, 3) := by decide +kernel
theorem dX12_get_14 : decode cX12_get 14 = .ok (.ifCond .eq 7, 3) := by decide +kernel
theorem dX12_get_17 : decode cX12_get 17 = .ok (.iconst 0, 1) := by decide +kernel
theorem dX12_get_18 : decode cX12_get 18 = .ok (.goto 8, 3) := by decide +kernel
theorem dX12_get_21 : decode cX12_get 21 = .ok (.aload_n 0, 1) := by decide +kernel
theorem dX12_get_22 : decode cX12_get 22 = .ok (.iload_n 1, 1) := by decide +kernel
theorem dX12_get_23 : decode cX12_get 23 = .ok (.invokevirtual 394, 3) := by decide +kernel
theorem dX12_get_26 : decode cX12_get 26 = .ok (.ireturn, 1) := by decide +kernel
set_option maxHeartbeats 4000000 in
set_option maxRecDepth 100000 in
theorem ct_X12_get_t1 {E : xE} {z : Nat} {T : Nat → Nat × Int} {F : Nat → Nat → Int} {I : Nat → Int → Int} {P : Nat → Nat → Option Nat} {Y : Nat → Int → Option Nat} {m : Nat} {w : Int → Int} (hw : wM T P m) (hO : wOk w){v : Int} (hv : -2147483648 ≤ v ∧ v < 2147483648) (hb : ¬ (0 ≤ v ∧ v < 60)) : Ct E 4 mX12_get 0 0 [.ref m, J v] (z, T, F, upA I (m + 1) w, P, Y) (xd (some (J 0)) (z, T, upF F m 0 1, upA I (m + 1) (w), P, Y)) := by
  obtain ⟨⟨q0, q1, q2, q3⟩, -⟩ := id hw
  obtain ⟨hR, o0, o1, o2, o3, o4, o5, o6, oc, o13, o14, o16, o17, o18, ov⟩ := id hO
  have hN := wN_i o0.1
  refine Ct.of [some (.ref m), some (J v)] kt_X12_get rfl (Nat.le_of_ble_eq_true rfl) rfl (fun d hd => ?_)
  generalize hX : xN E _ _ _ = X
  refine xg_aloadn 1 dX12_get_0 rfl rfl rfl ?_
  refine xg_iconst 2 dX12_get_1 rfl ?_
  refine xg_putI 5 kf_RX12_3 dX12_get_2 rfl (by assumption) ?_
  refine xg_aloadn 6 dX12_get_5 rfl rfl rfl ?_
  refine xg_iloadn 7 dX12_get_6 rfl rfl rfl ?_
  refine xg_callS 10 [_] _ ks_X12_noKey kl_RX12_388 dX12_get_7 rfl rfl rfl (Nat.le_of_ble_eq_true rfl) (by omega) ⟨Nat.le_refl _, Nat.le_refl _⟩ (ct_X12_noKey (by omega)) rfl ?_
  refine xg_iconst 11 dX12_get_10 rfl ?_
  refine xg_dsplit (fun hb11 => ?_) (fun hb11 => ?_)
  · first
    | (exfalso; omega)
    | skip
      refine xg_callV 14 12 [_, _] _ kv_X12_throwsIf ⟨_, _, rfl⟩ kl_RX12_251 dX12_get_11 rfl (by assumption) (by omega) rfl rfl (Nat.le_of_ble_eq_true rfl) (by omega) ⟨Nat.le_refl _, Nat.le_refl _⟩ (ct_throwsT hw) rfl ?_
      refine xg_ifeq 21 17 dX12_get_14 rfl rfl (by first | omega | exact hR _ | exact ⟨hR _, by omega⟩ | exact ⟨by omega, hR _⟩ | exact ⟨hR _, hR _⟩) (fun hb14 => ?_) (fun hb14 => ?_)
      · exfalso; omega
      · skip
        refine xg_iconst 18 dX12_get_17 rfl ?_
        refine xg_goto 26 dX12_get_18 rfl ?_
        subst hX
        exact xg_ireturn dX12_get_26 rfl ⟨Nat.le_refl _, Nat.le_refl _⟩ ⟨rfl, by rw [upF_upF]⟩
  · first
    | (exfalso; omega)
    | skip
      refine xg_callV 14 12 [_, _] _ kv_X12_throwsIf ⟨_, _, rfl⟩ kl_RX12_251 dX12_get_11 rfl (by assumption) (by omega) rfl rfl (Nat.le_of_ble_eq_true rfl) (by omega) ⟨Nat.le_refl _, Nat.le_refl _⟩ (ct_throwsF hw) rfl ?_
      refine xg_ifeq 21 17 dX12_get_14 rfl rfl (by first | omega | exact hR _ | exact ⟨hR _, by omega⟩ | exact ⟨by omega, hR _⟩ | exact ⟨hR _, hR _⟩) (fun hb14 => ?_) (fun hb14 => ?_)
      · skip
        refine xg_aloadn 22 dX12_get_21 rfl rfl rfl ?_
        refine xg_iloadn 23 dX12_get_22 rfl rfl rfl ?_
        refine xg_callV 26 12 [_] _ kv_X12_found ⟨_, _, rfl⟩ kl_RX12_394 dX12_get_23 rfl (by assumption) (by omega) rfl rfl (Nat.le_of_ble_eq_true rfl) (by omega) ⟨Nat.le_refl _, Nat.le_refl _⟩ (ct_X12_found hw hO (by omega)) rfl ?_
        subst hX
        exact xg_ireturn dX12_get_26 rfl ⟨Nat.le_refl _, Nat.le_refl _⟩ ⟨rfl, by rw [upF_upF]⟩
      · exfalso; omega

set_option maxHeartbeats 4000000 in
set_option maxRecDepth 100000 in
theorem ct_X12_get {E : xE} {z : Nat} {T : Nat → Nat × Int} {F : Nat → Nat → Int} {I : Nat → Int → Int} {P : Nat → Nat → Option Nat} {Y : Nat → Int → Option Nat} {m : Nat} {w : Int → Int} (hw : wM T P m) (hO : wOk w){v : Int} (hv : -2147483648 ≤ v ∧ v < 2147483648) (hb : 0 ≤ v ∧ v < 60) : Ct E 4 mX12_get 0 0 [.ref m, J v] (z, T, F, upA I (m + 1) w, P, Y) (xd (some (J (sFnd w v))) (z, T, upF F m 0 0, upA I (m + 1) (w), P, Y)) := by
  obtain ⟨⟨q0, q1, q2, q3⟩, -⟩ := id hw
  obtain ⟨hR, o0, o1, o2, o3, o4, o5, o6, oc, o13, o14, o16, o17, o18, ov⟩ := id hO
  have hN := wN_i o0.1
  refine Ct.of [some (.ref m), some (J v)] kt_X12_get rfl (Nat.le_of_ble_eq_true rfl) rfl (fun d hd => ?_)
  generalize hX : xN E _ _ _ = X
  refine xg_aloadn 1 dX12_get_0 rfl rfl rfl ?_
  refine xg_iconst 2 dX12_get_1 rfl ?_
  refine xg_putI 5 kf_RX12_3 dX12_get_2 rfl (by assumption) ?_
  refine xg_aloadn 6 dX12_get_5 rfl rfl rfl ?_
  refine xg_iloadn 7 dX12_get_6 rfl rfl rfl ?_
  refine xg_callS 10 [_] _ ks_X12_noKey kl_RX12_388 dX12_get_7 rfl rfl rfl (Nat.le_of_ble_eq_true rfl) (by omega) ⟨Nat.le_refl _, Nat.le_refl _⟩ (ct_X12_noKey (by omega)) rfl ?_
  refine xg_iconst 11 dX12_get_10 rfl ?_
  refine xg_dsplit (fun hb11 => ?_) (fun hb11 => ?_)
  · first
    | (exfalso; omega)
    | skip
      refine xg_callV 14 12 [_, _] _ kv_X12_throwsIf ⟨_, _, rfl⟩ kl_RX12_251 dX12_get_11 rfl (by assumption) (by omega) rfl rfl (Nat.le_of_ble_eq_true rfl) (by omega) ⟨Nat.le_refl _, Nat.le_refl _⟩ (ct_throwsT hw) rfl ?_
      refine xg_ifeq 21 17 dX12_get_14 rfl rfl (by first | omega | exact hR _ | exact ⟨hR _, by omega⟩ | exact ⟨by omega, hR _⟩ | exact ⟨hR _, hR _⟩) (fun hb14 => ?_) (fun hb14 => ?_)
      · exfalso; omega
      · skip
        refine xg_iconst 18 dX12_get_17 rfl ?_
        refine xg_goto 26 dX12_get_18 rfl ?_
        subst hX
        exact xg_ireturn dX12_get_26 rfl ⟨Nat.le_refl _, Nat.le_refl _⟩ ⟨rfl, rfl⟩
  · first
    | (exfalso; omega)
    | skip
      refine xg_callV 14 12 [_, _] _ kv_X12_throwsIf ⟨_, _, rfl⟩ kl_RX12_251 dX12_get_11 rfl (by assumption) (by omega) rfl rfl (Nat.le_of_ble_eq_true rfl) (by omega) ⟨Nat.le_refl _, Nat.le_refl _⟩ (ct_throwsF hw) rfl ?_
      refine xg_ifeq 21 17 dX12_get_14 rfl rfl (by first | omega | exact hR _ | exact ⟨hR _, by omega⟩ | exact ⟨by omega, hR _⟩ | exact ⟨hR _, hR _⟩) (fun hb14 => ?_) (fun hb14 => ?_)
      · skip
        refine xg_aloadn 22 dX12_get_21 rfl rfl rfl ?_
        refine xg_iloadn 23 dX12_get_22 rfl rfl rfl ?_
        refine xg_callV 26 12 [_] _ kv_X12_found ⟨_, _, rfl⟩ kl_RX12_394 dX12_get_23 rfl (by assumption) (by omega) rfl rfl (Nat.le_of_ble_eq_true rfl) (by omega) ⟨Nat.le_refl _, Nat.le_refl _⟩ (ct_X12_found hw hO (by omega)) rfl ?_
        subst hX
        exact xg_ireturn dX12_get_26 rfl ⟨Nat.le_refl _, Nat.le_refl _⟩ ⟨rfl, rfl⟩
      · exfalso; omega

theorem dX12_looks_0 : decode cX12_looks 0 = .ok (.aload_n 0, 1) := by decide +kernel
theorem dX12_looks_1 : decode cX12_looks 1 = .ok (.iconst 0, 1) := by decide +kernel
theorem dX12_looks_2 : decode cX12_looks 2 = .ok (.putfield 3, 3) := by decide +kernel
theorem dX12_looks_5 : decode cX12_looks 5 = .ok (.aload_n 0, 1) := by decide +kernel
theorem dX12_looks_6 : decode cX12_looks 6 = .ok (.iload_n 1, 1) := by decide +kernel
theorem dX12_looks_7 : decode cX12_looks 7 = .ok (.invokestatic 388, 3) := by decide +kernel
theorem dX12_looks_10 : decode cX12_looks 10 = .ok (.iconst 1, 1) := by decide +kernel
theorem dX12_looks_11 : decode cX12_looks 11 = .ok (.invokevirtual 251, 3) := by decide +kernel
theorem dX12_looks_14 : decode cX12_looks 14 = .ok (.ifCond .eq 7, 3) := by decide +kernel
theorem dX12_looks_17 : decode cX12_looks 17 = .ok (.iconst 0, 1) := by decide +kernel
theorem dX12_looks_18 : decode cX12_looks 18 = .ok (.goto 8, 3) := by decide +kernel
theorem dX12_looks_21 : decode cX12_looks 21 = .ok (.aload_n 0, 1) := by decide +kernel
theorem dX12_looks_22 : decode cX12_looks 22 = .ok (.iload_n 1, 1) := by decide +kernel
theorem dX12_looks_23 : decode cX12_looks 23 = .ok (.invokevirtual 397, 3) := by decide +kernel
theorem dX12_looks_26 : decode cX12_looks 26 = .ok (.ireturn, 1) := by decide +kernel
set_option maxHeartbeats 4000000 in
set_option maxRecDepth 100000 in
theorem ct_X12_looks_t1 {E : xE} {z : Nat} {T : Nat → Nat × Int} {F : Nat → Nat → Int} {I : Nat → Int → Int} {P : Nat → Nat → Option Nat} {Y : Nat → Int → Option Nat} {m : Nat} {w : Int → Int} (hw : wM T P m) (hO : wOk w){v : Int} (hv : -2147483648 ≤ v ∧ v < 2147483648) (hb : ¬ (0 ≤ v ∧ v < 60)) : Ct E 4 mX12_looks 0 0 [.ref m, J v] (z, T, F, upA I (m + 1) w, P, Y) (xd (some (J 0)) (z, T, upF F m 0 1, upA I (m + 1) (w), P, Y)) := by
  obtain ⟨⟨q0, q1, q2, q3⟩, -⟩ := id hw
  obtain ⟨hR, o0, o1, o2, o3, o4, o5, o6, oc, o13, o14, o16, o17, o18, ov⟩ := id hO
  have hN := wN_i o0.1
  refine Ct.of [some (.ref m), some (J v)] kt_X12_looks rfl (Nat.le_of_ble_eq_true rfl) rfl (fun d hd => ?_)
  generalize hX : xN E _ _ _ = X
  refine xg_aloadn 1 dX12_looks_0 rfl rfl rfl ?_
  refine xg_iconst 2 dX12_looks_1 rfl ?_
  refine xg_putI 5 kf_RX12_3 dX12_looks_2 rfl (by assumption) ?_
  refine xg_aloadn 6 dX12_looks_5 rfl rfl rfl ?_
  refine xg_iloadn 7 dX12_looks_6 rfl rfl rfl ?_
  refine xg_callS 10 [_] _ ks_X12_noKey kl_RX12_388 dX12_looks_7 rfl rfl rfl (Nat.le_of_ble_eq_true rfl) (by omega) ⟨Nat.le_refl _, Nat.le_refl _⟩ (ct_X12_noKey (by omega)) rfl ?_
  refine xg_iconst 11 dX12_looks_10 rfl ?_
  refine xg_dsplit (fun hb11 => ?_) (fun hb11 => ?_)
  · first
    | (exfalso; omega)
    | skip
      refine xg_callV 14 12 [_, _] _ kv_X12_throwsIf ⟨_, _, rfl⟩ kl_RX12_251 dX12_looks_11 rfl (by assumption) (by omega) rfl rfl (Nat.le_of_ble_eq_true rfl) (by omega) ⟨Nat.le_refl _, Nat.le_refl _⟩ (ct_throwsT hw) rfl ?_
      refine xg_ifeq 21 17 dX12_looks_14 rfl rfl (by first | omega | exact hR _ | exact ⟨hR _, by omega⟩ | exact ⟨by omega, hR _⟩ | exact ⟨hR _, hR _⟩) (fun hb14 => ?_) (fun hb14 => ?_)
      · exfalso; omega
      · skip
        refine xg_iconst 18 dX12_looks_17 rfl ?_
        refine xg_goto 26 dX12_looks_18 rfl ?_
        subst hX
        exact xg_ireturn dX12_looks_26 rfl ⟨Nat.le_refl _, Nat.le_refl _⟩ ⟨rfl, by rw [upF_upF]⟩
  · first
    | (exfalso; omega)
    | skip
      refine xg_callV 14 12 [_, _] _ kv_X12_throwsIf ⟨_, _, rfl⟩ kl_RX12_251 dX12_looks_11 rfl (by assumption) (by omega) rfl rfl (Nat.le_of_ble_eq_true rfl) (by omega) ⟨Nat.le_refl _, Nat.le_refl _⟩ (ct_throwsF hw) rfl ?_
      refine xg_ifeq 21 17 dX12_looks_14 rfl rfl (by first | omega | exact hR _ | exact ⟨hR _, by omega⟩ | exact ⟨by omega, hR _⟩ | exact ⟨hR _, hR _⟩) (fun hb14 => ?_) (fun hb14 => ?_)
      · skip
        refine xg_aloadn 22 dX12_looks_21 rfl rfl rfl ?_
        refine xg_iloadn 23 dX12_looks_22 rfl rfl rfl ?_
        refine xg_callV 26 12 [_] _ kv_X12_took ⟨_, _, rfl⟩ kl_RX12_397 dX12_looks_23 rfl (by assumption) (by omega) rfl rfl (Nat.le_of_ble_eq_true rfl) (by omega) ⟨Nat.le_refl _, Nat.le_refl _⟩ (ct_X12_took hw hO (by omega)) rfl ?_
        subst hX
        exact xg_ireturn dX12_looks_26 rfl ⟨Nat.le_refl _, Nat.le_refl _⟩ ⟨rfl, by rw [upF_upF]⟩
      · exfalso; omega

set_option maxHeartbeats 4000000 in
set_option maxRecDepth 100000 in
theorem ct_X12_looks {E : xE} {z : Nat} {T : Nat → Nat × Int} {F : Nat → Nat → Int} {I : Nat → Int → Int} {P : Nat → Nat → Option Nat} {Y : Nat → Int → Option Nat} {m : Nat} {w : Int → Int} (hw : wM T P m) (hO : wOk w){v : Int} (hv : -2147483648 ≤ v ∧ v < 2147483648) (hb : 0 ≤ v ∧ v < 60) : Ct E 4 mX12_looks 0 0 [.ref m, J v] (z, T, F, upA I (m + 1) w, P, Y) (xd (some (J (sTook w v))) (z, T, upF F m 0 0, upA I (m + 1) (w), P, Y)) := by
  obtain ⟨⟨q0, q1, q2, q3⟩, -⟩ := id hw
  obtain ⟨hR, o0, o1, o2, o3, o4, o5, o6, oc, o13, o14, o16, o17, o18, ov⟩ := id hO
  have hN := wN_i o0.1
  refine Ct.of [some (.ref m), some (J v)] kt_X12_looks rfl (Nat.le_of_ble_eq_true rfl) rfl (fun d hd => ?_)
  generalize hX : xN E _ _ _ = X
  refine xg_aloadn 1 dX12_looks_0 rfl rfl rfl ?_
  refine xg_iconst 2 dX12_looks_1 rfl ?_
  refine xg_putI 5 kf_RX12_3 dX12_looks_2 rfl (by assumption) ?_
  refine xg_aloadn 6 dX12_looks_5 rfl rfl rfl ?_
  refine xg_iloadn 7 dX12_looks_6 rfl rfl rfl ?_
  refine xg_callS 10 [_] _ ks_X12_noKey kl_RX12_388 dX12_looks_7 rfl rfl rfl (Nat.le_of_ble_eq_true rfl) (by omega) ⟨Nat.le_refl _, Nat.le_refl _⟩ (ct_X12_noKey (by omega)) rfl ?_
  refine xg_iconst 11 dX12_looks_10 rfl ?_
  refine xg_dsplit (fun hb11 => ?_) (fun hb11 => ?_)
  · first
    | (exfalso; omega)
    | skip
      refine xg_callV 14 12 [_, _] _ kv_X12_throwsIf ⟨_, _, rfl⟩ kl_RX12_251 dX12_looks_11 rfl (by assumption) (by omega) rfl rfl (Nat.le_of_ble_eq_true rfl) (by omega) ⟨Nat.le_refl _, Nat.le_refl _⟩ (ct_throwsT hw) rfl ?_
      refine xg_ifeq 21 17 dX12_looks_14 rfl rfl (by first | omega | exact hR _ | exact ⟨hR _, by omega⟩ | exact ⟨by omega, hR _⟩ | exact ⟨hR _, hR _⟩) (fun hb14 => ?_) (fun hb14 => ?_)
      · exfalso; omega
      · skip
        refine xg_iconst 18 dX12_looks_17 rfl ?_
        refine xg_goto 26 dX12_looks_18 rfl ?_
        subst hX
        exact xg_ireturn dX12_looks_26 rfl ⟨Nat.le_refl _, Nat.le_refl _⟩ ⟨rfl, rfl⟩
  · first
    | (exfalso; omega)
    | skip
      refine xg_callV 14 12 [_, _] _ kv_X12_throwsIf ⟨_, _, rfl⟩ kl_RX12_251 dX12_looks_11 rfl (by assumption) (by omega) rfl rfl (Nat.le_of_ble_eq_true rfl) (by omega) ⟨Nat.le_refl _, Nat.le_refl _⟩ (ct_throwsF hw) rfl ?_
      refine xg_ifeq 21 17 dX12_looks_14 rfl rfl (by first | omega | exact hR _ | exact ⟨hR _, by omega⟩ | exact ⟨by omega, hR _⟩ | exact ⟨hR _, hR _⟩) (fun hb14 => ?_) (fun hb14 => ?_)
      · skip
        refine xg_aloadn 22 dX12_looks_21 rfl rfl rfl ?_
        refine xg_iloadn 23 dX12_looks_22 rfl rfl rfl ?_
        refine xg_callV 26 12 [_] _ kv_X12_took ⟨_, _, rfl⟩ kl_RX12_397 dX12_looks_23 rfl (by assumption) (by omega) rfl rfl (Nat.le_of_ble_eq_true rfl) (by omega) ⟨Nat.le_refl _, Nat.le_refl _⟩ (ct_X12_took hw hO (by omega)) rfl ?_
        subst hX
        exact xg_ireturn dX12_looks_26 rfl ⟨Nat.le_refl _, Nat.le_refl _⟩ ⟨rfl, rfl⟩
      · exfalso; omega

theorem dX12_run_0 : decode cX12_run 0 = .ok (.aload_n 0, 1) := by decide +kernel
theorem dX12_run_1 : decode cX12_run 1 = .ok (.iconst 0, 1) := by decide +kernel
theorem dX12_run_2 : decode cX12_run 2 = .ok (.putfield 3, 3) := by decide +kernel
theorem dX12_run_5 : decode cX12_run 5 = .ok (.aload_n 0, 1) := by decide +kernel
theorem dX12_run_6 : decode cX12_run 6 = .ok (.aload_n 0, 1) := by decide +kernel
theorem dX12_run_7 : decode cX12_run 7 = .ok (.iload_n 1, 1) := by decide +kernel
theorem dX12_run_8 : decode cX12_run 8 = .ok (.invokevirtual 373, 3) := by decide +kernel
theorem dX12_run_11 : decode cX12_run 11 = .ok (.iconst 1, 1) := by decide +kernel
theorem dX12_run_12 : decode cX12_run 12 = .ok (.invokevirtual 251, 3) := by decide +kernel
theorem dX12_run_15 : decode cX12_run 15 = .ok (.ifCond .ne 25, 3) := by decide +kernel
theorem dX12_run_18 : decode cX12_run 18 = .ok (.aload_n 0, 1) := by decide +kernel
theorem dX12_run_19 : decode cX12_run 19 = .ok (.iload_n 2, 1) := by decide +kernel
theorem dX12_run_20 : decode cX12_run 20 = .ok (.iconst 0, 1) := by decide +kernel
theorem dX12_run_21 : decode cX12_run 21 = .ok (.iconst 4, 1) := by decide +kernel
theorem dX12_run_22 : decode cX12_run 22 = .ok (.invokestatic 70, 3) := by decide +kernel
theorem dX12_run_25 : decode cX12_run 25 = .ok (.ifCond .ne 7, 3) := by decide +kernel
theorem dX12_run_28 : decode cX12_run 28 = .ok (.iconst 1, 1) := by decide +kernel
theorem dX12_run_29 : decode cX12_run 29 = .ok (.goto 4, 3) := by decide +kernel
theorem dX12_run_32 : decode cX12_run 32 = .ok (.iconst 0, 1) := by decide +kernel
theorem dX12_run_33 : decode cX12_run 33 = .ok (.iconst 2, 1) := by decide +kernel
theorem dX12_run_34 : decode cX12_run 34 = .ok (.invokevirtual 251, 3) := by decide +kernel
theorem dX12_run_37 : decode cX12_run 37 = .ok (.ifCond .eq 5, 3) := by decide +kernel
theorem dX12_run_40 : decode cX12_run 40 = .ok (.iconst 0, 1) := by decide +kernel
theorem dX12_run_41 : decode cX12_run 41 = .ok (.ireturn, 1) := by decide +kernel
theorem dX12_run_42 : decode cX12_run 42 = .ok (.iload_n 2, 1) := by decide +kernel
theorem dX12_run_43 : decode cX12_run 43 = .ok (.tableswitch 64 0 3 #[29, 35, 44, 50], 29) := by decide +kernel
theorem dX12_run_72 : decode cX12_run 72 = .ok (.aload_n 0, 1) := by decide +kernel
theorem dX12_run_73 : decode cX12_run 73 = .ok (.iload_n 1, 1) := by decide +kernel
theorem dX12_run_74 : decode cX12_run 74 = .ok (.invokevirtual 120, 3) := by decide +kernel
theorem dX12_run_77 : decode cX12_run 77 = .ok (.ireturn, 1) := by decide +kernel
theorem dX12_run_78 : decode cX12_run 78 = .ok (.aload_n 0, 1) := by decide +kernel
theorem dX12_run_79 : decode cX12_run 79 = .ok (.iload_n 1, 1) := by decide +kernel
theorem dX12_run_80 : decode cX12_run 80 = .ok (.invokestatic 133, 3) := by decide +kernel
theorem dX12_run_83 : decode cX12_run 83 = .ok (.invokevirtual 268, 3) := by decide +kernel
theorem dX12_run_86 : decode cX12_run 86 = .ok (.ireturn, 1) := by decide +kernel
theorem dX12_run_87 : decode cX12_run 87 = .ok (.aload_n 0, 1) := by decide +kernel
theorem dX12_run_88 : decode cX12_run 88 = .ok (.iload_n 1, 1) := by decide +kernel
theorem dX12_run_89 : decode cX12_run 89 = .ok (.invokevirtual 376, 3) := by decide +kernel
theorem dX12_run_92 : decode cX12_run 92 = .ok (.ireturn, 1) := by decide +kernel
theorem dX12_run_93 : decode cX12_run 93 = .ok (.aload_n 0, 1) := by decide +kernel
theorem dX12_run_94 : decode cX12_run 94 = .ok (.iload_n 1, 1) := by decide +kernel
theorem dX12_run_95 : decode cX12_run 95 = .ok (.invokevirtual 290, 3) := by decide +kernel
theorem dX12_run_98 : decode cX12_run 98 = .ok (.ifCond .eq 7, 3) := by decide +kernel
theorem dX12_run_101 : decode cX12_run 101 = .ok (.iconst 1, 1) := by decide +kernel
theorem dX12_run_102 : decode cX12_run 102 = .ok (.goto 4, 3) := by decide +kernel
theorem dX12_run_105 : decode cX12_run 105 = .ok (.iconst 0, 1) := by decide +kernel
theorem dX12_run_106 : decode cX12_run 106 = .ok (.ireturn, 1) := by decide +kernel
theorem dX12_run_107 : decode cX12_run 107 = .ok (.bipush 100, 2) := by decide +kernel
theorem dX12_run_109 : decode cX12_run 109 = .ok (.aload_n 0, 1) := by decide +kernel
theorem dX12_run_110 : decode cX12_run 110 = .ok (.iload_n 1, 1) := by decide +kernel
theorem dX12_run_111 : decode cX12_run 111 = .ok (.invokestatic 133, 3) := by decide +kernel
theorem dX12_run_114 : decode cX12_run 114 = .ok (.invokevirtual 268, 3) := by decide +kernel
theorem dX12_run_117 : decode cX12_run 117 = .ok (.imul, 1) := by decide +kernel
theorem dX12_run_118 : decode cX12_run 118 = .ok (.aload_n 0, 1) := by decide +kernel
theorem dX12_run_119 : decode cX12_run 119 = .ok (.invokevirtual 379, 3) := by decide +kernel
theorem dX12_run_122 : decode cX12_run 122 = .ok (.idiv, 1) := by decide +kernel
theorem dX12_run_123 : decode cX12_run 123 = .ok (.ireturn, 1) := by decide +kernel
set_option maxHeartbeats 4000000 in
set_option maxRecDepth 100000 in
theorem ct_X12_run_t1 {E : xE} {z : Nat} {T : Nat → Nat × Int} {F : Nat → Nat → Int} {I : Nat → Int → Int} {P : Nat → Nat → Option Nat} {Y : Nat → Int → Option Nat} {m : Nat} {w : Int → Int} (hw : wM T P m) (hO : wOk w){v x : Int} (hv : -2147483648 ≤ v ∧ v < 2147483648) (hx : -2147483648 ≤ x ∧ x < 2147483648) (hb : ¬ (0 ≤ v ∧ v < w 0)) : Ct E 2 mX12_run 0 0 [.ref m, J v, J x] (z, T, F, upA I (m + 1) w, P, Y) (xd (some (J 0)) (z, T, upF F m 0 1, upA I (m + 1) (w), P, Y)) := by
  obtain ⟨⟨q0, q1, q2, q3⟩, -⟩ := id hw
  obtain ⟨hR, o0, o1, o2, o3, o4, o5, o6, oc, o13, o14, o16, o17, o18, ov⟩ := id hO
  have hN := wN_i o0.1
  refine Ct.of [some (.ref m), some (J v), some (J x)] kt_X12_run rfl (Nat.le_of_ble_eq_true rfl) rfl (fun d hd => ?_)
  generalize hX : xN E _ _ _ = X
  refine xg_aloadn 1 dX12_run_0 rfl rfl rfl ?_
  refine xg_iconst 2 dX12_run_1 rfl ?_
  refine xg_putI 5 kf_RX12_3 dX12_run_2 rfl (by assumption) ?_
  refine xg_aloadn 6 dX12_run_5 rfl rfl rfl ?_
  refine xg_aloadn 7 dX12_run_6 rfl rfl rfl ?_
  refine xg_iloadn 8 dX12_run_7 rfl rfl rfl ?_
  refine xg_callV 11 12 [_] _ kv_X12_noRun ⟨_, _, rfl⟩ kl_RX12_373 dX12_run_8 rfl (by assumption) (by omega) rfl rfl (Nat.le_of_ble_eq_true rfl) (by omega) ⟨Nat.le_refl _, Nat.le_refl _⟩ (ct_X12_noRun hw o0 (by omega)) rfl ?_
  refine xg_iconst 12 dX12_run_11 rfl ?_
  refine xg_dsplit (fun hb12 => ?_) (fun hb12 => ?_)
  · first
    | (exfalso; omega)
    | skip
      refine xg_callV 15 12 [_, _] _ kv_X12_throwsIf ⟨_, _, rfl⟩ kl_RX12_251 dX12_run_12 rfl (by assumption) (by omega) rfl rfl (Nat.le_of_ble_eq_true rfl) (by omega) ⟨Nat.le_refl _, Nat.le_refl _⟩ (ct_throwsT hw) rfl ?_
      refine xg_ifne 40 18 dX12_run_15 rfl rfl (by first | omega | exact hR _ | exact ⟨hR _, by omega⟩ | exact ⟨by omega, hR _⟩ | exact ⟨hR _, hR _⟩) (fun hb15 => ?_) (fun hb15 => ?_)
      · skip
        refine xg_iconst 41 dX12_run_40 rfl ?_
        subst hX
        exact xg_ireturn dX12_run_41 rfl ⟨Nat.le_refl _, Nat.le_refl _⟩ ⟨rfl, by rw [upF_upF]⟩
      · exfalso; omega
  · first
    | (exfalso; omega)
    | skip
      refine xg_callV 15 12 [_, _] _ kv_X12_throwsIf ⟨_, _, rfl⟩ kl_RX12_251 dX12_run_12 rfl (by assumption) (by omega) rfl rfl (Nat.le_of_ble_eq_true rfl) (by omega) ⟨Nat.le_refl _, Nat.le_refl _⟩ (ct_throwsF hw) rfl ?_
      refine xg_ifne 40 18 dX12_run_15 rfl rfl (by first | omega | exact hR _ | exact ⟨hR _, by omega⟩ | exact ⟨by omega, hR _⟩ | exact ⟨hR _, hR _⟩) (fun hb15 => ?_) (fun hb15 => ?_)
      · exfalso; omega
      · skip
        refine xg_aloadn 19 dX12_run_18 rfl rfl rfl ?_
        refine xg_iloadn 20 dX12_run_19 rfl rfl rfl ?_
        refine xg_iconst 21 dX12_run_20 rfl ?_
        refine xg_iconst 22 dX12_run_21 rfl ?_
        refine xg_callS 25 [_, _, _] _ ks_X12_in kl_RX12_70 dX12_run_22 rfl rfl rfl (Nat.le_of_ble_eq_true rfl) (by omega) ⟨Nat.le_refl _, Nat.le_refl _⟩ (ct_X12_in (by omega)) rfl ?_
        refine xg_dne 32 28 dX12_run_25 rfl rfl (fun hb25 => ?_) (fun hb25 => ?_)
        · first
          | (exfalso; omega)
          | skip
            refine xg_iconst 33 dX12_run_32 rfl ?_
            refine xg_iconst 34 dX12_run_33 rfl ?_
            refine xg_callV 37 12 [_, _] _ kv_X12_throwsIf ⟨_, _, rfl⟩ kl_RX12_251 dX12_run_34 rfl (by assumption) (by omega) rfl rfl (Nat.le_of_ble_eq_true rfl) (by omega) ⟨Nat.le_refl _, Nat.le_refl _⟩ (ct_throwsF hw) rfl ?_
            refine xg_ifeq 42 40 dX12_run_37 rfl rfl (by first | omega | exact hR _ | exact ⟨hR _, by omega⟩ | exact ⟨by omega, hR _⟩ | exact ⟨hR _, hR _⟩) (fun hb37 => ?_) (fun hb37 => ?_)
            · skip
              exfalso; omega
            · exfalso; omega
        · first
          | (exfalso; omega)
          | skip
            refine xg_iconst 29 dX12_run_28 rfl ?_
            refine xg_goto 33 dX12_run_29 rfl ?_
            refine xg_iconst 34 dX12_run_33 rfl ?_
            refine xg_callV 37 12 [_, _] _ kv_X12_throwsIf ⟨_, _, rfl⟩ kl_RX12_251 dX12_run_34 rfl (by assumption) (by omega) rfl rfl (Nat.le_of_ble_eq_true rfl) (by omega) ⟨Nat.le_refl _, Nat.le_refl _⟩ (ct_throwsT hw) rfl ?_
            refine xg_ifeq 42 40 dX12_run_37 rfl rfl (by first | omega | exact hR _ | exact ⟨hR _, by omega⟩ | exact ⟨by omega, hR _⟩ | exact ⟨hR _, hR _⟩) (fun hb37 => ?_) (fun hb37 => ?_)
            · exfalso; omega
            · skip
              refine xg_iconst 41 dX12_run_40 rfl ?_
              subst hX
              exact xg_ireturn dX12_run_41 rfl ⟨Nat.le_refl _, Nat.le_refl _⟩ ⟨rfl, by rw [upF_upF]⟩

set_option maxHeartbeats 4000000 in
set_option maxRecDepth 100000 in
theorem ct_X12_run_t2 {E : xE} {z : Nat} {T : Nat → Nat × Int} {F : Nat → Nat → Int} {I : Nat → Int → Int} {P : Nat → Nat → Option Nat} {Y : Nat → Int → Option Nat} {m : Nat} {w : Int → Int} (hw : wM T P m) (hO : wOk w){v x : Int} (hv : -2147483648 ≤ v ∧ v < 2147483648) (hx : -2147483648 ≤ x ∧ x < 2147483648) (hb : (0 ≤ v ∧ v < w 0) ∧ ¬ (0 ≤ x ∧ x ≤ 4)) : Ct E 2 mX12_run 0 0 [.ref m, J v, J x] (z, T, F, upA I (m + 1) w, P, Y) (xd (some (J 0)) (z, T, upF F m 0 2, upA I (m + 1) (w), P, Y)) := by
  obtain ⟨⟨q0, q1, q2, q3⟩, -⟩ := id hw
  obtain ⟨hR, o0, o1, o2, o3, o4, o5, o6, oc, o13, o14, o16, o17, o18, ov⟩ := id hO
  have hN := wN_i o0.1
  refine Ct.of [some (.ref m), some (J v), some (J x)] kt_X12_run rfl (Nat.le_of_ble_eq_true rfl) rfl (fun d hd => ?_)
  generalize hX : xN E _ _ _ = X
  refine xg_aloadn 1 dX12_run_0 rfl rfl rfl ?_
  refine xg_iconst 2 dX12_run_1 rfl ?_
  refine xg_putI 5 kf_RX12_3 dX12_run_2 rfl (by assumption) ?_
  refine xg_aloadn 6 dX12_run_5 rfl rfl rfl ?_
  refine xg_aloadn 7 dX12_run_6 rfl rfl rfl ?_
  refine xg_iloadn 8 dX12_run_7 rfl rfl rfl ?_
  refine xg_callV 11 12 [_] _ kv_X12_noRun ⟨_, _, rfl⟩ kl_RX12_373 dX12_run_8 rfl (by assumption) (by omega) rfl rfl (Nat.le_of_ble_eq_true rfl) (by omega) ⟨Nat.le_refl _, Nat.le_refl _⟩ (ct_X12_noRun hw o0 (by omega)) rfl ?_
  refine xg_iconst 12 dX12_run_11 rfl ?_
  refine xg_dsplit (fun hb12 => ?_) (fun hb12 => ?_)
  · first
    | (exfalso; omega)
    | skip
      refine xg_callV 15 12 [_, _] _ kv_X12_throwsIf ⟨_, _, rfl⟩ kl_RX12_251 dX12_run_12 rfl (by assumption) (by omega) rfl rfl (Nat.le_of_ble_eq_true rfl) (by omega) ⟨Nat.le_refl _, Nat.le_refl _⟩ (ct_throwsT hw) rfl ?_
      refine xg_ifne 40 18 dX12_run_15 rfl rfl (by first | omega | exact hR _ | exact ⟨hR _, by omega⟩ | exact ⟨by omega, hR _⟩ | exact ⟨hR _, hR _⟩) (fun hb15 => ?_) (fun hb15 => ?_)
      · skip
        refine xg_iconst 41 dX12_run_40 rfl ?_
        subst hX
        exact xg_ireturn dX12_run_41 rfl ⟨Nat.le_refl _, Nat.le_refl _⟩ ⟨rfl, by rw [upF_upF]⟩
      · exfalso; omega
  · first
    | (exfalso; omega)
    | skip
      refine xg_callV 15 12 [_, _] _ kv_X12_throwsIf ⟨_, _, rfl⟩ kl_RX12_251 dX12_run_12 rfl (by assumption) (by omega) rfl rfl (Nat.le_of_ble_eq_true rfl) (by omega) ⟨Nat.le_refl _, Nat.le_refl _⟩ (ct_throwsF hw) rfl ?_
      refine xg_ifne 40 18 dX12_run_15 rfl rfl (by first | omega | exact hR _ | exact ⟨hR _, by omega⟩ | exact ⟨by omega, hR _⟩ | exact ⟨hR _, hR _⟩) (fun hb15 => ?_) (fun hb15 => ?_)
      · exfalso; omega
      · skip
        refine xg_aloadn 19 dX12_run_18 rfl rfl rfl ?_
        refine xg_iloadn 20 dX12_run_19 rfl rfl rfl ?_
        refine xg_iconst 21 dX12_run_20 rfl ?_
        refine xg_iconst 22 dX12_run_21 rfl ?_
        refine xg_callS 25 [_, _, _] _ ks_X12_in kl_RX12_70 dX12_run_22 rfl rfl rfl (Nat.le_of_ble_eq_true rfl) (by omega) ⟨Nat.le_refl _, Nat.le_refl _⟩ (ct_X12_in (by omega)) rfl ?_
        refine xg_dne 32 28 dX12_run_25 rfl rfl (fun hb25 => ?_) (fun hb25 => ?_)
        · first
          | (exfalso; omega)
          | skip
            refine xg_iconst 33 dX12_run_32 rfl ?_
            refine xg_iconst 34 dX12_run_33 rfl ?_
            refine xg_callV 37 12 [_, _] _ kv_X12_throwsIf ⟨_, _, rfl⟩ kl_RX12_251 dX12_run_34 rfl (by assumption) (by omega) rfl rfl (Nat.le_of_ble_eq_true rfl) (by omega) ⟨Nat.le_refl _, Nat.le_refl _⟩ (ct_throwsF hw) rfl ?_
            refine xg_ifeq 42 40 dX12_run_37 rfl rfl (by first | omega | exact hR _ | exact ⟨hR _, by omega⟩ | exact ⟨by omega, hR _⟩ | exact ⟨hR _, hR _⟩) (fun hb37 => ?_) (fun hb37 => ?_)
            · skip
              exfalso; omega
            · exfalso; omega
        · first
          | (exfalso; omega)
          | skip
            refine xg_iconst 29 dX12_run_28 rfl ?_
            refine xg_goto 33 dX12_run_29 rfl ?_
            refine xg_iconst 34 dX12_run_33 rfl ?_
            refine xg_callV 37 12 [_, _] _ kv_X12_throwsIf ⟨_, _, rfl⟩ kl_RX12_251 dX12_run_34 rfl (by assumption) (by omega) rfl rfl (Nat.le_of_ble_eq_true rfl) (by omega) ⟨Nat.le_refl _, Nat.le_refl _⟩ (ct_throwsT hw) rfl ?_
            refine xg_ifeq 42 40 dX12_run_37 rfl rfl (by first | omega | exact hR _ | exact ⟨hR _, by omega⟩ | exact ⟨by omega, hR _⟩ | exact ⟨hR _, hR _⟩) (fun hb37 => ?_) (fun hb37 => ?_)
            · exfalso; omega
            · skip
              refine xg_iconst 41 dX12_run_40 rfl ?_
              subst hX
              exact xg_ireturn dX12_run_41 rfl ⟨Nat.le_refl _, Nat.le_refl _⟩ ⟨rfl, by rw [upF_upF]⟩

noncomputable def sRunA (w : Int → Int) (r x : Int) : Int := if x = 0 then w (199 + 122 * r) else if x = 1 then sEnt w (201 + 122 * r) else if x = 2 then sMostR w r else if x = 3 then bI (decide (w (200 + 122 * r) = 1)) else 100 * sEnt w (201 + 122 * r) / sAllE w
set_option maxHeartbeats 4000000 in
set_option maxRecDepth 100000 in
theorem ct_X12_run {E : xE} {z : Nat} {T : Nat → Nat × Int} {F : Nat → Nat → Int} {I : Nat → Int → Int} {P : Nat → Nat → Option Nat} {Y : Nat → Int → Option Nat} {m : Nat} {w : Int → Int} (hw : wM T P m) (hO : wOk w){r : Nat} (hr0 : (r : Int) < w 0) {x : Int} (hx : 0 ≤ x ∧ x ≤ 4) (hA : 0 < sAllE w) : Ct E 4 mX12_run 0 0 [.ref m, J (r : Int), J x] (z, T, F, upA I (m + 1) w, P, Y) (xd (some (J (sRunA w r x))) (z, T, upF F m 0 0, upA I (m + 1) (w), P, Y)) := by
  obtain ⟨⟨q0, q1, q2, q3⟩, -⟩ := id hw
  obtain ⟨hR, o0, o1, o2, o3, o4, o5, o6, oc, o13, o14, o16, o17, o18, ov⟩ := id hO
  have hN := wN_i o0.1
  have heb := sEnt_bd w (201 + 122 * (r : Int))
  have hab := sEntIn_bd (w := w) (2 ^ wN w - 1) o0.2
  have hab2 : sAllE w = sEntIn w (2 ^ wN w - 1) := rfl
  refine Ct.of [some (.ref m), some (J (r : Int)), some (J x)] kt_X12_run rfl (Nat.le_of_ble_eq_true rfl) rfl (fun d hd => ?_)
  generalize hX : xN E _ _ _ = X
  refine xg_aloadn 1 dX12_run_0 rfl rfl rfl ?_
  refine xg_iconst 2 dX12_run_1 rfl ?_
  refine xg_putI 5 kf_RX12_3 dX12_run_2 rfl (by assumption) ?_
  refine xg_aloadn 6 dX12_run_5 rfl rfl rfl ?_
  refine xg_aloadn 7 dX12_run_6 rfl rfl rfl ?_
  refine xg_iloadn 8 dX12_run_7 rfl rfl rfl ?_
  refine xg_callV 11 12 [_] _ kv_X12_noRun ⟨_, _, rfl⟩ kl_RX12_373 dX12_run_8 rfl (by assumption) (by omega) rfl rfl (Nat.le_of_ble_eq_true rfl) (by omega) ⟨Nat.le_refl _, Nat.le_refl _⟩ (ct_X12_noRun hw o0 (by omega)) rfl ?_
  refine xg_iconst 12 dX12_run_11 rfl ?_
  refine xg_dsplit (fun hb12 => ?_) (fun hb12 => ?_)
  · first
    | (exfalso; omega)
    | skip
      refine xg_callV 15 12 [_, _] _ kv_X12_throwsIf ⟨_, _, rfl⟩ kl_RX12_251 dX12_run_12 rfl (by assumption) (by omega) rfl rfl (Nat.le_of_ble_eq_true rfl) (by omega) ⟨Nat.le_refl _, Nat.le_refl _⟩ (ct_throwsT hw) rfl ?_
      refine xg_ifne 40 18 dX12_run_15 rfl rfl (by first | omega | exact hR _ | exact ⟨hR _, by omega⟩ | exact ⟨by omega, hR _⟩ | exact ⟨hR _, hR _⟩) (fun hb15 => ?_) (fun hb15 => ?_)
      · skip
        exfalso; omega
      · exfalso; omega
  · first
    | (exfalso; omega)
    | skip
      refine xg_callV 15 12 [_, _] _ kv_X12_throwsIf ⟨_, _, rfl⟩ kl_RX12_251 dX12_run_12 rfl (by assumption) (by omega) rfl rfl (Nat.le_of_ble_eq_true rfl) (by omega) ⟨Nat.le_refl _, Nat.le_refl _⟩ (ct_throwsF hw) rfl ?_
      refine xg_ifne 40 18 dX12_run_15 rfl rfl (by first | omega | exact hR _ | exact ⟨hR _, by omega⟩ | exact ⟨by omega, hR _⟩ | exact ⟨hR _, hR _⟩) (fun hb15 => ?_) (fun hb15 => ?_)
      · exfalso; omega
      · skip
        refine xg_aloadn 19 dX12_run_18 rfl rfl rfl ?_
        refine xg_iloadn 20 dX12_run_19 rfl rfl rfl ?_
        refine xg_iconst 21 dX12_run_20 rfl ?_
        refine xg_iconst 22 dX12_run_21 rfl ?_
        refine xg_callS 25 [_, _, _] _ ks_X12_in kl_RX12_70 dX12_run_22 rfl rfl rfl (Nat.le_of_ble_eq_true rfl) (by omega) ⟨Nat.le_refl _, Nat.le_refl _⟩ (ct_X12_in (by omega)) rfl ?_
        refine xg_dne 32 28 dX12_run_25 rfl rfl (fun hb25 => ?_) (fun hb25 => ?_)
        · first
          | (exfalso; omega)
          | skip
            refine xg_iconst 33 dX12_run_32 rfl ?_
            refine xg_iconst 34 dX12_run_33 rfl ?_
            refine xg_callV 37 12 [_, _] _ kv_X12_throwsIf ⟨_, _, rfl⟩ kl_RX12_251 dX12_run_34 rfl (by assumption) (by omega) rfl rfl (Nat.le_of_ble_eq_true rfl) (by omega) ⟨Nat.le_refl _, Nat.le_refl _⟩ (ct_throwsF hw) rfl ?_
            refine xg_ifeq 42 40 dX12_run_37 rfl rfl (by first | omega | exact hR _ | exact ⟨hR _, by omega⟩ | exact ⟨by omega, hR _⟩ | exact ⟨hR _, hR _⟩) (fun hb37 => ?_) (fun hb37 => ?_)
            · skip
              refine xg_iloadn 43 dX12_run_42 rfl rfl rfl ?_
              rcases (show x = 0 ∨ x = 1 ∨ x = 2 ∨ x = 3 ∨ (x < 0 ∨ 3 < x) by omega) with ht | ht | ht | ht | ht
              · refine xg_tin (o := 29) 72 dX12_run_43 (by first | omega | exact hR _ | exact ⟨hR _, by omega⟩ | exact ⟨by omega, hR _⟩ | exact ⟨hR _, hR _⟩) ⟨by omega, by omega⟩ (by rw [show (x - 0).toNat = 0 by omega]; rfl) rfl ?_
                refine xg_aloadn 73 dX12_run_72 rfl rfl rfl ?_
                refine xg_iloadn 74 dX12_run_73 rfl rfl rfl ?_
                refine xg_callV 77 12 [_] _ kv_X12_levelOf ⟨_, _, rfl⟩ kl_RX12_120 dX12_run_74 rfl (by assumption) (by omega) rfl rfl (Nat.le_of_ble_eq_true rfl) (by omega) ⟨Nat.le_refl _, Nat.le_refl _⟩ (ct_X12_levelOf hw (by omega)) rfl ?_
                subst hX
                exact xg_ireturn dX12_run_77 rfl ⟨Nat.le_refl _, Nat.le_refl _⟩ ⟨by subst ht; rfl, rfl⟩
              · refine xg_tin (o := 35) 78 dX12_run_43 (by first | omega | exact hR _ | exact ⟨hR _, by omega⟩ | exact ⟨by omega, hR _⟩ | exact ⟨hR _, hR _⟩) ⟨by omega, by omega⟩ (by rw [show (x - 0).toNat = 1 by omega]; rfl) rfl ?_
                refine xg_aloadn 79 dX12_run_78 rfl rfl rfl ?_
                refine xg_iloadn 80 dX12_run_79 rfl rfl rfl ?_
                refine xg_callS 83 [_] _ ks_X12_rowOf kl_RX12_133 dX12_run_80 rfl rfl rfl (Nat.le_of_ble_eq_true rfl) (by omega) ⟨Nat.le_refl _, Nat.le_refl _⟩ (ct_X12_rowOf) rfl ?_
                refine xg_callV 86 12 [_] _ kv_X12_entriesOf ⟨_, _, rfl⟩ kl_RX12_268 dX12_run_83 rfl (by assumption) (by omega) rfl rfl (Nat.le_of_ble_eq_true rfl) (by omega) ⟨Nat.le_refl _, Nat.le_refl _⟩ (ct_X12_entriesOf hw hR (by omega)) rfl ?_
                subst hX
                exact xg_ireturn dX12_run_86 rfl ⟨Nat.le_refl _, Nat.le_refl _⟩ ⟨by subst ht; rfl, rfl⟩
              · refine xg_tin (o := 44) 87 dX12_run_43 (by first | omega | exact hR _ | exact ⟨hR _, by omega⟩ | exact ⟨by omega, hR _⟩ | exact ⟨hR _, hR _⟩) ⟨by omega, by omega⟩ (by rw [show (x - 0).toNat = 2 by omega]; rfl) rfl ?_
                refine xg_aloadn 88 dX12_run_87 rfl rfl rfl ?_
                refine xg_iloadn 89 dX12_run_88 rfl rfl rfl ?_
                refine xg_callV 92 12 [_] _ kv_X12_mostRewritten ⟨_, _, rfl⟩ kl_RX12_376 dX12_run_89 rfl (by assumption) (by omega) rfl rfl (Nat.le_of_ble_eq_true rfl) (by omega) ⟨Nat.le_refl _, Nat.le_refl _⟩ (ct_X12_mostRewritten hw hO (by omega)) rfl ?_
                subst hX
                exact xg_ireturn dX12_run_92 rfl ⟨Nat.le_refl _, Nat.le_refl _⟩ ⟨by subst ht; rfl, rfl⟩
              · refine xg_tin (o := 50) 93 dX12_run_43 (by first | omega | exact hR _ | exact ⟨hR _, by omega⟩ | exact ⟨by omega, hR _⟩ | exact ⟨hR _, hR _⟩) ⟨by omega, by omega⟩ (by rw [show (x - 0).toNat = 3 by omega]; rfl) rfl ?_
                refine xg_aloadn 94 dX12_run_93 rfl rfl rfl ?_
                refine xg_iloadn 95 dX12_run_94 rfl rfl rfl ?_
                refine xg_callV 98 12 [_] _ kv_X12_isInput ⟨_, _, rfl⟩ kl_RX12_290 dX12_run_95 rfl (by assumption) (by omega) rfl rfl (Nat.le_of_ble_eq_true rfl) (by omega) ⟨Nat.le_refl _, Nat.le_refl _⟩ (ct_X12_isInput hw hR (by omega)) rfl ?_
                refine xg_deq 105 101 dX12_run_98 rfl rfl (fun hb98 => ?_) (fun hb98 => ?_)
                · skip
                  refine xg_iconst 106 dX12_run_105 rfl ?_
                  subst hX
                  exact xg_ireturn dX12_run_106 rfl ⟨Nat.le_refl _, Nat.le_refl _⟩ ⟨by subst ht; first | (show some (J 0) = some (J (bI _)); rw [bI_f hb98]) | (show some (J 1) = some (J (bI _)); rw [bI_t hb98]), rfl⟩
                · skip
                  refine xg_iconst 102 dX12_run_101 rfl ?_
                  refine xg_goto 106 dX12_run_102 rfl ?_
                  subst hX
                  exact xg_ireturn dX12_run_106 rfl ⟨Nat.le_refl _, Nat.le_refl _⟩ ⟨by subst ht; first | (show some (J 0) = some (J (bI _)); rw [bI_f hb98]) | (show some (J 1) = some (J (bI _)); rw [bI_t hb98]), rfl⟩
              · refine xg_tout 107 dX12_run_43 (by first | omega | exact hR _ | exact ⟨hR _, by omega⟩ | exact ⟨by omega, hR _⟩ | exact ⟨hR _, hR _⟩) ht rfl ?_
                refine xg_bipush 109 dX12_run_107 rfl (by decide) ?_
                refine xg_aloadn 110 dX12_run_109 rfl rfl rfl ?_
                refine xg_iloadn 111 dX12_run_110 rfl rfl rfl ?_
                refine xg_callS 114 [_] _ ks_X12_rowOf kl_RX12_133 dX12_run_111 rfl rfl rfl (Nat.le_of_ble_eq_true rfl) (by omega) ⟨Nat.le_refl _, Nat.le_refl _⟩ (ct_X12_rowOf) rfl ?_
                refine xg_callV 117 12 [_] _ kv_X12_entriesOf ⟨_, _, rfl⟩ kl_RX12_268 dX12_run_114 rfl (by assumption) (by omega) rfl rfl (Nat.le_of_ble_eq_true rfl) (by omega) ⟨Nat.le_refl _, Nat.le_refl _⟩ (ct_X12_entriesOf hw hR (by omega)) rfl ?_
                refine xg_imul 118 dX12_run_117 rfl ?_
                refine xg_aloadn 119 dX12_run_118 rfl rfl rfl ?_
                refine xg_callV 122 12 [] _ kv_X12_allEntries ⟨_, _, rfl⟩ kl_RX12_379 dX12_run_119 rfl (by assumption) (by omega) rfl rfl (Nat.le_of_ble_eq_true rfl) (by omega) ⟨Nat.le_refl _, Nat.le_refl _⟩ (ct_X12_allEntries hw hO) rfl ?_
                refine xg_idiv 123 dX12_run_122 rfl (by first | omega | exact hR _ | exact ⟨hR _, by omega⟩ | exact ⟨by omega, hR _⟩ | exact ⟨hR _, hR _⟩) ?_
                subst hX
                exact xg_ireturn dX12_run_123 rfl ⟨Nat.le_refl _, Nat.le_refl _⟩ ⟨by rw [show x = 4 by omega]; rfl, rfl⟩
            · exfalso; omega
        · first
          | (exfalso; omega)
          | skip
            refine xg_iconst 29 dX12_run_28 rfl ?_
            refine xg_goto 33 dX12_run_29 rfl ?_
            refine xg_iconst 34 dX12_run_33 rfl ?_
            refine xg_callV 37 12 [_, _] _ kv_X12_throwsIf ⟨_, _, rfl⟩ kl_RX12_251 dX12_run_34 rfl (by assumption) (by omega) rfl rfl (Nat.le_of_ble_eq_true rfl) (by omega) ⟨Nat.le_refl _, Nat.le_refl _⟩ (ct_throwsT hw) rfl ?_
            refine xg_ifeq 42 40 dX12_run_37 rfl rfl (by first | omega | exact hR _ | exact ⟨hR _, by omega⟩ | exact ⟨by omega, hR _⟩ | exact ⟨hR _, hR _⟩) (fun hb37 => ?_) (fun hb37 => ?_)
            · exfalso; omega
            · skip
              exfalso; omega

theorem dX12_level_0 : decode cX12_level 0 = .ok (.aload_n 0, 1) := by decide +kernel
theorem dX12_level_1 : decode cX12_level 1 = .ok (.iconst 0, 1) := by decide +kernel
theorem dX12_level_2 : decode cX12_level 2 = .ok (.putfield 3, 3) := by decide +kernel
theorem dX12_level_5 : decode cX12_level 5 = .ok (.aload_n 0, 1) := by decide +kernel
theorem dX12_level_6 : decode cX12_level 6 = .ok (.iload_n 1, 1) := by decide +kernel
theorem dX12_level_7 : decode cX12_level 7 = .ok (.iconst 0, 1) := by decide +kernel
theorem dX12_level_8 : decode cX12_level 8 = .ok (.iconst 3, 1) := by decide +kernel
theorem dX12_level_9 : decode cX12_level 9 = .ok (.invokestatic 70, 3) := by decide +kernel
theorem dX12_level_12 : decode cX12_level 12 = .ok (.ifCond .ne 7, 3) := by decide +kernel
theorem dX12_level_15 : decode cX12_level 15 = .ok (.iconst 1, 1) := by decide +kernel
theorem dX12_level_16 : decode cX12_level 16 = .ok (.goto 4, 3) := by decide +kernel
theorem dX12_level_19 : decode cX12_level 19 = .ok (.iconst 0, 1) := by decide +kernel
theorem dX12_level_20 : decode cX12_level 20 = .ok (.iconst 1, 1) := by decide +kernel
theorem dX12_level_21 : decode cX12_level 21 = .ok (.invokevirtual 251, 3) := by decide +kernel
theorem dX12_level_24 : decode cX12_level 24 = .ok (.ifCond .ne 25, 3) := by decide +kernel
theorem dX12_level_27 : decode cX12_level 27 = .ok (.aload_n 0, 1) := by decide +kernel
theorem dX12_level_28 : decode cX12_level 28 = .ok (.iload_n 2, 1) := by decide +kernel
theorem dX12_level_29 : decode cX12_level 29 = .ok (.iconst 0, 1) := by decide +kernel
theorem dX12_level_30 : decode cX12_level 30 = .ok (.iconst 3, 1) := by decide +kernel
theorem dX12_level_31 : decode cX12_level 31 = .ok (.invokestatic 70, 3) := by decide +kernel
theorem dX12_level_34 : decode cX12_level 34 = .ok (.ifCond .ne 7, 3) := by decide +kernel
theorem dX12_level_37 : decode cX12_level 37 = .ok (.iconst 1, 1) := by decide +kernel
theorem dX12_level_38 : decode cX12_level 38 = .ok (.goto 4, 3) := by decide +kernel
theorem dX12_level_41 : decode cX12_level 41 = .ok (.iconst 0, 1) := by decide +kernel
theorem dX12_level_42 : decode cX12_level 42 = .ok (.iconst 2, 1) := by decide +kernel
theorem dX12_level_43 : decode cX12_level 43 = .ok (.invokevirtual 251, 3) := by decide +kernel
theorem dX12_level_46 : decode cX12_level 46 = .ok (.ifCond .eq 5, 3) := by decide +kernel
theorem dX12_level_49 : decode cX12_level 49 = .ok (.iconst 0, 1) := by decide +kernel
theorem dX12_level_50 : decode cX12_level 50 = .ok (.ireturn, 1) := by decide +kernel
theorem dX12_level_51 : decode cX12_level 51 = .ok (.iload_n 2, 1) := by decide +kernel
theorem dX12_level_52 : decode cX12_level 52 = .ok (.tableswitch 58 0 2 #[28, 34, 44], 28) := by decide +kernel
theorem dX12_level_80 : decode cX12_level 80 = .ok (.aload_n 0, 1) := by decide +kernel
theorem dX12_level_81 : decode cX12_level 81 = .ok (.iload_n 1, 1) := by decide +kernel
theorem dX12_level_82 : decode cX12_level 82 = .ok (.invokevirtual 254, 3) := by decide +kernel
theorem dX12_level_85 : decode cX12_level 85 = .ok (.ireturn, 1) := by decide +kernel
theorem dX12_level_86 : decode cX12_level 86 = .ok (.aload_n 0, 1) := by decide +kernel
theorem dX12_level_87 : decode cX12_level 87 = .ok (.aload_n 0, 1) := by decide +kernel
theorem dX12_level_88 : decode cX12_level 88 = .ok (.iload_n 1, 1) := by decide +kernel
theorem dX12_level_89 : decode cX12_level 89 = .ok (.invokevirtual 254, 3) := by decide +kernel
theorem dX12_level_92 : decode cX12_level 92 = .ok (.invokevirtual 262, 3) := by decide +kernel
theorem dX12_level_95 : decode cX12_level 95 = .ok (.ireturn, 1) := by decide +kernel
theorem dX12_level_96 : decode cX12_level 96 = .ok (.aload_n 0, 1) := by decide +kernel
theorem dX12_level_97 : decode cX12_level 97 = .ok (.iload_n 1, 1) := by decide +kernel
theorem dX12_level_98 : decode cX12_level 98 = .ok (.invokevirtual 293, 3) := by decide +kernel
theorem dX12_level_101 : decode cX12_level 101 = .ok (.ifCond .eq 7, 3) := by decide +kernel
theorem dX12_level_104 : decode cX12_level 104 = .ok (.iconst 1, 1) := by decide +kernel
theorem dX12_level_105 : decode cX12_level 105 = .ok (.goto 4, 3) := by decide +kernel
theorem dX12_level_108 : decode cX12_level 108 = .ok (.iconst 0, 1) := by decide +kernel
theorem dX12_level_109 : decode cX12_level 109 = .ok (.ireturn, 1) := by decide +kernel
theorem dX12_level_110 : decode cX12_level 110 = .ok (.aload_n 0, 1) := by decide +kernel
theorem dX12_level_111 : decode cX12_level 111 = .ok (.iload_n 1, 1) := by decide +kernel
theorem dX12_level_112 : decode cX12_level 112 = .ok (.invokevirtual 306, 3) := by decide +kernel
theorem dX12_level_115 : decode cX12_level 115 = .ok (.ireturn, 1) := by decide +kernel
set_option maxHeartbeats 4000000 in
set_option maxRecDepth 100000 in
theorem ct_X12_level_t1 {E : xE} {z : Nat} {T : Nat → Nat × Int} {F : Nat → Nat → Int} {I : Nat → Int → Int} {P : Nat → Nat → Option Nat} {Y : Nat → Int → Option Nat} {m : Nat} {w : Int → Int} (hw : wM T P m) (hO : wOk w){v x : Int} (hv : -2147483648 ≤ v ∧ v < 2147483648) (hx : -2147483648 ≤ x ∧ x < 2147483648) (hb : ¬ (0 ≤ v ∧ v < 4)) : Ct E 1 mX12_level 0 0 [.ref m, J v, J x] (z, T, F, upA I (m + 1) w, P, Y) (xd (some (J 0)) (z, T, upF F m 0 1, upA I (m + 1) (w), P, Y)) := by
  obtain ⟨⟨q0, q1, q2, q3⟩, -⟩ := id hw
  obtain ⟨hR, o0, o1, o2, o3, o4, o5, o6, oc, o13, o14, o16, o17, o18, ov⟩ := id hO
  have hN := wN_i o0.1
  refine Ct.of [some (.ref m), some (J v), some (J x)] kt_X12_level rfl (Nat.le_of_ble_eq_true rfl) rfl (fun d hd => ?_)
  generalize hX : xN E _ _ _ = X
  refine xg_aloadn 1 dX12_level_0 rfl rfl rfl ?_
  refine xg_iconst 2 dX12_level_1 rfl ?_
  refine xg_putI 5 kf_RX12_3 dX12_level_2 rfl (by assumption) ?_
  refine xg_aloadn 6 dX12_level_5 rfl rfl rfl ?_
  refine xg_iloadn 7 dX12_level_6 rfl rfl rfl ?_
  refine xg_iconst 8 dX12_level_7 rfl ?_
  refine xg_iconst 9 dX12_level_8 rfl ?_
  refine xg_callS 12 [_, _, _] _ ks_X12_in kl_RX12_70 dX12_level_9 rfl rfl rfl (Nat.le_of_ble_eq_true rfl) (by omega) ⟨Nat.le_refl _, Nat.le_refl _⟩ (ct_X12_in (by omega)) rfl ?_
  refine xg_dne 19 15 dX12_level_12 rfl rfl (fun hb12 => ?_) (fun hb12 => ?_)
  · first
    | (exfalso; omega)
    | skip
      refine xg_iconst 20 dX12_level_19 rfl ?_
      refine xg_iconst 21 dX12_level_20 rfl ?_
      refine xg_callV 24 12 [_, _] _ kv_X12_throwsIf ⟨_, _, rfl⟩ kl_RX12_251 dX12_level_21 rfl (by assumption) (by omega) rfl rfl (Nat.le_of_ble_eq_true rfl) (by omega) ⟨Nat.le_refl _, Nat.le_refl _⟩ (ct_throwsF hw) rfl ?_
      refine xg_ifne 49 27 dX12_level_24 rfl rfl (by first | omega | exact hR _ | exact ⟨hR _, by omega⟩ | exact ⟨by omega, hR _⟩ | exact ⟨hR _, hR _⟩) (fun hb24 => ?_) (fun hb24 => ?_)
      · exfalso; omega
      · skip
        refine xg_aloadn 28 dX12_level_27 rfl rfl rfl ?_
        refine xg_iloadn 29 dX12_level_28 rfl rfl rfl ?_
        refine xg_iconst 30 dX12_level_29 rfl ?_
        refine xg_iconst 31 dX12_level_30 rfl ?_
        refine xg_callS 34 [_, _, _] _ ks_X12_in kl_RX12_70 dX12_level_31 rfl rfl rfl (Nat.le_of_ble_eq_true rfl) (by omega) ⟨Nat.le_refl _, Nat.le_refl _⟩ (ct_X12_in (by omega)) rfl ?_
        refine xg_dne 41 37 dX12_level_34 rfl rfl (fun hb34 => ?_) (fun hb34 => ?_)
        · first
          | (exfalso; omega)
          | skip
            refine xg_iconst 42 dX12_level_41 rfl ?_
            refine xg_iconst 43 dX12_level_42 rfl ?_
            refine xg_callV 46 12 [_, _] _ kv_X12_throwsIf ⟨_, _, rfl⟩ kl_RX12_251 dX12_level_43 rfl (by assumption) (by omega) rfl rfl (Nat.le_of_ble_eq_true rfl) (by omega) ⟨Nat.le_refl _, Nat.le_refl _⟩ (ct_throwsF hw) rfl ?_
            refine xg_ifeq 51 49 dX12_level_46 rfl rfl (by first | omega | exact hR _ | exact ⟨hR _, by omega⟩ | exact ⟨by omega, hR _⟩ | exact ⟨hR _, hR _⟩) (fun hb46 => ?_) (fun hb46 => ?_)
            · skip
              exfalso; omega
            · exfalso; omega
        · first
          | (exfalso; omega)
          | skip
            refine xg_iconst 38 dX12_level_37 rfl ?_
            refine xg_goto 42 dX12_level_38 rfl ?_
            refine xg_iconst 43 dX12_level_42 rfl ?_
            refine xg_callV 46 12 [_, _] _ kv_X12_throwsIf ⟨_, _, rfl⟩ kl_RX12_251 dX12_level_43 rfl (by assumption) (by omega) rfl rfl (Nat.le_of_ble_eq_true rfl) (by omega) ⟨Nat.le_refl _, Nat.le_refl _⟩ (ct_throwsT hw) rfl ?_
            refine xg_ifeq 51 49 dX12_level_46 rfl rfl (by first | omega | exact hR _ | exact ⟨hR _, by omega⟩ | exact ⟨by omega, hR _⟩ | exact ⟨hR _, hR _⟩) (fun hb46 => ?_) (fun hb46 => ?_)
            · exfalso; omega
            · skip
              refine xg_iconst 50 dX12_level_49 rfl ?_
              subst hX
              exact xg_ireturn dX12_level_50 rfl ⟨Nat.le_refl _, Nat.le_refl _⟩ ⟨rfl, by rw [upF_upF]⟩
  · first
    | (exfalso; omega)
    | skip
      refine xg_iconst 16 dX12_level_15 rfl ?_
      refine xg_goto 20 dX12_level_16 rfl ?_
      refine xg_iconst 21 dX12_level_20 rfl ?_
      refine xg_callV 24 12 [_, _] _ kv_X12_throwsIf ⟨_, _, rfl⟩ kl_RX12_251 dX12_level_21 rfl (by assumption) (by omega) rfl rfl (Nat.le_of_ble_eq_true rfl) (by omega) ⟨Nat.le_refl _, Nat.le_refl _⟩ (ct_throwsT hw) rfl ?_
      refine xg_ifne 49 27 dX12_level_24 rfl rfl (by first | omega | exact hR _ | exact ⟨hR _, by omega⟩ | exact ⟨by omega, hR _⟩ | exact ⟨hR _, hR _⟩) (fun hb24 => ?_) (fun hb24 => ?_)
      · skip
        refine xg_iconst 50 dX12_level_49 rfl ?_
        subst hX
        exact xg_ireturn dX12_level_50 rfl ⟨Nat.le_refl _, Nat.le_refl _⟩ ⟨rfl, by rw [upF_upF]⟩
      · exfalso; omega

set_option maxHeartbeats 4000000 in
set_option maxRecDepth 100000 in
theorem ct_X12_level_t2 {E : xE} {z : Nat} {T : Nat → Nat × Int} {F : Nat → Nat → Int} {I : Nat → Int → Int} {P : Nat → Nat → Option Nat} {Y : Nat → Int → Option Nat} {m : Nat} {w : Int → Int} (hw : wM T P m) (hO : wOk w){v x : Int} (hv : -2147483648 ≤ v ∧ v < 2147483648) (hx : -2147483648 ≤ x ∧ x < 2147483648) (hb : (0 ≤ v ∧ v < 4) ∧ ¬ (0 ≤ x ∧ x ≤ 3)) : Ct E 1 mX12_level 0 0 [.ref m, J v, J x] (z, T, F, upA I (m + 1) w, P, Y) (xd (some (J 0)) (z, T, upF F m 0 2, upA I (m + 1) (w), P, Y)) := by
  obtain ⟨⟨q0, q1, q2, q3⟩, -⟩ := id hw
  obtain ⟨hR, o0, o1, o2, o3, o4, o5, o6, oc, o13, o14, o16, o17, o18, ov⟩ := id hO
  have hN := wN_i o0.1
  refine Ct.of [some (.ref m), some (J v), some (J x)] kt_X12_level rfl (Nat.le_of_ble_eq_true rfl) rfl (fun d hd => ?_)
  generalize hX : xN E _ _ _ = X
  refine xg_aloadn 1 dX12_level_0 rfl rfl rfl ?_
  refine xg_iconst 2 dX12_level_1 rfl ?_
  refine xg_putI 5 kf_RX12_3 dX12_level_2 rfl (by assumption) ?_
  refine xg_aloadn 6 dX12_level_5 rfl rfl rfl ?_
  refine xg_iloadn 7 dX12_level_6 rfl rfl rfl ?_
  refine xg_iconst 8 dX12_level_7 rfl ?_
  refine xg_iconst 9 dX12_level_8 rfl ?_
  refine xg_callS 12 [_, _, _] _ ks_X12_in kl_RX12_70 dX12_level_9 rfl rfl rfl (Nat.le_of_ble_eq_true rfl) (by omega) ⟨Nat.le_refl _, Nat.le_refl _⟩ (ct_X12_in (by omega)) rfl ?_
  refine xg_dne 19 15 dX12_level_12 rfl rfl (fun hb12 => ?_) (fun hb12 => ?_)
  · first
    | (exfalso; omega)
    | skip
      refine xg_iconst 20 dX12_level_19 rfl ?_
      refine xg_iconst 21 dX12_level_20 rfl ?_
      refine xg_callV 24 12 [_, _] _ kv_X12_throwsIf ⟨_, _, rfl⟩ kl_RX12_251 dX12_level_21 rfl (by assumption) (by omega) rfl rfl (Nat.le_of_ble_eq_true rfl) (by omega) ⟨Nat.le_refl _, Nat.le_refl _⟩ (ct_throwsF hw) rfl ?_
      refine xg_ifne 49 27 dX12_level_24 rfl rfl (by first | omega | exact hR _ | exact ⟨hR _, by omega⟩ | exact ⟨by omega, hR _⟩ | exact ⟨hR _, hR _⟩) (fun hb24 => ?_) (fun hb24 => ?_)
      · exfalso; omega
      · skip
        refine xg_aloadn 28 dX12_level_27 rfl rfl rfl ?_
        refine xg_iloadn 29 dX12_level_28 rfl rfl rfl ?_
        refine xg_iconst 30 dX12_level_29 rfl ?_
        refine xg_iconst 31 dX12_level_30 rfl ?_
        refine xg_callS 34 [_, _, _] _ ks_X12_in kl_RX12_70 dX12_level_31 rfl rfl rfl (Nat.le_of_ble_eq_true rfl) (by omega) ⟨Nat.le_refl _, Nat.le_refl _⟩ (ct_X12_in (by omega)) rfl ?_
        refine xg_dne 41 37 dX12_level_34 rfl rfl (fun hb34 => ?_) (fun hb34 => ?_)
        · first
          | (exfalso; omega)
          | skip
            refine xg_iconst 42 dX12_level_41 rfl ?_
            refine xg_iconst 43 dX12_level_42 rfl ?_
            refine xg_callV 46 12 [_, _] _ kv_X12_throwsIf ⟨_, _, rfl⟩ kl_RX12_251 dX12_level_43 rfl (by assumption) (by omega) rfl rfl (Nat.le_of_ble_eq_true rfl) (by omega) ⟨Nat.le_refl _, Nat.le_refl _⟩ (ct_throwsF hw) rfl ?_
            refine xg_ifeq 51 49 dX12_level_46 rfl rfl (by first | omega | exact hR _ | exact ⟨hR _, by omega⟩ | exact ⟨by omega, hR _⟩ | exact ⟨hR _, hR _⟩) (fun hb46 => ?_) (fun hb46 => ?_)
            · skip
              exfalso; omega
            · exfalso; omega
        · first
          | (exfalso; omega)
          | skip
            refine xg_iconst 38 dX12_level_37 rfl ?_
            refine xg_goto 42 dX12_level_38 rfl ?_
            refine xg_iconst 43 dX12_level_42 rfl ?_
            refine xg_callV 46 12 [_, _] _ kv_X12_throwsIf ⟨_, _, rfl⟩ kl_RX12_251 dX12_level_43 rfl (by assumption) (by omega) rfl rfl (Nat.le_of_ble_eq_true rfl) (by omega) ⟨Nat.le_refl _, Nat.le_refl _⟩ (ct_throwsT hw) rfl ?_
            refine xg_ifeq 51 49 dX12_level_46 rfl rfl (by first | omega | exact hR _ | exact ⟨hR _, by omega⟩ | exact ⟨by omega, hR _⟩ | exact ⟨hR _, hR _⟩) (fun hb46 => ?_) (fun hb46 => ?_)
            · exfalso; omega
            · skip
              refine xg_iconst 50 dX12_level_49 rfl ?_
              subst hX
              exact xg_ireturn dX12_level_50 rfl ⟨Nat.le_refl _, Nat.le_refl _⟩ ⟨rfl, by rw [upF_upF]⟩
  · first
    | (exfalso; omega)
    | skip
      refine xg_iconst 16 dX12_level_15 rfl ?_
      refine xg_goto 20 dX12_level_16 rfl ?_
      refine xg_iconst 21 dX12_level_20 rfl ?_
      refine xg_callV 24 12 [_, _] _ kv_X12_throwsIf ⟨_, _, rfl⟩ kl_RX12_251 dX12_level_21 rfl (by assumption) (by omega) rfl rfl (Nat.le_of_ble_eq_true rfl) (by omega) ⟨Nat.le_refl _, Nat.le_refl _⟩ (ct_throwsT hw) rfl ?_
      refine xg_ifne 49 27 dX12_level_24 rfl rfl (by first | omega | exact hR _ | exact ⟨hR _, by omega⟩ | exact ⟨by omega, hR _⟩ | exact ⟨hR _, hR _⟩) (fun hb24 => ?_) (fun hb24 => ?_)
      · skip
        refine xg_iconst 50 dX12_level_49 rfl ?_
        subst hX
        exact xg_ireturn dX12_level_50 rfl ⟨Nat.le_refl _, Nat.le_refl _⟩ ⟨rfl, by rw [upF_upF]⟩
      · exfalso; omega

noncomputable def sLevA (w : Int → Int) (l x : Int) : Int := if x = 0 then (sRuns w l : Nat) else if x = 1 then sEntIn w (sRuns w l) else if x = 2 then bI (sDueB w l) else sWorth w l
set_option maxHeartbeats 4000000 in
set_option maxRecDepth 100000 in
theorem ct_X12_level {E : xE} {z : Nat} {T : Nat → Nat × Int} {F : Nat → Nat → Int} {I : Nat → Int → Int} {P : Nat → Nat → Option Nat} {Y : Nat → Int → Option Nat} {m : Nat} {w : Int → Int} (hw : wM T P m) (hO : wOk w) (hL : wLw w){l x : Int} (hl : 0 ≤ l ∧ l < 4) (hx : 0 ≤ x ∧ x ≤ 3) : Ct E 9 mX12_level 0 0 [.ref m, J l, J x] (z, T, F, upA I (m + 1) w, P, Y) (xs m (some (J (sLevA w l x))) z T (upF F m 0 0) I (w) P Y) := by
  obtain ⟨⟨q0, q1, q2, q3⟩, -⟩ := id hw
  obtain ⟨hR, o0, o1, o2, o3, o4, o5, o6, oc, o13, o14, o16, o17, o18, ov⟩ := id hO
  have hN := wN_i o0.1
  have hs : sRuns w l < 2147483648 := by have := sRuns_lt (w := w) l o0.2; omega
  refine Ct.of [some (.ref m), some (J l), some (J x)] kt_X12_level rfl (Nat.le_of_ble_eq_true rfl) rfl (fun d hd => ?_)
  generalize hX : xN E _ _ _ = X
  refine xg_aloadn 1 dX12_level_0 rfl rfl rfl ?_
  refine xg_iconst 2 dX12_level_1 rfl ?_
  refine xg_putI 5 kf_RX12_3 dX12_level_2 rfl (by assumption) ?_
  refine xg_aloadn 6 dX12_level_5 rfl rfl rfl ?_
  refine xg_iloadn 7 dX12_level_6 rfl rfl rfl ?_
  refine xg_iconst 8 dX12_level_7 rfl ?_
  refine xg_iconst 9 dX12_level_8 rfl ?_
  refine xg_callS 12 [_, _, _] _ ks_X12_in kl_RX12_70 dX12_level_9 rfl rfl rfl (Nat.le_of_ble_eq_true rfl) (by omega) ⟨Nat.le_refl _, Nat.le_refl _⟩ (ct_X12_in (by omega)) rfl ?_
  refine xg_dne 19 15 dX12_level_12 rfl rfl (fun hb12 => ?_) (fun hb12 => ?_)
  · first
    | (exfalso; omega)
    | skip
      refine xg_iconst 20 dX12_level_19 rfl ?_
      refine xg_iconst 21 dX12_level_20 rfl ?_
      refine xg_callV 24 12 [_, _] _ kv_X12_throwsIf ⟨_, _, rfl⟩ kl_RX12_251 dX12_level_21 rfl (by assumption) (by omega) rfl rfl (Nat.le_of_ble_eq_true rfl) (by omega) ⟨Nat.le_refl _, Nat.le_refl _⟩ (ct_throwsF hw) rfl ?_
      refine xg_ifne 49 27 dX12_level_24 rfl rfl (by first | omega | exact hR _ | exact ⟨hR _, by omega⟩ | exact ⟨by omega, hR _⟩ | exact ⟨hR _, hR _⟩) (fun hb24 => ?_) (fun hb24 => ?_)
      · exfalso; omega
      · skip
        refine xg_aloadn 28 dX12_level_27 rfl rfl rfl ?_
        refine xg_iloadn 29 dX12_level_28 rfl rfl rfl ?_
        refine xg_iconst 30 dX12_level_29 rfl ?_
        refine xg_iconst 31 dX12_level_30 rfl ?_
        refine xg_callS 34 [_, _, _] _ ks_X12_in kl_RX12_70 dX12_level_31 rfl rfl rfl (Nat.le_of_ble_eq_true rfl) (by omega) ⟨Nat.le_refl _, Nat.le_refl _⟩ (ct_X12_in (by omega)) rfl ?_
        refine xg_dne 41 37 dX12_level_34 rfl rfl (fun hb34 => ?_) (fun hb34 => ?_)
        · first
          | (exfalso; omega)
          | skip
            refine xg_iconst 42 dX12_level_41 rfl ?_
            refine xg_iconst 43 dX12_level_42 rfl ?_
            refine xg_callV 46 12 [_, _] _ kv_X12_throwsIf ⟨_, _, rfl⟩ kl_RX12_251 dX12_level_43 rfl (by assumption) (by omega) rfl rfl (Nat.le_of_ble_eq_true rfl) (by omega) ⟨Nat.le_refl _, Nat.le_refl _⟩ (ct_throwsF hw) rfl ?_
            refine xg_ifeq 51 49 dX12_level_46 rfl rfl (by first | omega | exact hR _ | exact ⟨hR _, by omega⟩ | exact ⟨by omega, hR _⟩ | exact ⟨hR _, hR _⟩) (fun hb46 => ?_) (fun hb46 => ?_)
            · skip
              refine xg_iloadn 52 dX12_level_51 rfl rfl rfl ?_
              rcases (show x = 0 ∨ x = 1 ∨ x = 2 ∨ (x < 0 ∨ 2 < x) by omega) with ht | ht | ht | ht
              · refine xg_tin (o := 28) 80 dX12_level_52 (by first | omega | exact hR _ | exact ⟨hR _, by omega⟩ | exact ⟨by omega, hR _⟩ | exact ⟨hR _, hR _⟩) ⟨by omega, by omega⟩ (by rw [show (x - 0).toNat = 0 by omega]; rfl) rfl ?_
                refine xg_aloadn 81 dX12_level_80 rfl rfl rfl ?_
                refine xg_iloadn 82 dX12_level_81 rfl rfl rfl ?_
                refine xg_callV 85 12 [_] _ kv_X12_runsOf ⟨_, _, rfl⟩ kl_RX12_254 dX12_level_82 rfl (by assumption) (by omega) rfl rfl (Nat.le_of_ble_eq_true rfl) (by omega) ⟨Nat.le_refl _, Nat.le_refl _⟩ (ct_X12_runsOf hw hO (by omega)) rfl ?_
                subst hX
                exact xg_ireturn dX12_level_85 rfl ⟨Nat.le_refl _, Nat.le_refl _⟩ ⟨by subst ht; rfl, I, xScr.rf, rfl⟩
              · refine xg_tin (o := 34) 86 dX12_level_52 (by first | omega | exact hR _ | exact ⟨hR _, by omega⟩ | exact ⟨by omega, hR _⟩ | exact ⟨hR _, hR _⟩) ⟨by omega, by omega⟩ (by rw [show (x - 0).toNat = 1 by omega]; rfl) rfl ?_
                refine xg_aloadn 87 dX12_level_86 rfl rfl rfl ?_
                refine xg_aloadn 88 dX12_level_87 rfl rfl rfl ?_
                refine xg_iloadn 89 dX12_level_88 rfl rfl rfl ?_
                refine xg_callV 92 12 [_] _ kv_X12_runsOf ⟨_, _, rfl⟩ kl_RX12_254 dX12_level_89 rfl (by assumption) (by omega) rfl rfl (Nat.le_of_ble_eq_true rfl) (by omega) ⟨Nat.le_refl _, Nat.le_refl _⟩ (ct_X12_runsOf hw hO (by omega)) rfl ?_
                refine xg_callV 95 12 [_] _ kv_X12_entriesIn ⟨_, _, rfl⟩ kl_RX12_262 dX12_level_92 rfl (by assumption) (by omega) rfl rfl (Nat.le_of_ble_eq_true rfl) (by omega) ⟨Nat.le_refl _, Nat.le_refl _⟩ (ct_X12_entriesIn hw hO hs) rfl ?_
                subst hX
                exact xg_ireturn dX12_level_95 rfl ⟨Nat.le_refl _, Nat.le_refl _⟩ ⟨by subst ht; rfl, I, xScr.rf, rfl⟩
              · refine xg_tin (o := 44) 96 dX12_level_52 (by first | omega | exact hR _ | exact ⟨hR _, by omega⟩ | exact ⟨by omega, hR _⟩ | exact ⟨hR _, hR _⟩) ⟨by omega, by omega⟩ (by rw [show (x - 0).toNat = 2 by omega]; rfl) rfl ?_
                refine xg_aloadn 97 dX12_level_96 rfl rfl rfl ?_
                refine xg_iloadn 98 dX12_level_97 rfl rfl rfl ?_
                refine xg_callV 101 12 [_] _ kv_X12_isDue ⟨_, _, rfl⟩ kl_RX12_293 dX12_level_98 rfl (by assumption) (by omega) rfl rfl (Nat.le_of_ble_eq_true rfl) (by omega) ⟨Nat.le_refl _, Nat.le_refl _⟩ (ct_X12_isDue hw hO (by omega)) rfl ?_
                refine xg_beq 108 104 dX12_level_101 rfl rfl (fun hb101 => ?_) (fun hb101 => ?_)
                · skip
                  refine xg_iconst 109 dX12_level_108 rfl ?_
                  subst hX
                  exact xg_ireturn dX12_level_109 rfl ⟨Nat.le_refl _, Nat.le_refl _⟩ ⟨by subst ht; show _ = some (J (bI (sDueB w l))); first | (rw [show sDueB w l = false from hb101]; rfl) | (rw [show sDueB w l = true from hb101]; rfl), I, xScr.rf, rfl⟩
                · skip
                  refine xg_iconst 105 dX12_level_104 rfl ?_
                  refine xg_goto 109 dX12_level_105 rfl ?_
                  subst hX
                  exact xg_ireturn dX12_level_109 rfl ⟨Nat.le_refl _, Nat.le_refl _⟩ ⟨by subst ht; show _ = some (J (bI (sDueB w l))); first | (rw [show sDueB w l = false from hb101]; rfl) | (rw [show sDueB w l = true from hb101]; rfl), I, xScr.rf, rfl⟩
              · refine xg_tout 110 dX12_level_52 (by first | omega | exact hR _ | exact ⟨hR _, by omega⟩ | exact ⟨by omega, hR _⟩ | exact ⟨hR _, hR _⟩) ht rfl ?_
                refine xg_aloadn 111 dX12_level_110 rfl rfl rfl ?_
                refine xg_iloadn 112 dX12_level_111 rfl rfl rfl ?_
                refine xg_callVs 115 12 [_] _ kv_X12_worthOf ⟨_, _, rfl⟩ kl_RX12_306 dX12_level_112 rfl (by assumption) (by omega) rfl rfl (Nat.le_of_ble_eq_true rfl) (by omega) ⟨Nat.le_refl _, Nat.le_refl _⟩ (ct_X12_worthOf hw hO hL (by omega)) rfl (fun Ib hIb => ?_)
                subst hX
                exact xg_ireturn dX12_level_115 rfl ⟨Nat.le_refl _, Nat.le_refl _⟩ ⟨by rw [show x = 3 by omega]; rfl, Ib, hIb, rfl⟩
            · exfalso; omega
        · first
          | (exfalso; omega)
          | skip
            refine xg_iconst 38 dX12_level_37 rfl ?_
            refine xg_goto 42 dX12_level_38 rfl ?_
            refine xg_iconst 43 dX12_level_42 rfl ?_
            refine xg_callV 46 12 [_, _] _ kv_X12_throwsIf ⟨_, _, rfl⟩ kl_RX12_251 dX12_level_43 rfl (by assumption) (by omega) rfl rfl (Nat.le_of_ble_eq_true rfl) (by omega) ⟨Nat.le_refl _, Nat.le_refl _⟩ (ct_throwsT hw) rfl ?_
            refine xg_ifeq 51 49 dX12_level_46 rfl rfl (by first | omega | exact hR _ | exact ⟨hR _, by omega⟩ | exact ⟨by omega, hR _⟩ | exact ⟨hR _, hR _⟩) (fun hb46 => ?_) (fun hb46 => ?_)
            · exfalso; omega
            · skip
              exfalso; omega
  · first
    | (exfalso; omega)
    | skip
      refine xg_iconst 16 dX12_level_15 rfl ?_
      refine xg_goto 20 dX12_level_16 rfl ?_
      refine xg_iconst 21 dX12_level_20 rfl ?_
      refine xg_callV 24 12 [_, _] _ kv_X12_throwsIf ⟨_, _, rfl⟩ kl_RX12_251 dX12_level_21 rfl (by assumption) (by omega) rfl rfl (Nat.le_of_ble_eq_true rfl) (by omega) ⟨Nat.le_refl _, Nat.le_refl _⟩ (ct_throwsT hw) rfl ?_
      refine xg_ifne 49 27 dX12_level_24 rfl rfl (by first | omega | exact hR _ | exact ⟨hR _, by omega⟩ | exact ⟨by omega, hR _⟩ | exact ⟨hR _, hR _⟩) (fun hb24 => ?_) (fun hb24 => ?_)
      · skip
        exfalso; omega
      · exfalso; omega

theorem dX12_job_0 : decode cX12_job 0 = .ok (.aload_n 0, 1) := by decide +kernel
theorem dX12_job_1 : decode cX12_job 1 = .ok (.iconst 0, 1) := by decide +kernel
theorem dX12_job_2 : decode cX12_job 2 = .ok (.putfield 3, 3) := by decide +kernel
theorem dX12_job_5 : decode cX12_job 5 = .ok (.aload_n 0, 1) := by decide +kernel
theorem dX12_job_6 : decode cX12_job 6 = .ok (.iload_n 1, 1) := by decide +kernel
theorem dX12_job_7 : decode cX12_job 7 = .ok (.iconst 0, 1) := by decide +kernel
theorem dX12_job_8 : decode cX12_job 8 = .ok (.iconst 4, 1) := by decide +kernel
theorem dX12_job_9 : decode cX12_job 9 = .ok (.invokestatic 70, 3) := by decide +kernel
theorem dX12_job_12 : decode cX12_job 12 = .ok (.ifCond .ne 7, 3) := by decide +kernel
theorem dX12_job_15 : decode cX12_job 15 = .ok (.iconst 1, 1) := by decide +kernel
theorem dX12_job_16 : decode cX12_job 16 = .ok (.goto 4, 3) := by decide +kernel
theorem dX12_job_19 : decode cX12_job 19 = .ok (.iconst 0, 1) := by decide +kernel
theorem dX12_job_20 : decode cX12_job 20 = .ok (.iconst 1, 1) := by decide +kernel
theorem dX12_job_21 : decode cX12_job 21 = .ok (.invokevirtual 251, 3) := by decide +kernel
theorem dX12_job_24 : decode cX12_job 24 = .ok (.ifCond .eq 5, 3) := by decide +kernel
theorem dX12_job_27 : decode cX12_job 27 = .ok (.iconst 0, 1) := by decide +kernel
theorem dX12_job_28 : decode cX12_job 28 = .ok (.ireturn, 1) := by decide +kernel
theorem dX12_job_29 : decode cX12_job 29 = .ok (.aload_n 0, 1) := by decide +kernel
theorem dX12_job_30 : decode cX12_job 30 = .ok (.invokevirtual 278, 3) := by decide +kernel
theorem dX12_job_33 : decode cX12_job 33 = .ok (.ifCond .ne 5, 3) := by decide +kernel
theorem dX12_job_36 : decode cX12_job 36 = .ok (.iconst (-1), 1) := by decide +kernel
theorem dX12_job_37 : decode cX12_job 37 = .ok (.ireturn, 1) := by decide +kernel
theorem dX12_job_38 : decode cX12_job 38 = .ok (.iload_n 1, 1) := by decide +kernel
theorem dX12_job_39 : decode cX12_job 39 = .ok (.tableswitch 57 0 3 #[29, 37, 42, 49], 29) := by decide +kernel
theorem dX12_job_68 : decode cX12_job 68 = .ok (.aload_n 0, 1) := by decide +kernel
theorem dX12_job_69 : decode cX12_job 69 = .ok (.getfield 13, 3) := by decide +kernel
theorem dX12_job_72 : decode cX12_job 72 = .ok (.bipush 17, 2) := by decide +kernel
theorem dX12_job_74 : decode cX12_job 74 = .ok (.iaload, 1) := by decide +kernel
theorem dX12_job_75 : decode cX12_job 75 = .ok (.ireturn, 1) := by decide +kernel
theorem dX12_job_76 : decode cX12_job 76 = .ok (.aload_n 0, 1) := by decide +kernel
theorem dX12_job_77 : decode cX12_job 77 = .ok (.invokevirtual 299, 3) := by decide +kernel
theorem dX12_job_80 : decode cX12_job 80 = .ok (.ireturn, 1) := by decide +kernel
theorem dX12_job_81 : decode cX12_job 81 = .ok (.aload_n 0, 1) := by decide +kernel
theorem dX12_job_82 : decode cX12_job 82 = .ok (.bipush 79, 2) := by decide +kernel
theorem dX12_job_84 : decode cX12_job 84 = .ok (.invokevirtual 268, 3) := by decide +kernel
theorem dX12_job_87 : decode cX12_job 87 = .ok (.ireturn, 1) := by decide +kernel
theorem dX12_job_88 : decode cX12_job 88 = .ok (.aload_n 0, 1) := by decide +kernel
theorem dX12_job_89 : decode cX12_job 89 = .ok (.getfield 13, 3) := by decide +kernel
theorem dX12_job_92 : decode cX12_job 92 = .ok (.bipush 18, 2) := by decide +kernel
theorem dX12_job_94 : decode cX12_job 94 = .ok (.iaload, 1) := by decide +kernel
theorem dX12_job_95 : decode cX12_job 95 = .ok (.ireturn, 1) := by decide +kernel
theorem dX12_job_96 : decode cX12_job 96 = .ok (.aload_n 0, 1) := by decide +kernel
theorem dX12_job_97 : decode cX12_job 97 = .ok (.invokevirtual 296, 3) := by decide +kernel
theorem dX12_job_100 : decode cX12_job 100 = .ok (.ireturn, 1) := by decide +kernel
set_option maxHeartbeats 4000000 in
set_option maxRecDepth 100000 in
theorem ct_X12_job_t1 {E : xE} {z : Nat} {T : Nat → Nat × Int} {F : Nat → Nat → Int} {I : Nat → Int → Int} {P : Nat → Nat → Option Nat} {Y : Nat → Int → Option Nat} {m : Nat} {w : Int → Int} (hw : wM T P m) (hO : wOk w){v : Int} (hv : -2147483648 ≤ v ∧ v < 2147483648) (hb : ¬ (0 ≤ v ∧ v ≤ 4)) : Ct E 1 mX12_job 0 0 [.ref m, J v] (z, T, F, upA I (m + 1) w, P, Y) (xd (some (J 0)) (z, T, upF F m 0 1, upA I (m + 1) (w), P, Y)) := by
  obtain ⟨⟨q0, q1, q2, q3⟩, -⟩ := id hw
  obtain ⟨hR, o0, o1, o2, o3, o4, o5, o6, oc, o13, o14, o16, o17, o18, ov⟩ := id hO
  have hN := wN_i o0.1
  refine Ct.of [some (.ref m), some (J v)] kt_X12_job rfl (Nat.le_of_ble_eq_true rfl) rfl (fun d hd => ?_)
  generalize hX : xN E _ _ _ = X
  refine xg_aloadn 1 dX12_job_0 rfl rfl rfl ?_
  refine xg_iconst 2 dX12_job_1 rfl ?_
  refine xg_putI 5 kf_RX12_3 dX12_job_2 rfl (by assumption) ?_
  refine xg_aloadn 6 dX12_job_5 rfl rfl rfl ?_
  refine xg_iloadn 7 dX12_job_6 rfl rfl rfl ?_
  refine xg_iconst 8 dX12_job_7 rfl ?_
  refine xg_iconst 9 dX12_job_8 rfl ?_
  refine xg_callS 12 [_, _, _] _ ks_X12_in kl_RX12_70 dX12_job_9 rfl rfl rfl (Nat.le_of_ble_eq_true rfl) (by omega) ⟨Nat.le_refl _, Nat.le_refl _⟩ (ct_X12_in (by omega)) rfl ?_
  refine xg_dne 19 15 dX12_job_12 rfl rfl (fun hb12 => ?_) (fun hb12 => ?_)
  · first
    | (exfalso; omega)
    | skip
      refine xg_iconst 20 dX12_job_19 rfl ?_
      refine xg_iconst 21 dX12_job_20 rfl ?_
      refine xg_callV 24 12 [_, _] _ kv_X12_throwsIf ⟨_, _, rfl⟩ kl_RX12_251 dX12_job_21 rfl (by assumption) (by omega) rfl rfl (Nat.le_of_ble_eq_true rfl) (by omega) ⟨Nat.le_refl _, Nat.le_refl _⟩ (ct_throwsF hw) rfl ?_
      refine xg_ifeq 29 27 dX12_job_24 rfl rfl (by first | omega | exact hR _ | exact ⟨hR _, by omega⟩ | exact ⟨by omega, hR _⟩ | exact ⟨hR _, hR _⟩) (fun hb24 => ?_) (fun hb24 => ?_)
      · skip
        exfalso; omega
      · exfalso; omega
  · first
    | (exfalso; omega)
    | skip
      refine xg_iconst 16 dX12_job_15 rfl ?_
      refine xg_goto 20 dX12_job_16 rfl ?_
      refine xg_iconst 21 dX12_job_20 rfl ?_
      refine xg_callV 24 12 [_, _] _ kv_X12_throwsIf ⟨_, _, rfl⟩ kl_RX12_251 dX12_job_21 rfl (by assumption) (by omega) rfl rfl (Nat.le_of_ble_eq_true rfl) (by omega) ⟨Nat.le_refl _, Nat.le_refl _⟩ (ct_throwsT hw) rfl ?_
      refine xg_ifeq 29 27 dX12_job_24 rfl rfl (by first | omega | exact hR _ | exact ⟨hR _, by omega⟩ | exact ⟨by omega, hR _⟩ | exact ⟨hR _, hR _⟩) (fun hb24 => ?_) (fun hb24 => ?_)
      · exfalso; omega
      · skip
        refine xg_iconst 28 dX12_job_27 rfl ?_
        subst hX
        exact xg_ireturn dX12_job_28 rfl ⟨Nat.le_refl _, Nat.le_refl _⟩ ⟨rfl, by rw [upF_upF]⟩

def sJobA (w : Int → Int) (x : Int) : Int := if w 16 = 1 then (if x = 0 then w 17 else if x = 1 then (sInp w : Nat) else if x = 2 then sEnt w 79 else if x = 3 then w 18 else sLeft w) else -1
set_option maxHeartbeats 4000000 in
set_option maxRecDepth 100000 in
theorem ct_X12_job {E : xE} {z : Nat} {T : Nat → Nat × Int} {F : Nat → Nat → Int} {I : Nat → Int → Int} {P : Nat → Nat → Option Nat} {Y : Nat → Int → Option Nat} {m : Nat} {w : Int → Int} (hw : wM T P m) (hO : wOk w){x : Int} (hx : 0 ≤ x ∧ x ≤ 4) : Ct E 3 mX12_job 0 0 [.ref m, J x] (z, T, F, upA I (m + 1) w, P, Y) (xd (some (J (sJobA w x))) (z, T, upF F m 0 0, upA I (m + 1) (w), P, Y)) := by
  obtain ⟨⟨q0, q1, q2, q3⟩, -⟩ := id hw
  obtain ⟨hR, o0, o1, o2, o3, o4, o5, o6, oc, o13, o14, o16, o17, o18, ov⟩ := id hO
  have hN := wN_i o0.1
  refine Ct.of [some (.ref m), some (J x)] kt_X12_job rfl (Nat.le_of_ble_eq_true rfl) rfl (fun d hd => ?_)
  generalize hX : xN E _ _ _ = X
  refine xg_aloadn 1 dX12_job_0 rfl rfl rfl ?_
  refine xg_iconst 2 dX12_job_1 rfl ?_
  refine xg_putI 5 kf_RX12_3 dX12_job_2 rfl (by assumption) ?_
  refine xg_aloadn 6 dX12_job_5 rfl rfl rfl ?_
  refine xg_iloadn 7 dX12_job_6 rfl rfl rfl ?_
  refine xg_iconst 8 dX12_job_7 rfl ?_
  refine xg_iconst 9 dX12_job_8 rfl ?_
  refine xg_callS 12 [_, _, _] _ ks_X12_in kl_RX12_70 dX12_job_9 rfl rfl rfl (Nat.le_of_ble_eq_true rfl) (by omega) ⟨Nat.le_refl _, Nat.le_refl _⟩ (ct_X12_in (by omega)) rfl ?_
  refine xg_dne 19 15 dX12_job_12 rfl rfl (fun hb12 => ?_) (fun hb12 => ?_)
  · first
    | (exfalso; omega)
    | skip
      refine xg_iconst 20 dX12_job_19 rfl ?_
      refine xg_iconst 21 dX12_job_20 rfl ?_
      refine xg_callV 24 12 [_, _] _ kv_X12_throwsIf ⟨_, _, rfl⟩ kl_RX12_251 dX12_job_21 rfl (by assumption) (by omega) rfl rfl (Nat.le_of_ble_eq_true rfl) (by omega) ⟨Nat.le_refl _, Nat.le_refl _⟩ (ct_throwsF hw) rfl ?_
      refine xg_ifeq 29 27 dX12_job_24 rfl rfl (by first | omega | exact hR _ | exact ⟨hR _, by omega⟩ | exact ⟨by omega, hR _⟩ | exact ⟨hR _, hR _⟩) (fun hb24 => ?_) (fun hb24 => ?_)
      · skip
        refine xg_aloadn 30 dX12_job_29 rfl rfl rfl ?_
        refine xg_callV 33 12 [] _ kv_X12_isBusy ⟨_, _, rfl⟩ kl_RX12_278 dX12_job_30 rfl (by assumption) (by omega) rfl rfl (Nat.le_of_ble_eq_true rfl) (by omega) ⟨Nat.le_refl _, Nat.le_refl _⟩ (ct_X12_isBusy hw hR) rfl ?_
        refine xg_dne 38 36 dX12_job_33 rfl rfl (fun hb33 => ?_) (fun hb33 => ?_)
        · skip
          refine xg_iloadn 39 dX12_job_38 rfl rfl rfl ?_
          rcases (show x = 0 ∨ x = 1 ∨ x = 2 ∨ x = 3 ∨ (x < 0 ∨ 3 < x) by omega) with ht | ht | ht | ht | ht
          · refine xg_tin (o := 29) 68 dX12_job_39 (by first | omega | exact hR _ | exact ⟨hR _, by omega⟩ | exact ⟨by omega, hR _⟩ | exact ⟨hR _, hR _⟩) ⟨by omega, by omega⟩ (by rw [show (x - 0).toNat = 0 by omega]; rfl) rfl ?_
            refine xg_aloadn 69 dX12_job_68 rfl rfl rfl ?_
            refine xg_getP 72 kf_RX12_13 dX12_job_69 rfl (by assumption) (by assumption) ?_
            refine xg_bipush 74 dX12_job_72 rfl (by decide) ?_
            refine xg_ialdW 75 dX12_job_74 rfl (by assumption) (by first | omega | exact hR _ | exact ⟨hR _, by omega⟩ | exact ⟨by omega, hR _⟩ | exact ⟨hR _, hR _⟩) ?_
            subst hX
            exact xg_ireturn dX12_job_75 rfl ⟨Nat.le_refl _, Nat.le_refl _⟩ ⟨by unfold sJobA; rw [if_pos hb33]; subst ht; rfl, rfl⟩
          · refine xg_tin (o := 37) 76 dX12_job_39 (by first | omega | exact hR _ | exact ⟨hR _, by omega⟩ | exact ⟨by omega, hR _⟩ | exact ⟨hR _, hR _⟩) ⟨by omega, by omega⟩ (by rw [show (x - 0).toNat = 1 by omega]; rfl) rfl ?_
            refine xg_aloadn 77 dX12_job_76 rfl rfl rfl ?_
            refine xg_callV 80 12 [] _ kv_X12_inputs ⟨_, _, rfl⟩ kl_RX12_299 dX12_job_77 rfl (by assumption) (by omega) rfl rfl (Nat.le_of_ble_eq_true rfl) (by omega) ⟨Nat.le_refl _, Nat.le_refl _⟩ (ct_X12_inputs hw hO) rfl ?_
            subst hX
            exact xg_ireturn dX12_job_80 rfl ⟨Nat.le_refl _, Nat.le_refl _⟩ ⟨by unfold sJobA; rw [if_pos hb33]; subst ht; rfl, rfl⟩
          · refine xg_tin (o := 42) 81 dX12_job_39 (by first | omega | exact hR _ | exact ⟨hR _, by omega⟩ | exact ⟨by omega, hR _⟩ | exact ⟨hR _, hR _⟩) ⟨by omega, by omega⟩ (by rw [show (x - 0).toNat = 2 by omega]; rfl) rfl ?_
            refine xg_aloadn 82 dX12_job_81 rfl rfl rfl ?_
            refine xg_bipush 84 dX12_job_82 rfl (by decide) ?_
            refine xg_callV 87 12 [_] _ kv_X12_entriesOf ⟨_, _, rfl⟩ kl_RX12_268 dX12_job_84 rfl (by assumption) (by omega) rfl rfl (Nat.le_of_ble_eq_true rfl) (by omega) ⟨Nat.le_refl _, Nat.le_refl _⟩ (ct_X12_entriesOf hw hR (by omega)) rfl ?_
            subst hX
            exact xg_ireturn dX12_job_87 rfl ⟨Nat.le_refl _, Nat.le_refl _⟩ ⟨by unfold sJobA; rw [if_pos hb33]; subst ht; rfl, rfl⟩
          · refine xg_tin (o := 49) 88 dX12_job_39 (by first | omega | exact hR _ | exact ⟨hR _, by omega⟩ | exact ⟨by omega, hR _⟩ | exact ⟨hR _, hR _⟩) ⟨by omega, by omega⟩ (by rw [show (x - 0).toNat = 3 by omega]; rfl) rfl ?_
            refine xg_aloadn 89 dX12_job_88 rfl rfl rfl ?_
            refine xg_getP 92 kf_RX12_13 dX12_job_89 rfl (by assumption) (by assumption) ?_
            refine xg_bipush 94 dX12_job_92 rfl (by decide) ?_
            refine xg_ialdW 95 dX12_job_94 rfl (by assumption) (by first | omega | exact hR _ | exact ⟨hR _, by omega⟩ | exact ⟨by omega, hR _⟩ | exact ⟨hR _, hR _⟩) ?_
            subst hX
            exact xg_ireturn dX12_job_95 rfl ⟨Nat.le_refl _, Nat.le_refl _⟩ ⟨by unfold sJobA; rw [if_pos hb33]; subst ht; rfl, rfl⟩
          · refine xg_tout 96 dX12_job_39 (by first | omega | exact hR _ | exact ⟨hR _, by omega⟩ | exact ⟨by omega, hR _⟩ | exact ⟨hR _, hR _⟩) ht rfl ?_
            refine xg_aloadn 97 dX12_job_96 rfl rfl rfl ?_
            refine xg_callV 100 12 [] _ kv_X12_leftNow ⟨_, _, rfl⟩ kl_RX12_296 dX12_job_97 rfl (by assumption) (by omega) rfl rfl (Nat.le_of_ble_eq_true rfl) (by omega) ⟨Nat.le_refl _, Nat.le_refl _⟩ (ct_X12_leftNow hw hO) rfl ?_
            subst hX
            exact xg_ireturn dX12_job_100 rfl ⟨Nat.le_refl _, Nat.le_refl _⟩ ⟨by unfold sJobA; rw [if_pos hb33, show x = 4 by omega]; rfl, rfl⟩
        · skip
          refine xg_iconst 37 dX12_job_36 rfl ?_
          subst hX
          exact xg_ireturn dX12_job_37 rfl ⟨Nat.le_refl _, Nat.le_refl _⟩ ⟨by unfold sJobA; rw [if_neg hb33], rfl⟩
      · exfalso; omega
  · first
    | (exfalso; omega)
    | skip
      refine xg_iconst 16 dX12_job_15 rfl ?_
      refine xg_goto 20 dX12_job_16 rfl ?_
      refine xg_iconst 21 dX12_job_20 rfl ?_
      refine xg_callV 24 12 [_, _] _ kv_X12_throwsIf ⟨_, _, rfl⟩ kl_RX12_251 dX12_job_21 rfl (by assumption) (by omega) rfl rfl (Nat.le_of_ble_eq_true rfl) (by omega) ⟨Nat.le_refl _, Nat.le_refl _⟩ (ct_throwsT hw) rfl ?_
      refine xg_ifeq 29 27 dX12_job_24 rfl rfl (by first | omega | exact hR _ | exact ⟨hR _, by omega⟩ | exact ⟨by omega, hR _⟩ | exact ⟨hR _, hR _⟩) (fun hb24 => ?_) (fun hb24 => ?_)
      · exfalso; omega
      · skip
        exfalso; omega

def sRank (w : Int → Int) : Nat → Int → Int → Int
  | 0, _, _ => -1
  | j + 1, key, left => if left < 0 then -1 else if sFnd w key = -1 then sRank w j (key + 1) left else if left = 0 then key else sRank w j (key + 1) (left - 1)
def pTot (w : Int → Int) (from_ : Int) : Nat → Int
  | 0 => 0
  | k + 1 => pTot w from_ k + max 0 (sFnd w (from_ + k))
theorem sFnd_r {w : Int → Int} (h : wOk w) {key : Int} (hk : 0 ≤ key ∧ key < 60) : -1 ≤ sFnd w key ∧ sFnd w key ≤ 100 := by
  obtain ⟨hR, o0, o1, o2, o3, o4, o5, o6, oc, o13, o14, o16, o17, o18, ov⟩ := id h
  have h1 := sNewO_bd (w := w) key o0
  have h2 := ov (19 + key) (by omega) (by omega)
  by_cases e1 : sNewO w key = -1
  · have : sFnd w key = -1 := by simp [sFnd, e1]
    omega
  by_cases e2 : sNewO w key = 0
  · by_cases e3 : w (19 + key) = 100
    · have : sFnd w key = -1 := by simp [sFnd, e2, e3]
      omega
    · have : sFnd w key = w (19 + key) := by simp [sFnd, e2, e3]
      omega
  · have h3 := ov (201 + 122 * (sNewO w key - 1) + key) (by omega) (by omega)
    by_cases e3 : w (201 + 122 * (sNewO w key - 1) + key) = 100
    · have : sFnd w key = -1 := by simp [sFnd, e1, e2, e3]
      omega
    · have : sFnd w key = w (201 + 122 * (sNewO w key - 1) + key) := by simp [sFnd, e1, e2, e3]
      omega
theorem pTot_bd {w : Int → Int} (h : wOk w) {f : Int} (hf : 0 ≤ f) : ∀ k : Nat, f + k ≤ 60 → 0 ≤ pTot w f k ∧ pTot w f k ≤ 100 * k
  | 0, _ => by simp [pTot]
  | k + 1, hk => by
    have h1 := pTot_bd h hf k (by omega)
    have h2 := sFnd_r h (key := f + k) (by omega)
    rw [pTot]; omega
def sDeep (w : Int → Int) : Nat → Int
  | 0 => 0
  | k + 1 => if sFnd w (k : Int) = -1 then sDeep w k else max (sDeep w k) (sTook w (k : Int))
theorem sTook_bd {w : Int → Int} (h : wOk w) (key : Int) : 0 ≤ sTook w key ∧ sTook w key ≤ 13 := by
  have h1 := sNewO_bd (w := w) key h.2.1
  have h2 := h.2.1
  unfold sTook
  (repeat' split) <;> omega
theorem sDeep_bd {w : Int → Int} (h : wOk w) : ∀ k : Nat, 0 ≤ sDeep w k ∧ sDeep w k ≤ 13
  | 0 => by simp [sDeep]
  | k + 1 => by
    have h1 := sDeep_bd h k
    have h2 := sTook_bd h (k : Int)
    rw [sDeep]; split <;> omega
theorem dX12_rank_0 : decode cX12_rank 0 = .ok (.aload_n 0, 1) := by decide +kernel
theorem dX12_rank_1 : decode cX12_rank 1 = .ok (.iconst 0, 1) := by decide +kernel
theorem dX12_rank_2 : decode cX12_rank 2 = .ok (.putfield 3, 3) := by decide +kernel
theorem dX12_rank_5 : decode cX12_rank 5 = .ok (.iload_n 1, 1) := by decide +kernel
theorem dX12_rank_6 : decode cX12_rank 6 = .ok (.istore_n 2, 1) := by decide +kernel
theorem dX12_rank_7 : decode cX12_rank 7 = .ok (.iconst 0, 1) := by decide +kernel
theorem dX12_rank_8 : decode cX12_rank 8 = .ok (.istore_n 3, 1) := by decide +kernel
theorem dX12_rank_9 : decode cX12_rank 9 = .ok (.iload_n 3, 1) := by decide +kernel
theorem dX12_rank_10 : decode cX12_rank 10 = .ok (.bipush 60, 2) := by decide +kernel
theorem dX12_rank_12 : decode cX12_rank 12 = .ok (.if_icmp .ge 34, 3) := by decide +kernel
theorem dX12_rank_15 : decode cX12_rank 15 = .ok (.iload_n 2, 1) := by decide +kernel
theorem dX12_rank_16 : decode cX12_rank 16 = .ok (.ifCond .lt 30, 3) := by decide +kernel
theorem dX12_rank_19 : decode cX12_rank 19 = .ok (.aload_n 0, 1) := by decide +kernel
theorem dX12_rank_20 : decode cX12_rank 20 = .ok (.iload_n 3, 1) := by decide +kernel
theorem dX12_rank_21 : decode cX12_rank 21 = .ok (.invokevirtual 394, 3) := by decide +kernel
theorem dX12_rank_24 : decode cX12_rank 24 = .ok (.iconst (-1), 1) := by decide +kernel
theorem dX12_rank_25 : decode cX12_rank 25 = .ok (.if_icmp .ne 6, 3) := by decide +kernel
theorem dX12_rank_28 : decode cX12_rank 28 = .ok (.goto 12, 3) := by decide +kernel
theorem dX12_rank_31 : decode cX12_rank 31 = .ok (.iload_n 2, 1) := by decide +kernel
theorem dX12_rank_32 : decode cX12_rank 32 = .ok (.ifCond .ne 5, 3) := by decide +kernel
theorem dX12_rank_35 : decode cX12_rank 35 = .ok (.iload_n 3, 1) := by decide +kernel
theorem dX12_rank_36 : decode cX12_rank 36 = .ok (.ireturn, 1) := by decide +kernel
theorem dX12_rank_37 : decode cX12_rank 37 = .ok (.iinc 2 (-1), 3) := by decide +kernel
theorem dX12_rank_40 : decode cX12_rank 40 = .ok (.iinc 3 1, 3) := by decide +kernel
theorem dX12_rank_43 : decode cX12_rank 43 = .ok (.goto (-34), 3) := by decide +kernel
theorem dX12_rank_46 : decode cX12_rank 46 = .ok (.iconst (-1), 1) := by decide +kernel
theorem dX12_rank_47 : decode cX12_rank 47 = .ok (.ireturn, 1) := by decide +kernel
set_option maxHeartbeats 4000000 in
set_option maxRecDepth 100000 in
theorem ct_X12_rank {E : xE} {z : Nat} {T : Nat → Nat × Int} {F : Nat → Nat → Int} {I : Nat → Int → Int} {P : Nat → Nat → Option Nat} {Y : Nat → Int → Option Nat} {m : Nat} {w : Int → Int} (hw : wM T P m) (hO : wOk w){v : Int} (hv : -2147483648 ≤ v ∧ v < 2147483648) : Ct E 4 mX12_rank 0 0 [.ref m, J v] (z, T, F, upA I (m + 1) w, P, Y) (xd (some (J (sRank w 60 0 v))) (z, T, upF F m 0 0, upA I (m + 1) (w), P, Y)) := by
  obtain ⟨⟨q0, q1, q2, q3⟩, -⟩ := id hw
  obtain ⟨hR, o0, o1, o2, o3, o4, o5, o6, oc, o13, o14, o16, o17, o18, ov⟩ := id hO
  have hN := wN_i o0.1
  refine Ct.of [some (.ref m), some (J v), none, none] kt_X12_rank rfl (Nat.le_of_ble_eq_true rfl) rfl (fun d hd => ?_)
  generalize hX : xN E _ _ _ = X
  refine xg_aloadn 1 dX12_rank_0 rfl rfl rfl ?_
  refine xg_iconst 2 dX12_rank_1 rfl ?_
  refine xg_putI 5 kf_RX12_3 dX12_rank_2 rfl (by assumption) ?_
  refine xg_iloadn 6 dX12_rank_5 rfl rfl rfl ?_
  refine xg_istoren 7 _ dX12_rank_6 rfl rfl rfl (by decide) (Or.inr rfl) ?_
  refine xg_iconst 8 dX12_rank_7 rfl ?_
  refine xg_istoren 9 _ dX12_rank_8 rfl rfl rfl (by decide) (Or.inr rfl) ?_
  have loop9 : ∀ (mm : Nat) (left key : Int) (j : Nat), (-2147483648 ≤ left ∧ left < 2147483648) → (key + j = 60 ∧ 0 ≤ key) → sRank w j key left = sRank w 60 0 v → (j : Int) < (mm : Int) → xG E mX12_rank (xR d 0 0) X 9 [some (.ref m), some (J v), some (J left), some (J key)] [] (z, T, upF F m 0 0, upA I (m + 1) (w), P, Y) 0 0 := by
    intro mm
    induction mm with
    | zero => intro left key j hl hj he hm; exfalso; omega
    | succ mm ih =>
      intro left key j hl hj he hm
      refine xg_iloadn 10 dX12_rank_9 rfl rfl rfl ?_
      refine xg_bipush 12 dX12_rank_10 rfl (by decide) ?_
      refine xg_icge 46 15 dX12_rank_12 rfl rfl (by first | omega | exact hR _ | exact ⟨hR _, by omega⟩ | exact ⟨by omega, hR _⟩ | exact ⟨hR _, hR _⟩) (fun hb12 => ?_) (fun hb12 => ?_)
      · skip
        refine xg_iconst 47 dX12_rank_46 rfl ?_
        subst hX
        refine xg_ireturn dX12_rank_47 rfl ⟨Nat.le_refl _, Nat.le_refl _⟩ ?_
        refine ⟨?_, rfl⟩
        rw [← he]
        cases j with
        | zero => rfl
        | succ j => rw [sRank, if_pos (by omega)]
      · skip
        refine xg_iloadn 16 dX12_rank_15 rfl rfl rfl ?_
        refine xg_iflt 46 19 dX12_rank_16 rfl rfl (by first | omega | exact hR _ | exact ⟨hR _, by omega⟩ | exact ⟨by omega, hR _⟩ | exact ⟨hR _, hR _⟩) (fun hb16 => ?_) (fun hb16 => ?_)
        · skip
          refine xg_iconst 47 dX12_rank_46 rfl ?_
          subst hX
          refine xg_ireturn dX12_rank_47 rfl ⟨Nat.le_refl _, Nat.le_refl _⟩ ?_
          refine ⟨?_, rfl⟩
          rw [← he]
          cases j with
          | zero => rfl
          | succ j => rw [sRank, if_pos (by omega)]
        · skip
          obtain ⟨j, rfl⟩ : ∃ i, j = i + 1 := ⟨j - 1, by omega⟩
          have hfb := sFnd_bd hO (key := key)
          refine xg_aloadn 20 dX12_rank_19 rfl rfl rfl ?_
          refine xg_iloadn 21 dX12_rank_20 rfl rfl rfl ?_
          refine xg_callV 24 12 [_] _ kv_X12_found ⟨_, _, rfl⟩ kl_RX12_394 dX12_rank_21 rfl (by assumption) (by omega) rfl rfl (Nat.le_of_ble_eq_true rfl) (by omega) ⟨Nat.le_refl _, Nat.le_refl _⟩ (ct_X12_found hw hO (by omega)) rfl ?_
          refine xg_iconst 25 dX12_rank_24 rfl ?_
          refine xg_icne 31 28 dX12_rank_25 rfl rfl (by first | omega | exact hR _ | exact ⟨hR _, by omega⟩ | exact ⟨by omega, hR _⟩ | exact ⟨hR _, hR _⟩) (fun hb25 => ?_) (fun hb25 => ?_)
          · skip
            refine xg_iloadn 32 dX12_rank_31 rfl rfl rfl ?_
            refine xg_ifne 37 35 dX12_rank_32 rfl rfl (by first | omega | exact hR _ | exact ⟨hR _, by omega⟩ | exact ⟨by omega, hR _⟩ | exact ⟨hR _, hR _⟩) (fun hb32 => ?_) (fun hb32 => ?_)
            · skip
              refine xg_iinc 40 _ dX12_rank_37 rfl rfl rfl rfl (by decide) (Or.inr rfl) ?_
              refine xg_iinc 43 _ dX12_rank_40 rfl rfl rfl rfl (by decide) (Or.inr rfl) ?_
              refine xg_goto 9 dX12_rank_43 rfl ?_
              exact xg_weak _ (xle_s rfl (xle_s rfl (xle_s rfl (xle_s rfl xle_0)))) (ih (left + -1) (key + 1) j (by omega) (by omega) (by rw [← he, sRank, if_neg (by omega), if_neg hb25, if_neg hb32]; rfl) (by omega))
            · skip
              refine xg_iloadn 36 dX12_rank_35 rfl rfl rfl ?_
              subst hX
              exact xg_ireturn dX12_rank_36 rfl ⟨Nat.le_refl _, Nat.le_refl _⟩ ⟨by rw [← he, sRank, if_neg (by omega), if_neg hb25, if_pos hb32], rfl⟩
          · skip
            refine xg_goto 40 dX12_rank_28 rfl ?_
            refine xg_iinc 43 _ dX12_rank_40 rfl rfl rfl rfl (by decide) (Or.inr rfl) ?_
            refine xg_goto 9 dX12_rank_43 rfl ?_
            exact xg_weak _ (xle_s rfl (xle_s rfl (xle_s rfl (xle_s rfl xle_0)))) (ih left (key + 1) j hl (by omega) (by rw [← he, sRank, if_neg (by omega), if_pos hb25]) (by omega))
  exact xg_weak _ (xle_s rfl (xle_s rfl (xle_s rfl (xle_s rfl xle_0)))) (loop9 61 v 0 60 hv (by omega) rfl (by omega))

theorem dX12_total_0 : decode cX12_total 0 = .ok (.aload_n 0, 1) := by decide +kernel
theorem dX12_total_1 : decode cX12_total 1 = .ok (.iconst 0, 1) := by decide +kernel
theorem dX12_total_2 : decode cX12_total 2 = .ok (.putfield 3, 3) := by decide +kernel
theorem dX12_total_5 : decode cX12_total 5 = .ok (.aload_n 0, 1) := by decide +kernel
theorem dX12_total_6 : decode cX12_total 6 = .ok (.iload_n 1, 1) := by decide +kernel
theorem dX12_total_7 : decode cX12_total 7 = .ok (.invokestatic 388, 3) := by decide +kernel
theorem dX12_total_10 : decode cX12_total 10 = .ok (.ifCond .ne 10, 3) := by decide +kernel
theorem dX12_total_13 : decode cX12_total 13 = .ok (.iload_n 2, 1) := by decide +kernel
theorem dX12_total_14 : decode cX12_total 14 = .ok (.invokestatic 388, 3) := by decide +kernel
theorem dX12_total_17 : decode cX12_total 17 = .ok (.ifCond .eq 7, 3) := by decide +kernel
theorem dX12_total_20 : decode cX12_total 20 = .ok (.iconst 1, 1) := by decide +kernel
theorem dX12_total_21 : decode cX12_total 21 = .ok (.goto 4, 3) := by decide +kernel
theorem dX12_total_24 : decode cX12_total 24 = .ok (.iconst 0, 1) := by decide +kernel
theorem dX12_total_25 : decode cX12_total 25 = .ok (.iconst 1, 1) := by decide +kernel
theorem dX12_total_26 : decode cX12_total 26 = .ok (.invokevirtual 251, 3) := by decide +kernel
theorem dX12_total_29 : decode cX12_total 29 = .ok (.ifCond .ne 21, 3) := by decide +kernel
theorem dX12_total_32 : decode cX12_total 32 = .ok (.aload_n 0, 1) := by decide +kernel
theorem dX12_total_33 : decode cX12_total 33 = .ok (.iload_n 2, 1) := by decide +kernel
theorem dX12_total_34 : decode cX12_total 34 = .ok (.iload_n 1, 1) := by decide +kernel
theorem dX12_total_35 : decode cX12_total 35 = .ok (.if_icmp .ge 7, 3) := by decide +kernel
theorem dX12_total_38 : decode cX12_total 38 = .ok (.iconst 1, 1) := by decide +kernel
theorem dX12_total_39 : decode cX12_total 39 = .ok (.goto 4, 3) := by decide +kernel
theorem dX12_total_42 : decode cX12_total 42 = .ok (.iconst 0, 1) := by decide +kernel
theorem dX12_total_43 : decode cX12_total 43 = .ok (.iconst 2, 1) := by decide +kernel
theorem dX12_total_44 : decode cX12_total 44 = .ok (.invokevirtual 251, 3) := by decide +kernel
theorem dX12_total_47 : decode cX12_total 47 = .ok (.ifCond .eq 5, 3) := by decide +kernel
theorem dX12_total_50 : decode cX12_total 50 = .ok (.iconst 0, 1) := by decide +kernel
theorem dX12_total_51 : decode cX12_total 51 = .ok (.ireturn, 1) := by decide +kernel
theorem dX12_total_52 : decode cX12_total 52 = .ok (.iconst 0, 1) := by decide +kernel
theorem dX12_total_53 : decode cX12_total 53 = .ok (.istore_n 3, 1) := by decide +kernel
theorem dX12_total_54 : decode cX12_total 54 = .ok (.iload_n 1, 1) := by decide +kernel
theorem dX12_total_55 : decode cX12_total 55 = .ok (.istore 4, 2) := by decide +kernel
theorem dX12_total_57 : decode cX12_total 57 = .ok (.iload 4, 2) := by decide +kernel
theorem dX12_total_59 : decode cX12_total 59 = .ok (.iload_n 2, 1) := by decide +kernel
theorem dX12_total_60 : decode cX12_total 60 = .ok (.if_icmp .gt 22, 3) := by decide +kernel
theorem dX12_total_63 : decode cX12_total 63 = .ok (.iload_n 3, 1) := by decide +kernel
theorem dX12_total_64 : decode cX12_total 64 = .ok (.iconst 0, 1) := by decide +kernel
theorem dX12_total_65 : decode cX12_total 65 = .ok (.aload_n 0, 1) := by decide +kernel
theorem dX12_total_66 : decode cX12_total 66 = .ok (.iload 4, 2) := by decide +kernel
theorem dX12_total_68 : decode cX12_total 68 = .ok (.invokevirtual 394, 3) := by decide +kernel
theorem dX12_total_71 : decode cX12_total 71 = .ok (.invokestatic 343, 3) := by decide +kernel
theorem dX12_total_74 : decode cX12_total 74 = .ok (.iadd, 1) := by decide +kernel
theorem dX12_total_75 : decode cX12_total 75 = .ok (.istore_n 3, 1) := by decide +kernel
theorem dX12_total_76 : decode cX12_total 76 = .ok (.iinc 4 1, 3) := by decide +kernel
theorem dX12_total_79 : decode cX12_total 79 = .ok (.goto (-22), 3) := by decide +kernel
theorem dX12_total_82 : decode cX12_total 82 = .ok (.iload_n 3, 1) := by decide +kernel
theorem dX12_total_83 : decode cX12_total 83 = .ok (.ireturn, 1) := by decide +kernel
set_option maxHeartbeats 4000000 in
set_option maxRecDepth 100000 in
theorem ct_X12_total_t1 {E : xE} {z : Nat} {T : Nat → Nat × Int} {F : Nat → Nat → Int} {I : Nat → Int → Int} {P : Nat → Nat → Option Nat} {Y : Nat → Int → Option Nat} {m : Nat} {w : Int → Int} (hw : wM T P m) (hO : wOk w){v x : Int} (hv : -2147483648 ≤ v ∧ v < 2147483648) (hx : -2147483648 ≤ x ∧ x < 2147483648) (hb : ¬ ((0 ≤ v ∧ v < 60) ∧ 0 ≤ x ∧ x < 60)) : Ct E 2 mX12_total 0 0 [.ref m, J v, J x] (z, T, F, upA I (m + 1) w, P, Y) (xd (some (J 0)) (z, T, upF F m 0 1, upA I (m + 1) (w), P, Y)) := by
  obtain ⟨⟨q0, q1, q2, q3⟩, -⟩ := id hw
  obtain ⟨hR, o0, o1, o2, o3, o4, o5, o6, oc, o13, o14, o16, o17, o18, ov⟩ := id hO
  have hN := wN_i o0.1
  refine Ct.of [some (.ref m), some (J v), some (J x), none, none] kt_X12_total rfl (Nat.le_of_ble_eq_true rfl) rfl (fun d hd => ?_)
  generalize hX : xN E _ _ _ = X
  refine xg_aloadn 1 dX12_total_0 rfl rfl rfl ?_
  refine xg_iconst 2 dX12_total_1 rfl ?_
  refine xg_putI 5 kf_RX12_3 dX12_total_2 rfl (by assumption) ?_
  refine xg_aloadn 6 dX12_total_5 rfl rfl rfl ?_
  refine xg_iloadn 7 dX12_total_6 rfl rfl rfl ?_
  refine xg_callS 10 [_] _ ks_X12_noKey kl_RX12_388 dX12_total_7 rfl rfl rfl (Nat.le_of_ble_eq_true rfl) (by omega) ⟨Nat.le_refl _, Nat.le_refl _⟩ (ct_X12_noKey (by omega)) rfl ?_
  refine xg_dne 20 13 dX12_total_10 rfl rfl (fun hb10 => ?_) (fun hb10 => ?_)
  · first
    | (exfalso; omega)
    | skip
      refine xg_iconst 21 dX12_total_20 rfl ?_
      refine xg_goto 25 dX12_total_21 rfl ?_
      refine xg_iconst 26 dX12_total_25 rfl ?_
      refine xg_callV 29 12 [_, _] _ kv_X12_throwsIf ⟨_, _, rfl⟩ kl_RX12_251 dX12_total_26 rfl (by assumption) (by omega) rfl rfl (Nat.le_of_ble_eq_true rfl) (by omega) ⟨Nat.le_refl _, Nat.le_refl _⟩ (ct_throwsT hw) rfl ?_
      refine xg_ifne 50 32 dX12_total_29 rfl rfl (by first | omega | exact hR _ | exact ⟨hR _, by omega⟩ | exact ⟨by omega, hR _⟩ | exact ⟨hR _, hR _⟩) (fun hb29 => ?_) (fun hb29 => ?_)
      · skip
        refine xg_iconst 51 dX12_total_50 rfl ?_
        subst hX
        exact xg_ireturn dX12_total_51 rfl ⟨Nat.le_refl _, Nat.le_refl _⟩ ⟨rfl, by rw [upF_upF]⟩
      · exfalso; omega
  · first
    | (exfalso; omega)
    | skip
      refine xg_iloadn 14 dX12_total_13 rfl rfl rfl ?_
      refine xg_callS 17 [_] _ ks_X12_noKey kl_RX12_388 dX12_total_14 rfl rfl rfl (Nat.le_of_ble_eq_true rfl) (by omega) ⟨Nat.le_refl _, Nat.le_refl _⟩ (ct_X12_noKey (by omega)) rfl ?_
      refine xg_deq 24 20 dX12_total_17 rfl rfl (fun hb17 => ?_) (fun hb17 => ?_)
      · first
        | (exfalso; omega)
        | skip
          refine xg_iconst 25 dX12_total_24 rfl ?_
          refine xg_iconst 26 dX12_total_25 rfl ?_
          refine xg_callV 29 12 [_, _] _ kv_X12_throwsIf ⟨_, _, rfl⟩ kl_RX12_251 dX12_total_26 rfl (by assumption) (by omega) rfl rfl (Nat.le_of_ble_eq_true rfl) (by omega) ⟨Nat.le_refl _, Nat.le_refl _⟩ (ct_throwsF hw) rfl ?_
          refine xg_ifne 50 32 dX12_total_29 rfl rfl (by first | omega | exact hR _ | exact ⟨hR _, by omega⟩ | exact ⟨by omega, hR _⟩ | exact ⟨hR _, hR _⟩) (fun hb29 => ?_) (fun hb29 => ?_)
          · exfalso; omega
          · skip
            refine xg_aloadn 33 dX12_total_32 rfl rfl rfl ?_
            refine xg_iloadn 34 dX12_total_33 rfl rfl rfl ?_
            refine xg_iloadn 35 dX12_total_34 rfl rfl rfl ?_
            refine xg_icge 42 38 dX12_total_35 rfl rfl (by first | omega | exact hR _ | exact ⟨hR _, by omega⟩ | exact ⟨by omega, hR _⟩ | exact ⟨hR _, hR _⟩) (fun hb35 => ?_) (fun hb35 => ?_)
            · first
              | (exfalso; omega)
              | skip
                refine xg_iconst 43 dX12_total_42 rfl ?_
                refine xg_iconst 44 dX12_total_43 rfl ?_
                refine xg_callV 47 12 [_, _] _ kv_X12_throwsIf ⟨_, _, rfl⟩ kl_RX12_251 dX12_total_44 rfl (by assumption) (by omega) rfl rfl (Nat.le_of_ble_eq_true rfl) (by omega) ⟨Nat.le_refl _, Nat.le_refl _⟩ (ct_throwsF hw) rfl ?_
                refine xg_ifeq 52 50 dX12_total_47 rfl rfl (by first | omega | exact hR _ | exact ⟨hR _, by omega⟩ | exact ⟨by omega, hR _⟩ | exact ⟨hR _, hR _⟩) (fun hb47 => ?_) (fun hb47 => ?_)
                · skip
                  exfalso; omega
                · exfalso; omega
            · first
              | (exfalso; omega)
              | skip
                refine xg_iconst 39 dX12_total_38 rfl ?_
                refine xg_goto 43 dX12_total_39 rfl ?_
                refine xg_iconst 44 dX12_total_43 rfl ?_
                refine xg_callV 47 12 [_, _] _ kv_X12_throwsIf ⟨_, _, rfl⟩ kl_RX12_251 dX12_total_44 rfl (by assumption) (by omega) rfl rfl (Nat.le_of_ble_eq_true rfl) (by omega) ⟨Nat.le_refl _, Nat.le_refl _⟩ (ct_throwsT hw) rfl ?_
                refine xg_ifeq 52 50 dX12_total_47 rfl rfl (by first | omega | exact hR _ | exact ⟨hR _, by omega⟩ | exact ⟨by omega, hR _⟩ | exact ⟨hR _, hR _⟩) (fun hb47 => ?_) (fun hb47 => ?_)
                · exfalso; omega
                · skip
                  refine xg_iconst 51 dX12_total_50 rfl ?_
                  subst hX
                  exact xg_ireturn dX12_total_51 rfl ⟨Nat.le_refl _, Nat.le_refl _⟩ ⟨rfl, by rw [upF_upF]⟩
      · first
        | (exfalso; omega)
        | skip
          refine xg_iconst 21 dX12_total_20 rfl ?_
          refine xg_goto 25 dX12_total_21 rfl ?_
          refine xg_iconst 26 dX12_total_25 rfl ?_
          refine xg_callV 29 12 [_, _] _ kv_X12_throwsIf ⟨_, _, rfl⟩ kl_RX12_251 dX12_total_26 rfl (by assumption) (by omega) rfl rfl (Nat.le_of_ble_eq_true rfl) (by omega) ⟨Nat.le_refl _, Nat.le_refl _⟩ (ct_throwsT hw) rfl ?_
          refine xg_ifne 50 32 dX12_total_29 rfl rfl (by first | omega | exact hR _ | exact ⟨hR _, by omega⟩ | exact ⟨by omega, hR _⟩ | exact ⟨hR _, hR _⟩) (fun hb29 => ?_) (fun hb29 => ?_)
          · skip
            refine xg_iconst 51 dX12_total_50 rfl ?_
            subst hX
            exact xg_ireturn dX12_total_51 rfl ⟨Nat.le_refl _, Nat.le_refl _⟩ ⟨rfl, by rw [upF_upF]⟩
          · exfalso; omega

set_option maxHeartbeats 4000000 in
set_option maxRecDepth 100000 in
theorem ct_X12_total_t2 {E : xE} {z : Nat} {T : Nat → Nat × Int} {F : Nat → Nat → Int} {I : Nat → Int → Int} {P : Nat → Nat → Option Nat} {Y : Nat → Int → Option Nat} {m : Nat} {w : Int → Int} (hw : wM T P m) (hO : wOk w){v x : Int} (hv : -2147483648 ≤ v ∧ v < 2147483648) (hx : -2147483648 ≤ x ∧ x < 2147483648) (hb : ((0 ≤ v ∧ v < 60) ∧ 0 ≤ x ∧ x < 60) ∧ x < v) : Ct E 2 mX12_total 0 0 [.ref m, J v, J x] (z, T, F, upA I (m + 1) w, P, Y) (xd (some (J 0)) (z, T, upF F m 0 2, upA I (m + 1) (w), P, Y)) := by
  obtain ⟨⟨q0, q1, q2, q3⟩, -⟩ := id hw
  obtain ⟨hR, o0, o1, o2, o3, o4, o5, o6, oc, o13, o14, o16, o17, o18, ov⟩ := id hO
  have hN := wN_i o0.1
  refine Ct.of [some (.ref m), some (J v), some (J x), none, none] kt_X12_total rfl (Nat.le_of_ble_eq_true rfl) rfl (fun d hd => ?_)
  generalize hX : xN E _ _ _ = X
  refine xg_aloadn 1 dX12_total_0 rfl rfl rfl ?_
  refine xg_iconst 2 dX12_total_1 rfl ?_
  refine xg_putI 5 kf_RX12_3 dX12_total_2 rfl (by assumption) ?_
  refine xg_aloadn 6 dX12_total_5 rfl rfl rfl ?_
  refine xg_iloadn 7 dX12_total_6 rfl rfl rfl ?_
  refine xg_callS 10 [_] _ ks_X12_noKey kl_RX12_388 dX12_total_7 rfl rfl rfl (Nat.le_of_ble_eq_true rfl) (by omega) ⟨Nat.le_refl _, Nat.le_refl _⟩ (ct_X12_noKey (by omega)) rfl ?_
  refine xg_dne 20 13 dX12_total_10 rfl rfl (fun hb10 => ?_) (fun hb10 => ?_)
  · first
    | (exfalso; omega)
    | skip
      refine xg_iconst 21 dX12_total_20 rfl ?_
      refine xg_goto 25 dX12_total_21 rfl ?_
      refine xg_iconst 26 dX12_total_25 rfl ?_
      refine xg_callV 29 12 [_, _] _ kv_X12_throwsIf ⟨_, _, rfl⟩ kl_RX12_251 dX12_total_26 rfl (by assumption) (by omega) rfl rfl (Nat.le_of_ble_eq_true rfl) (by omega) ⟨Nat.le_refl _, Nat.le_refl _⟩ (ct_throwsT hw) rfl ?_
      refine xg_ifne 50 32 dX12_total_29 rfl rfl (by first | omega | exact hR _ | exact ⟨hR _, by omega⟩ | exact ⟨by omega, hR _⟩ | exact ⟨hR _, hR _⟩) (fun hb29 => ?_) (fun hb29 => ?_)
      · skip
        refine xg_iconst 51 dX12_total_50 rfl ?_
        subst hX
        exact xg_ireturn dX12_total_51 rfl ⟨Nat.le_refl _, Nat.le_refl _⟩ ⟨rfl, by rw [upF_upF]⟩
      · exfalso; omega
  · first
    | (exfalso; omega)
    | skip
      refine xg_iloadn 14 dX12_total_13 rfl rfl rfl ?_
      refine xg_callS 17 [_] _ ks_X12_noKey kl_RX12_388 dX12_total_14 rfl rfl rfl (Nat.le_of_ble_eq_true rfl) (by omega) ⟨Nat.le_refl _, Nat.le_refl _⟩ (ct_X12_noKey (by omega)) rfl ?_
      refine xg_deq 24 20 dX12_total_17 rfl rfl (fun hb17 => ?_) (fun hb17 => ?_)
      · first
        | (exfalso; omega)
        | skip
          refine xg_iconst 25 dX12_total_24 rfl ?_
          refine xg_iconst 26 dX12_total_25 rfl ?_
          refine xg_callV 29 12 [_, _] _ kv_X12_throwsIf ⟨_, _, rfl⟩ kl_RX12_251 dX12_total_26 rfl (by assumption) (by omega) rfl rfl (Nat.le_of_ble_eq_true rfl) (by omega) ⟨Nat.le_refl _, Nat.le_refl _⟩ (ct_throwsF hw) rfl ?_
          refine xg_ifne 50 32 dX12_total_29 rfl rfl (by first | omega | exact hR _ | exact ⟨hR _, by omega⟩ | exact ⟨by omega, hR _⟩ | exact ⟨hR _, hR _⟩) (fun hb29 => ?_) (fun hb29 => ?_)
          · exfalso; omega
          · skip
            refine xg_aloadn 33 dX12_total_32 rfl rfl rfl ?_
            refine xg_iloadn 34 dX12_total_33 rfl rfl rfl ?_
            refine xg_iloadn 35 dX12_total_34 rfl rfl rfl ?_
            refine xg_icge 42 38 dX12_total_35 rfl rfl (by first | omega | exact hR _ | exact ⟨hR _, by omega⟩ | exact ⟨by omega, hR _⟩ | exact ⟨hR _, hR _⟩) (fun hb35 => ?_) (fun hb35 => ?_)
            · first
              | (exfalso; omega)
              | skip
                refine xg_iconst 43 dX12_total_42 rfl ?_
                refine xg_iconst 44 dX12_total_43 rfl ?_
                refine xg_callV 47 12 [_, _] _ kv_X12_throwsIf ⟨_, _, rfl⟩ kl_RX12_251 dX12_total_44 rfl (by assumption) (by omega) rfl rfl (Nat.le_of_ble_eq_true rfl) (by omega) ⟨Nat.le_refl _, Nat.le_refl _⟩ (ct_throwsF hw) rfl ?_
                refine xg_ifeq 52 50 dX12_total_47 rfl rfl (by first | omega | exact hR _ | exact ⟨hR _, by omega⟩ | exact ⟨by omega, hR _⟩ | exact ⟨hR _, hR _⟩) (fun hb47 => ?_) (fun hb47 => ?_)
                · skip
                  exfalso; omega
                · exfalso; omega
            · first
              | (exfalso; omega)
              | skip
                refine xg_iconst 39 dX12_total_38 rfl ?_
                refine xg_goto 43 dX12_total_39 rfl ?_
                refine xg_iconst 44 dX12_total_43 rfl ?_
                refine xg_callV 47 12 [_, _] _ kv_X12_throwsIf ⟨_, _, rfl⟩ kl_RX12_251 dX12_total_44 rfl (by assumption) (by omega) rfl rfl (Nat.le_of_ble_eq_true rfl) (by omega) ⟨Nat.le_refl _, Nat.le_refl _⟩ (ct_throwsT hw) rfl ?_
                refine xg_ifeq 52 50 dX12_total_47 rfl rfl (by first | omega | exact hR _ | exact ⟨hR _, by omega⟩ | exact ⟨by omega, hR _⟩ | exact ⟨hR _, hR _⟩) (fun hb47 => ?_) (fun hb47 => ?_)
                · exfalso; omega
                · skip
                  refine xg_iconst 51 dX12_total_50 rfl ?_
                  subst hX
                  exact xg_ireturn dX12_total_51 rfl ⟨Nat.le_refl _, Nat.le_refl _⟩ ⟨rfl, by rw [upF_upF]⟩
      · first
        | (exfalso; omega)
        | skip
          refine xg_iconst 21 dX12_total_20 rfl ?_
          refine xg_goto 25 dX12_total_21 rfl ?_
          refine xg_iconst 26 dX12_total_25 rfl ?_
          refine xg_callV 29 12 [_, _] _ kv_X12_throwsIf ⟨_, _, rfl⟩ kl_RX12_251 dX12_total_26 rfl (by assumption) (by omega) rfl rfl (Nat.le_of_ble_eq_true rfl) (by omega) ⟨Nat.le_refl _, Nat.le_refl _⟩ (ct_throwsT hw) rfl ?_
          refine xg_ifne 50 32 dX12_total_29 rfl rfl (by first | omega | exact hR _ | exact ⟨hR _, by omega⟩ | exact ⟨by omega, hR _⟩ | exact ⟨hR _, hR _⟩) (fun hb29 => ?_) (fun hb29 => ?_)
          · skip
            refine xg_iconst 51 dX12_total_50 rfl ?_
            subst hX
            exact xg_ireturn dX12_total_51 rfl ⟨Nat.le_refl _, Nat.le_refl _⟩ ⟨rfl, by rw [upF_upF]⟩
          · exfalso; omega

set_option maxHeartbeats 4000000 in
set_option maxRecDepth 100000 in
theorem ct_X12_total {E : xE} {z : Nat} {T : Nat → Nat × Int} {F : Nat → Nat → Int} {I : Nat → Int → Int} {P : Nat → Nat → Option Nat} {Y : Nat → Int → Option Nat} {m : Nat} {w : Int → Int} (hw : wM T P m) (hO : wOk w){v x : Int} (hv : 0 ≤ v ∧ v ≤ x ∧ x < 60) : Ct E 4 mX12_total 0 0 [.ref m, J v, J x] (z, T, F, upA I (m + 1) w, P, Y) (xd (some (J (pTot w v (x - v + 1).toNat))) (z, T, upF F m 0 0, upA I (m + 1) (w), P, Y)) := by
  obtain ⟨⟨q0, q1, q2, q3⟩, -⟩ := id hw
  obtain ⟨hR, o0, o1, o2, o3, o4, o5, o6, oc, o13, o14, o16, o17, o18, ov⟩ := id hO
  have hN := wN_i o0.1
  refine Ct.of [some (.ref m), some (J v), some (J x), none, none] kt_X12_total rfl (Nat.le_of_ble_eq_true rfl) rfl (fun d hd => ?_)
  generalize hX : xN E _ _ _ = X
  refine xg_aloadn 1 dX12_total_0 rfl rfl rfl ?_
  refine xg_iconst 2 dX12_total_1 rfl ?_
  refine xg_putI 5 kf_RX12_3 dX12_total_2 rfl (by assumption) ?_
  refine xg_aloadn 6 dX12_total_5 rfl rfl rfl ?_
  refine xg_iloadn 7 dX12_total_6 rfl rfl rfl ?_
  refine xg_callS 10 [_] _ ks_X12_noKey kl_RX12_388 dX12_total_7 rfl rfl rfl (Nat.le_of_ble_eq_true rfl) (by omega) ⟨Nat.le_refl _, Nat.le_refl _⟩ (ct_X12_noKey (by omega)) rfl ?_
  refine xg_dne 20 13 dX12_total_10 rfl rfl (fun hb10 => ?_) (fun hb10 => ?_)
  · first
    | (exfalso; omega)
    | skip
      refine xg_iconst 21 dX12_total_20 rfl ?_
      refine xg_goto 25 dX12_total_21 rfl ?_
      refine xg_iconst 26 dX12_total_25 rfl ?_
      refine xg_callV 29 12 [_, _] _ kv_X12_throwsIf ⟨_, _, rfl⟩ kl_RX12_251 dX12_total_26 rfl (by assumption) (by omega) rfl rfl (Nat.le_of_ble_eq_true rfl) (by omega) ⟨Nat.le_refl _, Nat.le_refl _⟩ (ct_throwsT hw) rfl ?_
      refine xg_ifne 50 32 dX12_total_29 rfl rfl (by first | omega | exact hR _ | exact ⟨hR _, by omega⟩ | exact ⟨by omega, hR _⟩ | exact ⟨hR _, hR _⟩) (fun hb29 => ?_) (fun hb29 => ?_)
      · skip
        exfalso; omega
      · exfalso; omega
  · first
    | (exfalso; omega)
    | skip
      refine xg_iloadn 14 dX12_total_13 rfl rfl rfl ?_
      refine xg_callS 17 [_] _ ks_X12_noKey kl_RX12_388 dX12_total_14 rfl rfl rfl (Nat.le_of_ble_eq_true rfl) (by omega) ⟨Nat.le_refl _, Nat.le_refl _⟩ (ct_X12_noKey (by omega)) rfl ?_
      refine xg_deq 24 20 dX12_total_17 rfl rfl (fun hb17 => ?_) (fun hb17 => ?_)
      · first
        | (exfalso; omega)
        | skip
          refine xg_iconst 25 dX12_total_24 rfl ?_
          refine xg_iconst 26 dX12_total_25 rfl ?_
          refine xg_callV 29 12 [_, _] _ kv_X12_throwsIf ⟨_, _, rfl⟩ kl_RX12_251 dX12_total_26 rfl (by assumption) (by omega) rfl rfl (Nat.le_of_ble_eq_true rfl) (by omega) ⟨Nat.le_refl _, Nat.le_refl _⟩ (ct_throwsF hw) rfl ?_
          refine xg_ifne 50 32 dX12_total_29 rfl rfl (by first | omega | exact hR _ | exact ⟨hR _, by omega⟩ | exact ⟨by omega, hR _⟩ | exact ⟨hR _, hR _⟩) (fun hb29 => ?_) (fun hb29 => ?_)
          · exfalso; omega
          · skip
            refine xg_aloadn 33 dX12_total_32 rfl rfl rfl ?_
            refine xg_iloadn 34 dX12_total_33 rfl rfl rfl ?_
            refine xg_iloadn 35 dX12_total_34 rfl rfl rfl ?_
            refine xg_icge 42 38 dX12_total_35 rfl rfl (by first | omega | exact hR _ | exact ⟨hR _, by omega⟩ | exact ⟨by omega, hR _⟩ | exact ⟨hR _, hR _⟩) (fun hb35 => ?_) (fun hb35 => ?_)
            · first
              | (exfalso; omega)
              | skip
                refine xg_iconst 43 dX12_total_42 rfl ?_
                refine xg_iconst 44 dX12_total_43 rfl ?_
                refine xg_callV 47 12 [_, _] _ kv_X12_throwsIf ⟨_, _, rfl⟩ kl_RX12_251 dX12_total_44 rfl (by assumption) (by omega) rfl rfl (Nat.le_of_ble_eq_true rfl) (by omega) ⟨Nat.le_refl _, Nat.le_refl _⟩ (ct_throwsF hw) rfl ?_
                refine xg_ifeq 52 50 dX12_total_47 rfl rfl (by first | omega | exact hR _ | exact ⟨hR _, by omega⟩ | exact ⟨by omega, hR _⟩ | exact ⟨hR _, hR _⟩) (fun hb47 => ?_) (fun hb47 => ?_)
                · skip
                  refine xg_iconst 53 dX12_total_52 rfl ?_
                  refine xg_istoren 54 _ dX12_total_53 rfl rfl rfl (by decide) (Or.inr rfl) ?_
                  refine xg_iloadn 55 dX12_total_54 rfl rfl rfl ?_
                  refine xg_istore 57 _ dX12_total_55 rfl rfl (by decide) (Or.inr rfl) ?_
                  have loop57 : ∀ (mm : Nat) (k : Nat), (v + k ≤ x + 1) → x + 1 - (v + k) < (mm : Int) → xG E mX12_total (xR d 0 0) X 57 [some (.ref m), some (J v), some (J x), some (J (pTot w v k)), some (J (v + k))] [] (z, T, upF F m 0 0, upA I (m + 1) (w), P, Y) 0 0 := by
                    intro mm
                    induction mm with
                    | zero => intro k hk hm; exfalso; omega
                    | succ mm ih =>
                      intro k hk hm
                      have hpb := pTot_bd hO (f := v) (by omega) k (by omega)
                      refine xg_iload 59 dX12_total_57 rfl rfl ?_
                      refine xg_iloadn 60 dX12_total_59 rfl rfl rfl ?_
                      refine xg_icgt 82 63 dX12_total_60 rfl rfl (by first | omega | exact hR _ | exact ⟨hR _, by omega⟩ | exact ⟨by omega, hR _⟩ | exact ⟨hR _, hR _⟩) (fun hb60 => ?_) (fun hb60 => ?_)
                      · skip
                        refine xg_iloadn 83 dX12_total_82 rfl rfl rfl ?_
                        subst hX
                        exact xg_ireturn dX12_total_83 rfl ⟨Nat.le_refl _, Nat.le_refl _⟩ ⟨by rw [show k = (x - v + 1).toNat by omega], rfl⟩
                      · skip
                        have hfb := sFnd_r hO (key := v + (k : Int)) (by omega)
                        refine xg_iloadn 64 dX12_total_63 rfl rfl rfl ?_
                        refine xg_iconst 65 dX12_total_64 rfl ?_
                        refine xg_aloadn 66 dX12_total_65 rfl rfl rfl ?_
                        refine xg_iload 68 dX12_total_66 rfl rfl ?_
                        refine xg_callV 71 12 [_] _ kv_X12_found ⟨_, _, rfl⟩ kl_RX12_394 dX12_total_68 rfl (by assumption) (by omega) rfl rfl (Nat.le_of_ble_eq_true rfl) (by omega) ⟨Nat.le_refl _, Nat.le_refl _⟩ (ct_X12_found hw hO (by omega)) rfl ?_
                        refine xg_mmax 74 kl_RX12_343 dX12_total_71 rfl (by first | omega | exact hR _ | exact ⟨hR _, by omega⟩ | exact ⟨by omega, hR _⟩ | exact ⟨hR _, hR _⟩) (Nat.le_of_ble_eq_true rfl) (by omega) ⟨Nat.le_refl _, Nat.le_refl _⟩ ?_
                        refine xg_iadd 75 dX12_total_74 rfl ?_
                        refine xg_istoren 76 _ dX12_total_75 rfl rfl rfl (by decide) (Or.inr rfl) ?_
                        refine xg_iinc 79 _ dX12_total_76 rfl rfl rfl rfl (by decide) (Or.inr rfl) ?_
                        refine xg_goto 57 dX12_total_79 rfl ?_
                        exact xg_weak _ (xle_s rfl (xle_s rfl (xle_s rfl (xle_s (by rw [pTot]) (xle_s (by rw [show v + ((k + 1 : Nat) : Int) = v + k + 1 by omega]) xle_0))))) (ih (k + 1) (by omega) (by omega))
                  exact xg_weak _ (xle_s rfl (xle_s rfl (xle_s rfl (xle_s rfl (xle_s (by rw [show v + ((0 : Nat) : Int) = v by omega]) xle_0))))) (loop57 70 0 (by omega) (by omega))
                · exfalso; omega
            · first
              | (exfalso; omega)
              | skip
                refine xg_iconst 39 dX12_total_38 rfl ?_
                refine xg_goto 43 dX12_total_39 rfl ?_
                refine xg_iconst 44 dX12_total_43 rfl ?_
                refine xg_callV 47 12 [_, _] _ kv_X12_throwsIf ⟨_, _, rfl⟩ kl_RX12_251 dX12_total_44 rfl (by assumption) (by omega) rfl rfl (Nat.le_of_ble_eq_true rfl) (by omega) ⟨Nat.le_refl _, Nat.le_refl _⟩ (ct_throwsT hw) rfl ?_
                refine xg_ifeq 52 50 dX12_total_47 rfl rfl (by first | omega | exact hR _ | exact ⟨hR _, by omega⟩ | exact ⟨by omega, hR _⟩ | exact ⟨hR _, hR _⟩) (fun hb47 => ?_) (fun hb47 => ?_)
                · exfalso; omega
                · skip
                  exfalso; omega
      · first
        | (exfalso; omega)
        | skip
          refine xg_iconst 21 dX12_total_20 rfl ?_
          refine xg_goto 25 dX12_total_21 rfl ?_
          refine xg_iconst 26 dX12_total_25 rfl ?_
          refine xg_callV 29 12 [_, _] _ kv_X12_throwsIf ⟨_, _, rfl⟩ kl_RX12_251 dX12_total_26 rfl (by assumption) (by omega) rfl rfl (Nat.le_of_ble_eq_true rfl) (by omega) ⟨Nat.le_refl _, Nat.le_refl _⟩ (ct_throwsT hw) rfl ?_
          refine xg_ifne 50 32 dX12_total_29 rfl rfl (by first | omega | exact hR _ | exact ⟨hR _, by omega⟩ | exact ⟨by omega, hR _⟩ | exact ⟨hR _, hR _⟩) (fun hb29 => ?_) (fun hb29 => ?_)
          · skip
            exfalso; omega
          · exfalso; omega

theorem dX12_deepest_0 : decode cX12_deepest 0 = .ok (.aload_n 0, 1) := by decide +kernel
theorem dX12_deepest_1 : decode cX12_deepest 1 = .ok (.iconst 0, 1) := by decide +kernel
theorem dX12_deepest_2 : decode cX12_deepest 2 = .ok (.putfield 3, 3) := by decide +kernel
theorem dX12_deepest_5 : decode cX12_deepest 5 = .ok (.iconst 0, 1) := by decide +kernel
theorem dX12_deepest_6 : decode cX12_deepest 6 = .ok (.istore_n 1, 1) := by decide +kernel
theorem dX12_deepest_7 : decode cX12_deepest 7 = .ok (.iconst 0, 1) := by decide +kernel
theorem dX12_deepest_8 : decode cX12_deepest 8 = .ok (.istore_n 2, 1) := by decide +kernel
theorem dX12_deepest_9 : decode cX12_deepest 9 = .ok (.iload_n 2, 1) := by decide +kernel
theorem dX12_deepest_10 : decode cX12_deepest 10 = .ok (.bipush 60, 2) := by decide +kernel
theorem dX12_deepest_12 : decode cX12_deepest 12 = .ok (.if_icmp .ge 32, 3) := by decide +kernel
theorem dX12_deepest_15 : decode cX12_deepest 15 = .ok (.aload_n 0, 1) := by decide +kernel
theorem dX12_deepest_16 : decode cX12_deepest 16 = .ok (.iload_n 2, 1) := by decide +kernel
theorem dX12_deepest_17 : decode cX12_deepest 17 = .ok (.invokevirtual 394, 3) := by decide +kernel
theorem dX12_deepest_20 : decode cX12_deepest 20 = .ok (.iconst (-1), 1) := by decide +kernel
theorem dX12_deepest_21 : decode cX12_deepest 21 = .ok (.if_icmp .ne 7, 3) := by decide +kernel
theorem dX12_deepest_24 : decode cX12_deepest 24 = .ok (.iload_n 1, 1) := by decide +kernel
theorem dX12_deepest_25 : decode cX12_deepest 25 = .ok (.goto 12, 3) := by decide +kernel
theorem dX12_deepest_28 : decode cX12_deepest 28 = .ok (.iload_n 1, 1) := by decide +kernel
theorem dX12_deepest_29 : decode cX12_deepest 29 = .ok (.aload_n 0, 1) := by decide +kernel
theorem dX12_deepest_30 : decode cX12_deepest 30 = .ok (.iload_n 2, 1) := by decide +kernel
theorem dX12_deepest_31 : decode cX12_deepest 31 = .ok (.invokevirtual 397, 3) := by decide +kernel
theorem dX12_deepest_34 : decode cX12_deepest 34 = .ok (.invokestatic 343, 3) := by decide +kernel
theorem dX12_deepest_37 : decode cX12_deepest 37 = .ok (.istore_n 1, 1) := by decide +kernel
theorem dX12_deepest_38 : decode cX12_deepest 38 = .ok (.iinc 2 1, 3) := by decide +kernel
theorem dX12_deepest_41 : decode cX12_deepest 41 = .ok (.goto (-32), 3) := by decide +kernel
theorem dX12_deepest_44 : decode cX12_deepest 44 = .ok (.iload_n 1, 1) := by decide +kernel
theorem dX12_deepest_45 : decode cX12_deepest 45 = .ok (.ireturn, 1) := by decide +kernel
set_option maxHeartbeats 4000000 in
set_option maxRecDepth 100000 in
theorem ct_X12_deepest {E : xE} {z : Nat} {T : Nat → Nat × Int} {F : Nat → Nat → Int} {I : Nat → Int → Int} {P : Nat → Nat → Option Nat} {Y : Nat → Int → Option Nat} {m : Nat} {w : Int → Int} (hw : wM T P m) (hO : wOk w) : Ct E 4 mX12_deepest 0 0 [.ref m] (z, T, F, upA I (m + 1) w, P, Y) (xd (some (J (sDeep w 60))) (z, T, upF F m 0 0, upA I (m + 1) (w), P, Y)) := by
  obtain ⟨⟨q0, q1, q2, q3⟩, -⟩ := id hw
  obtain ⟨hR, o0, o1, o2, o3, o4, o5, o6, oc, o13, o14, o16, o17, o18, ov⟩ := id hO
  have hN := wN_i o0.1
  refine Ct.of [some (.ref m), none, none] kt_X12_deepest rfl (Nat.le_of_ble_eq_true rfl) rfl (fun d hd => ?_)
  generalize hX : xN E _ _ _ = X
  refine xg_aloadn 1 dX12_deepest_0 rfl rfl rfl ?_
  refine xg_iconst 2 dX12_deepest_1 rfl ?_
  refine xg_putI 5 kf_RX12_3 dX12_deepest_2 rfl (by assumption) ?_
  refine xg_iconst 6 dX12_deepest_5 rfl ?_
  refine xg_istoren 7 _ dX12_deepest_6 rfl rfl rfl (by decide) (Or.inr rfl) ?_
  refine xg_iconst 8 dX12_deepest_7 rfl ?_
  refine xg_istoren 9 _ dX12_deepest_8 rfl rfl rfl (by decide) (Or.inr rfl) ?_
  have loop9 : ∀ (mm : Nat) (k : Nat), k ≤ 60 → 60 - (k : Int) < (mm : Int) → xG E mX12_deepest (xR d 0 0) X 9 [some (.ref m), some (J (sDeep w k)), some (J (k : Int))] [] (z, T, upF F m 0 0, upA I (m + 1) (w), P, Y) 0 0 := by
    intro mm
    induction mm with
    | zero => intro k hk hm; exfalso; omega
    | succ mm ih =>
      intro k hk hm
      have hdb := sDeep_bd hO k
      have hfb := sFnd_bd hO (key := (k : Int))
      have htb := sTook_bd hO (k : Int)
      refine xg_iloadn 10 dX12_deepest_9 rfl rfl rfl ?_
      refine xg_bipush 12 dX12_deepest_10 rfl (by decide) ?_
      refine xg_icge 44 15 dX12_deepest_12 rfl rfl (by first | omega | exact hR _ | exact ⟨hR _, by omega⟩ | exact ⟨by omega, hR _⟩ | exact ⟨hR _, hR _⟩) (fun hb12 => ?_) (fun hb12 => ?_)
      · skip
        refine xg_iloadn 45 dX12_deepest_44 rfl rfl rfl ?_
        subst hX
        exact xg_ireturn dX12_deepest_45 rfl ⟨Nat.le_refl _, Nat.le_refl _⟩ ⟨by rw [show k = 60 by omega], rfl⟩
      · skip
        refine xg_aloadn 16 dX12_deepest_15 rfl rfl rfl ?_
        refine xg_iloadn 17 dX12_deepest_16 rfl rfl rfl ?_
        refine xg_callV 20 12 [_] _ kv_X12_found ⟨_, _, rfl⟩ kl_RX12_394 dX12_deepest_17 rfl (by assumption) (by omega) rfl rfl (Nat.le_of_ble_eq_true rfl) (by omega) ⟨Nat.le_refl _, Nat.le_refl _⟩ (ct_X12_found hw hO (by omega)) rfl ?_
        refine xg_iconst 21 dX12_deepest_20 rfl ?_
        refine xg_icne 28 24 dX12_deepest_21 rfl rfl (by first | omega | exact hR _ | exact ⟨hR _, by omega⟩ | exact ⟨by omega, hR _⟩ | exact ⟨hR _, hR _⟩) (fun hb21 => ?_) (fun hb21 => ?_)
        · skip
          refine xg_iloadn 29 dX12_deepest_28 rfl rfl rfl ?_
          refine xg_aloadn 30 dX12_deepest_29 rfl rfl rfl ?_
          refine xg_iloadn 31 dX12_deepest_30 rfl rfl rfl ?_
          refine xg_callV 34 12 [_] _ kv_X12_took ⟨_, _, rfl⟩ kl_RX12_397 dX12_deepest_31 rfl (by assumption) (by omega) rfl rfl (Nat.le_of_ble_eq_true rfl) (by omega) ⟨Nat.le_refl _, Nat.le_refl _⟩ (ct_X12_took hw hO (by omega)) rfl ?_
          refine xg_mmax 37 kl_RX12_343 dX12_deepest_34 rfl (by first | omega | exact hR _ | exact ⟨hR _, by omega⟩ | exact ⟨by omega, hR _⟩ | exact ⟨hR _, hR _⟩) (Nat.le_of_ble_eq_true rfl) (by omega) ⟨Nat.le_refl _, Nat.le_refl _⟩ ?_
          refine xg_istoren 38 _ dX12_deepest_37 rfl rfl rfl (by decide) (Or.inr rfl) ?_
          refine xg_iinc 41 _ dX12_deepest_38 rfl rfl rfl rfl (by decide) (Or.inr rfl) ?_
          refine xg_goto 9 dX12_deepest_41 rfl ?_
          exact xg_weak _ (xle_s rfl (xle_s (by rw [sDeep]; first | rw [if_neg hb21] | rw [if_pos hb21]) (xle_s rfl xle_0))) (ih (k + 1) (by omega) (by omega))
        · skip
          refine xg_iloadn 25 dX12_deepest_24 rfl rfl rfl ?_
          refine xg_goto 37 dX12_deepest_25 rfl ?_
          refine xg_istoren 38 _ dX12_deepest_37 rfl rfl rfl (by decide) (Or.inr rfl) ?_
          refine xg_iinc 41 _ dX12_deepest_38 rfl rfl rfl rfl (by decide) (Or.inr rfl) ?_
          refine xg_goto 9 dX12_deepest_41 rfl ?_
          exact xg_weak _ (xle_s rfl (xle_s (by rw [sDeep]; first | rw [if_neg hb21] | rw [if_pos hb21]) (xle_s rfl xle_0))) (ih (k + 1) (by omega) (by omega))
  exact xg_weak _ (xle_s rfl (xle_s rfl (xle_s rfl xle_0))) (loop9 70 0 (by omega) (by omega))

