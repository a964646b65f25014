/-! image -/
theorem dX11_image_0 : decode cX11_image 0 = .ok (.aload_n 0, 1) := by decide +kernel
theorem dX11_image_1 : decode cX11_image 1 = .ok (.getfield 30, 3) := by decide +kernel
theorem dX11_image_4 : decode cX11_image 4 = .ok (.ifnonnull 14, 3) := by decide +kernel
theorem dX11_image_7 : decode cX11_image 7 = .ok (.aload_n 0, 1) := by decide +kernel
theorem dX11_image_8 : decode cX11_image 8 = .ok (.new 20, 3) := by decide +kernel
theorem dX11_image_11 : decode cX11_image 11 = .ok (.dup, 1) := by decide +kernel
theorem dX11_image_12 : decode cX11_image 12 = .ok (.invokespecial 22, 3) := by decide +kernel
theorem dX11_image_15 : decode cX11_image 15 = .ok (.putfield 30, 3) := by decide +kernel
theorem dX11_image_18 : decode cX11_image 18 = .ok (.aload_n 0, 1) := by decide +kernel
theorem dX11_image_19 : decode cX11_image 19 = .ok (.getfield 30, 3) := by decide +kernel
theorem dX11_image_22 : decode cX11_image 22 = .ok (.aload_n 0, 1) := by decide +kernel
theorem dX11_image_23 : decode cX11_image 23 = .ok (.getfield 23, 3) := by decide +kernel
theorem dX11_image_26 : decode cX11_image 26 = .ok (.invokevirtual 81, 3) := by decide +kernel
theorem dX11_image_29 : decode cX11_image 29 = .ok (.return_, 1) := by decide +kernel
set_option maxHeartbeats 4000000 in
set_option maxRecDepth 100000 in
theorem ct_X11_image_o {E : xE} {z : Nat} {T : Nat → Nat × Int} {F : Nat → Nat → Int} {I : Nat → Int → Int} {P : Nat → Nat → Option Nat} {Y : Nat → Int → Option Nat} {o m : Nat} {ws : Nat → Option wWo} (hL : LK T F I P Y o m z ws) {a : Nat} {u : wWo} (h3 : P o 3 = some a) (hu : ws 0 = some u) {k : Nat} (h5 : P o 5 = some k) : Ct E 3 mX11_image 57 2100 [.ref o] (z, T, F, I, P, Y) (fun v h' => v = none ∧ ∃ (z' : Nat) (T' : Nat → Nat × Int) (F' : Nat → Nat → Int) (I' : Nat → Int → Int) (P' : Nat → Nat → Option Nat) (Y' : Nat → Int → Option Nat), h' = (z', T', F', I', P', Y') ∧ z ≤ z' ∧ LK T' F' I' P' Y' o m z' (wsU ws 2 (some u)) ∧ (∀ k : Nat, k ≠ 5 → P' o k = P o k) ∧ (∃ x : Nat, P' o 5 = some x) ∧ F' o = F o ∧ I' (o + 1) = I (o + 1) ∧ Y' (o + 116) = Y (o + 116) ∧ LF m T F I P Y T' F' I' P' Y') := by
  have h1 : (T o).1 = 12 := hL.1.1
  have hc := hL.cpy (s0 := 2) (s1 := 0) (by decide) (by decide) (by decide) h5 h3 hu (E := E)
  have k1 : (T k).1 = 9 := (hL.2.2.1 2 k (by decide) h5).1.1.1
  refine Ct.of [some (.ref o)] kt_X11_image rfl (Nat.le_of_ble_eq_true rfl) rfl (fun d hd => ?_)
  generalize hX : xN E _ _ _ = X
  refine xg_aloadn 1 dX11_image_0 rfl rfl rfl ?_
  refine xg_getP 4 kf_RX11_30 dX11_image_1 rfl h1 h5 ?_
  refine xg_ifnn 18 dX11_image_4 rfl ?_
  refine xg_aloadn 19 dX11_image_18 rfl rfl rfl ?_
  refine xg_getP 22 kf_RX11_30 dX11_image_19 rfl h1 h5 ?_
  refine xg_aloadn 23 dX11_image_22 rfl rfl rfl ?_
  refine xg_getP 26 kf_RX11_23 dX11_image_23 rfl h1 h3 ?_
  refine xg_callVe 29 8 [_] _ kv_X8_copyFrom ⟨_, _, rfl⟩ kl_RX11_81 dX11_image_26 rfl k1 (by omega) rfl rfl (Nat.le_of_ble_eq_true rfl) (by omega) ⟨by first | decide | omega, by first | decide | omega⟩ (hc.1) rfl (fun v9 h9 e9 => ?_)
  obtain ⟨rfl, F9, I9, P9, rfl, hS9, hF9, h169⟩ := e9
  obtain ⟨c1, c2, c3, c4, c5⟩ := hL.copy (s0 := 2) (s1 := 0) (by decide) (by decide) (by decide) h5 h3 hu hS9 hc.2 hF9 h169
  subst hX
  refine xg_return dX11_image_29 rfl ⟨by first | decide | omega, by first | decide | omega⟩ ?_
  exact ⟨rfl, _, _, _, _, _, _, rfl, Nat.le_refl _, c1, fun j _ => by rw [c2], ⟨k, by rw [c2]; exact h5⟩, c3, c4, rfl, c5⟩

set_option maxHeartbeats 4000000 in
set_option maxRecDepth 100000 in
theorem ct_X11_image_n {E : xE} {z : Nat} {T : Nat → Nat × Int} {F : Nat → Nat → Int} {I : Nat → Int → Int} {P : Nat → Nat → Option Nat} {Y : Nat → Int → Option Nat} {o m : Nat} {ws : Nat → Option wWo} (hL : LK T F I P Y o m z ws) {a : Nat} {u : wWo} (h3 : P o 3 = some a) (hu : ws 0 = some u) (hE : ∀ u : State, E.2.2.2.2 u → xOld u) (h5 : P o 5 = none) : Ct E 3 mX11_image 57 2100 [.ref o] (z, T, F, I, P, Y) (fun v h' => v = none ∧ ∃ (z' : Nat) (T' : Nat → Nat × Int) (F' : Nat → Nat → Int) (I' : Nat → Int → Int) (P' : Nat → Nat → Option Nat) (Y' : Nat → Int → Option Nat), h' = (z', T', F', I', P', Y') ∧ z ≤ z' ∧ LK T' F' I' P' Y' o m z' (wsU ws 2 (some u)) ∧ (∀ k : Nat, k ≠ 5 → P' o k = P o k) ∧ (∃ x : Nat, P' o 5 = some x) ∧ F' o = F o ∧ I' (o + 1) = I (o + 1) ∧ Y' (o + 116) = Y (o + 116) ∧ LF m T F I P Y T' F' I' P' Y') := by
  have h1 : (T o).1 = 12 := hL.1.1
  have hz := hL.2.2.2.2.2.1
  refine Ct.of [some (.ref o)] kt_X11_image rfl (Nat.le_of_ble_eq_true rfl) rfl (fun d hd => ?_)
  generalize hX : xN E _ _ _ = X
  refine xg_aloadn 1 dX11_image_0 rfl rfl rfl ?_
  refine xg_get0 4 kf_RX11_30 dX11_image_1 rfl h1 h5 ?_
  refine xg_ifnn0 7 dX11_image_4 rfl ?_
  refine xg_aloadn 8 dX11_image_7 rfl rfl rfl ?_
  refine xg_new 11 kc_8 kd_8 kn_RX11_20 kw_RX8 dX11_image_8 rfl ⟨by first | decide | omega, by first | decide | omega⟩ ?_
  refine xg_dup 12 dX11_image_11 rfl rfl ?_
  refine xg_callIs 15 [] _ ki_X8_init kl_RX11_22 dX11_image_12 rfl rfl rfl (Nat.le_of_ble_eq_true rfl) (by omega) ⟨by first | decide | omega, by first | decide | omega⟩ (ct_X8_init hE (by rw [upT_at]) rfl (fun j => by rw [up0_at]) (by rw [up0_at])) (fun T1 F1 I1 P1 Y1 hN1 hL1 => ?_)
  have hL2 : Lo z T F I P Y T1 F1 I1 P1 Y1 := fun b hb => by
    have e := hL1 b hb
    simp (disch := omega) only [upT_na, up0_na] at e
    exact e
  have q1 : (T1 o).1 = 12 := by rw [(hL2 o (by omega)).1]; exact h1
  have r3 : upP P1 o 5 (some z) o 3 = some a := by rw [upP_nk _ _ _ _ (by decide), (hL2 o (by omega)).2.2.2.1]; exact h3
  have r5 : upP P1 o 5 (some z) o 5 = some z := upP_at _ _ _ _
  obtain ⟨hK, hM⟩ := hL.new (s0 := 2) (P2 := upP P1 o 5 (some z)) (Y2 := Y1) (by decide) h5 hL2 hN1.sr.sw hN1.2.2.2.2.1 (fun s hs9 => by
    unfold lSl
    by_cases e2 : s = 2
    · subst e2; exact r5
    · rw [if_neg e2, if_neg e2, if_neg e2, upP_nk _ _ _ _ (by decide), upP_nk _ _ _ _ (by decide), (hL2 o (by omega)).2.2.2.1, (hL2 (o + 116) (by omega)).2.2.2.2]) (fun b hb => upP_na _ _ _ _ hb) (fun k _ _ hk => upP_nk _ _ _ _ hk) (fun _ _ => rfl)
  have hc := hK.cpy (s0 := 2) (s1 := 0) (by decide) (by decide) (by decide) r5 r3 hu (E := E)
  have k1 : (T1 z).1 = 9 := hN1.1.1.1
  refine xg_putO 18 kf_RX11_30 dX11_image_15 rfl q1 (show _ = va_rf (some z) from rfl) ?_
  refine xg_aloadn 19 dX11_image_18 rfl rfl rfl ?_
  refine xg_getP 22 kf_RX11_30 dX11_image_19 rfl q1 r5 ?_
  refine xg_aloadn 23 dX11_image_22 rfl rfl rfl ?_
  refine xg_getP 26 kf_RX11_23 dX11_image_23 rfl q1 r3 ?_
  refine xg_callVe 29 8 [_] _ kv_X8_copyFrom ⟨_, _, rfl⟩ kl_RX11_81 dX11_image_26 rfl k1 (by omega) rfl rfl (Nat.le_of_ble_eq_true rfl) (by omega) ⟨by first | decide | omega, by first | decide | omega⟩ (hc.1) rfl (fun v9 h9 e9 => ?_)
  obtain ⟨rfl, F9, I9, P9, rfl, hS9, hF9, h169⟩ := e9
  obtain ⟨c1, c2, c3, c4, c5⟩ := hK.copy (s0 := 2) (s1 := 0) (by decide) (by decide) (by decide) r5 r3 hu hS9 hc.2 hF9 h169
  subst hX
  refine xg_return dX11_image_29 rfl ⟨by first | decide | omega, by first | decide | omega⟩ ?_
  refine ⟨rfl, _, _, _, _, _, _, rfl, by omega, c1, fun j hj => ?_, ⟨z, by rw [c2]; exact r5⟩, c3.trans (hL2 o (by omega)).2.1, c4.trans (hL2 (o + 1) (by omega)).2.2.1, (hL2 (o + 116) (by omega)).2.2.2.2, fun b b0 b1 => ?_⟩
  · rw [c2, upP_nk _ _ _ _ hj, (hL2 o (by omega)).2.2.2.1]
  · have e1 := hM b b0 b1
    have e2 := c5 b b0 b1
    exact ⟨e1.1, e2.2.1.trans e1.2.1, e2.2.2.1.trans e1.2.2.1, e2.2.2.2.1.trans e1.2.2.2.1, e1.2.2.2.2⟩

