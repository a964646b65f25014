/-! back, forgetting -/
theorem ct_X8_copyFrom {E : xE} {z : Nat} {T : Nat → Nat × Int} {F : Nat → Nat → Int} {I : Nat → Int → Int} {P : Nat → Nat → Option Nat} {Y : Nat → Int → Option Nat} {a b : Nat} {w : Int → Int} (hW : SW T F P Y a) (hS : SR T F I P Y b w) (hi : wRn w) (hab : b + 57 ≤ a ∨ a + 57 ≤ b) (hdl : ∀ l, P b 16 = some l → l + 6 ≤ a ∨ a + 57 ≤ l) : Ct E 2 mX8_copyFrom 0 0 [.ref a, .ref b] (z, T, F, I, P, Y) (xC a b z T F I P Y w) := by
  cases hn : P b 16 with
  | none => exact ct_X8_copyFrom0 hW hS hi hab hdl hn
  | some l => exact ct_X8_copyFrom1 hW hS hi hab hdl hn
theorem LK.cpy {T : Nat → Nat × Int} {F : Nat → Nat → Int} {I : Nat → Int → Int} {P : Nat → Nat → Option Nat} {Y : Nat → Int → Option Nat} {o m z s0 s1 a b : Nat} {u : wWo} {ws : Nat → Option wWo} (h : LK T F I P Y o m z ws) (h0 : s0 < 15) (h1 : s1 < 15) (h01 : s0 ≠ s1) (ha : lSl o P Y s0 = some a) (hb : lSl o P Y s1 = some b) (hu : ws s1 = some u) {E : xE} : Ct E 2 mX8_copyFrom 0 0 [.ref a, .ref b] (z, T, F, I, P, Y) (xC a b z T F I P Y u) ∧ wI2 u := by
  obtain ⟨hs, ⟨d1, d2, d3, d4⟩, v1, v2, -⟩ := h
  obtain ⟨x, e1, e2, e3⟩ := v2 s1 u h1 hu
  rw [hb] at e1; cases e1
  have q := d2 s0 s1 a b h0 h1 h01 ha hb
  exact ⟨ct_X8_copyFrom (v1 s0 a h0 ha) e2 e3.1.2.1 (by omega) (fun l hl => (d3 s1 b l h1 hb hl).2.2.2 s0 a h0 ha), e3⟩
theorem dX11_forgetActs_0 : decode cX11_forgetActs 0 = .ok (.aload_n 0, 1) := by decide +kernel
theorem dX11_forgetActs_1 : decode cX11_forgetActs 1 = .ok (.iconst 0, 1) := by decide +kernel
theorem dX11_forgetActs_2 : decode cX11_forgetActs 2 = .ok (.putfield 37, 3) := by decide +kernel
theorem dX11_forgetActs_5 : decode cX11_forgetActs 5 = .ok (.aload_n 0, 1) := by decide +kernel
theorem dX11_forgetActs_6 : decode cX11_forgetActs 6 = .ok (.iconst 0, 1) := by decide +kernel
theorem dX11_forgetActs_7 : decode cX11_forgetActs 7 = .ok (.putfield 40, 3) := by decide +kernel
theorem dX11_forgetActs_10 : decode cX11_forgetActs 10 = .ok (.return_, 1) := by decide +kernel
theorem dX11_back_0 : decode cX11_back 0 = .ok (.aload_n 0, 1) := by decide +kernel
theorem dX11_back_1 : decode cX11_back 1 = .ok (.getfield 30, 3) := by decide +kernel
theorem dX11_back_4 : decode cX11_back 4 = .ok (.ifnonnull 5, 3) := by decide +kernel
theorem dX11_back_7 : decode cX11_back 7 = .ok (.iconst 0, 1) := by decide +kernel
theorem dX11_back_8 : decode cX11_back 8 = .ok (.ireturn, 1) := by decide +kernel
theorem dX11_back_9 : decode cX11_back 9 = .ok (.aload_n 0, 1) := by decide +kernel
theorem dX11_back_10 : decode cX11_back 10 = .ok (.getfield 23, 3) := by decide +kernel
theorem dX11_back_13 : decode cX11_back 13 = .ok (.aload_n 0, 1) := by decide +kernel
theorem dX11_back_14 : decode cX11_back 14 = .ok (.getfield 30, 3) := by decide +kernel
theorem dX11_back_17 : decode cX11_back 17 = .ok (.invokevirtual 81, 3) := by decide +kernel
theorem dX11_back_20 : decode cX11_back 20 = .ok (.aload_n 0, 1) := by decide +kernel
theorem dX11_back_21 : decode cX11_back 21 = .ok (.invokevirtual 101, 3) := by decide +kernel
theorem dX11_back_24 : decode cX11_back 24 = .ok (.iconst 1, 1) := by decide +kernel
theorem dX11_back_25 : decode cX11_back 25 = .ok (.ireturn, 1) := by decide +kernel
set_option maxHeartbeats 4000000 in
set_option maxRecDepth 100000 in
theorem ct_X11_forgetActs {E : xE} {z : Nat} {T : Nat → Nat × Int} {F : Nat → Nat → Int} {I : Nat → Int → Int} {P : Nat → Nat → Option Nat} {Y : Nat → Int → Option Nat} {o : Nat} (h1 : (T o).1 = 12) : Ct E 0 mX11_forgetActs 0 0 [.ref o] (z, T, F, I, P, Y) (xd none (z, T, upF (upF F o 7 0) o 8 0, I, P, Y)) := by
  skip
  refine Ct.of [some (.ref o)] kt_X11_forgetActs rfl (Nat.le_of_ble_eq_true rfl) rfl (fun d hd => ?_)
  generalize hX : xN E _ _ _ = X
  refine xg_aloadn 1 dX11_forgetActs_0 rfl rfl rfl ?_
  refine xg_iconst 2 dX11_forgetActs_1 rfl ?_
  refine xg_putI 5 kf_RX11_37 dX11_forgetActs_2 rfl h1 ?_
  refine xg_aloadn 6 dX11_forgetActs_5 rfl rfl rfl ?_
  refine xg_iconst 7 dX11_forgetActs_6 rfl ?_
  refine xg_putI 10 kf_RX11_40 dX11_forgetActs_7 rfl h1 ?_
  subst hX
  exact xg_return dX11_forgetActs_10 rfl ⟨Nat.le_refl _, Nat.le_refl _⟩ ⟨rfl, rfl⟩

set_option maxHeartbeats 4000000 in
set_option maxRecDepth 100000 in
theorem ct_X11_back_f {E : xE} {z : Nat} {T : Nat → Nat × Int} {F : Nat → Nat → Int} {I : Nat → Int → Int} {P : Nat → Nat → Option Nat} {Y : Nat → Int → Option Nat} {o m : Nat} {ws : Nat → Option wWo} (hL : LK T F I P Y o m z ws) (h5 : P o 5 = none) : Ct E 0 mX11_back 0 0 [.ref o] (z, T, F, I, P, Y) (xd (some (J 0)) (z, T, F, I, P, Y)) := by
  have h1 : (T o).1 = 12 := hL.1.1
  refine Ct.of [some (.ref o)] kt_X11_back rfl (Nat.le_of_ble_eq_true rfl) rfl (fun d hd => ?_)
  generalize hX : xN E _ _ _ = X
  refine xg_aloadn 1 dX11_back_0 rfl rfl rfl ?_
  refine xg_get0 4 kf_RX11_30 dX11_back_1 rfl h1 h5 ?_
  refine xg_ifnn0 7 dX11_back_4 rfl ?_
  refine xg_iconst 8 dX11_back_7 rfl ?_
  subst hX
  exact xg_zreturn dX11_back_8 rfl (by first | exact bI_01 _ | omega) ⟨Nat.le_refl _, Nat.le_refl _⟩ ⟨rfl, rfl⟩

set_option maxHeartbeats 4000000 in
set_option maxRecDepth 100000 in
theorem ct_X11_back {E : xE} {z : Nat} {T : Nat → Nat × Int} {F : Nat → Nat → Int} {I : Nat → Int → Int} {P : Nat → Nat → Option Nat} {Y : Nat → Int → Option Nat} {o m : Nat} {ws : Nat → Option wWo} (hL : LK T F I P Y o m z ws) {a k : Nat} {u : wWo} (h3 : P o 3 = some a) (h5 : P o 5 = some k) (hu : ws 2 = some u) : Ct E 3 mX11_back 0 0 [.ref o] (z, T, F, I, P, Y) (fun v h' => v = some (J 1) ∧ ∃ (F' : Nat → Nat → Int) (I' : Nat → Int → Int) (P' : Nat → Nat → Option Nat), h' = (z, T, F', I', P', Y) ∧ LK T F' I' P' Y o m z (wsU ws 0 (some u)) ∧ P' o = P o ∧ F' o = upF (upF F o 7 0) o 8 0 o ∧ I' (o + 1) = I (o + 1) ∧ LF m T F I P Y T F' I' P' Y) := by
  have h1 : (T o).1 = 12 := hL.1.1
  have hc := hL.cpy (s0 := 0) (s1 := 2) (by decide) (by decide) (by decide) h3 h5 hu (E := E)
  have k1 : (T a).1 = 9 := (hL.2.2.1 0 a (by decide) h3).1.1.1
  refine Ct.of [some (.ref o)] kt_X11_back rfl (Nat.le_of_ble_eq_true rfl) rfl (fun d hd => ?_)
  generalize hX : xN E _ _ _ = X
  refine xg_aloadn 1 dX11_back_0 rfl rfl rfl ?_
  refine xg_getP 4 kf_RX11_30 dX11_back_1 rfl h1 h5 ?_
  refine xg_ifnn 9 dX11_back_4 rfl ?_
  refine xg_aloadn 10 dX11_back_9 rfl rfl rfl ?_
  refine xg_getP 13 kf_RX11_23 dX11_back_10 rfl h1 h3 ?_
  refine xg_aloadn 14 dX11_back_13 rfl rfl rfl ?_
  refine xg_getP 17 kf_RX11_30 dX11_back_14 rfl h1 h5 ?_
  refine xg_callVe 20 8 [_] _ kv_X8_copyFrom ⟨_, _, rfl⟩ kl_RX11_81 dX11_back_17 rfl k1 (by omega) rfl rfl (Nat.le_of_ble_eq_true rfl) (by omega) ⟨Nat.le_refl _, Nat.le_refl _⟩ (hc.1) rfl (fun v9 h9 e9 => ?_)
  obtain ⟨rfl, F9, I9, P9, rfl, hS9, hF9, h169⟩ := e9
  obtain ⟨c1, c2, c3, c4, c5⟩ := hL.copy (s0 := 0) (s1 := 2) (by decide) (by decide) (by decide) h3 h5 hu hS9 hc.2 hF9 h169
  refine xg_aloadn 21 dX11_back_20 rfl rfl rfl ?_
  refine xg_callV 24 11 [] _ kv_X11_forgetActs ⟨_, _, rfl⟩ kl_RX11_101 dX11_back_21 rfl h1 (by omega) rfl rfl (Nat.le_of_ble_eq_true rfl) (by omega) ⟨Nat.le_refl _, Nat.le_refl _⟩ (ct_X11_forgetActs h1) rfl ?_
  refine xg_iconst 25 dX11_back_24 rfl ?_
  subst hX
  refine xg_zreturn dX11_back_25 rfl (by first | exact bI_01 _ | omega) ⟨Nat.le_refl _, Nat.le_refl _⟩ ?_
  have c6 := c1.fr (F' := upF (upF F9 o 7 0) o 8 0) (I' := I9) (fun b hb => by rw [upF_na _ _ _ _ (by omega), upF_na _ _ _ _ (by omega)]) (fun _ _ => rfl) c1.2.2.2.2.1
  refine ⟨rfl, _, _, _, rfl, c6.1, c2, ?_, c4, fun b b0 b1 => ?_⟩
  · funext j; unfold upF; rw [c3]
  · have e1 := c5 b b0 b1
    have e2 := c6.2 b b0 b1
    exact ⟨rfl, e2.2.1.trans e1.2.1, e2.2.2.1.trans e1.2.2.1, e1.2.2.2.1, rfl⟩

