/-! acts of the live store -/
section LAC
variable {T T9 : Nat → Nat × Int} {F F9 F8 : Nat → Nat → Int} {I I9 I8 : Nat → Int → Int} {P P9 P8 : Nat → Nat → Option Nat} {Y Y9 Y8 : Nat → Int → Option Nat} {o m z z9 a s : Nat} {w u u' : wWo} {ws ws9 : Nat → Option wWo} {f c : Int} {r : Option Value}
theorem LK.liv (h : LK T F I P Y o m z ws) (hs : s < 15) (ha : lSl o P Y s = some a) (hu : ws s = some u) : SR T F I P Y a u ∧ wI2 u ∧ (T a).1 = 9 := by
  obtain ⟨y, e1, e2, e3⟩ := h.2.2.2.1 s u hs hu
  have e4 : some a = some y := ha.symm.trans e1
  cases e4
  exact ⟨e2, e3, (h.2.2.1 s a hs ha).1.1.1⟩
theorem LF.tr {T8 : Nat → Nat × Int} (h1 : LF m T F I P Y T9 F9 I9 P9 Y9) (h2 : LF m T9 F9 I9 P9 Y9 T8 F8 I8 P8 Y8) : LF m T F I P Y T8 F8 I8 P8 Y8 := fun b b0 b1 => by
  obtain ⟨a1, a2, a3, a4, a5⟩ := h1 b b0 b1
  obtain ⟨c1, c2, c3, c4, c5⟩ := h2 b b0 b1
  exact ⟨c1.trans a1, c2.trans a2, c3.trans a3, c4.trans a4, c5.trans a5⟩
/-- the worlds behind an act that was remembered -/
def wsA (ws : Nat → Option wWo) (f c : Int) (w w' : wWo) : Nat → Option wWo := wsU (wsU ws ((rmS f c).toNat + 3) (some w)) 0 (some w')
theorem xAl.act (hz : z ≤ z9) (hK : LK T9 F9 I9 P9 Y9 o m z9 (wsU ws ((rmS (F o 7) (F o 8)).toNat + 3) (some w))) (hP : P9 o = P o) (hF : F9 o = upF (upF F o 7 (rmF (F o 7) (F o 8))) o 8 (rmC (F o 8) + 1) o) (hI : I9 (o + 1) = I (o + 1)) (hM : LF m T F I P Y T9 F9 I9 P9 Y9) (h3 : P9 o 3 = some a) (h4 : ∃ b : Nat, P o 4 = some b) (hS : SR T9 F8 I8 P8 Y8 a u') (hW : wI2 u') (hSF : SF a F9 I9 P9 Y9 F8 I8 P8 Y8) : xAl o m z T F I P Y r (wsA ws (F o 7) (F o 8) w u') (F o 1) (F o 2) (rmF (F o 7) (F o 8)) (rmC (F o 8) + 1) r (z9, T9, F8, I8, P8, Y8) := by
  obtain ⟨c1, c2, c3, c4, c5, c6⟩ := hK.act (s0 := 0) (by decide) h3 hS hW hSF
  refine ⟨rfl, _, _, _, _, _, _, rfl, hz, c1, ⟨?_, by rw [c2, hP]⟩, ⟨?_, ?_, ?_, ?_⟩, c4.trans hI, hM.tr c6⟩
  · obtain ⟨b, hb⟩ := h4
    exact ⟨b, by rw [c2, hP]; exact hb⟩
  · rw [c3, hF, upF_nk _ _ _ _ (by decide), upF_nk _ _ _ _ (by decide)]
  · rw [c3, hF, upF_nk _ _ _ _ (by decide), upF_nk _ _ _ _ (by decide)]
  · rw [c3, hF, upF_nk _ _ _ _ (by decide), upF_at]
  · rw [c3, hF, upF_at]
theorem tuneOk_tu {k v : Int} (h : tuneOk k v) : ¬ zTu k v ∧ (k = 0 ∨ k = 1 ∨ k = 2) ∧ (0 ≤ v ∧ v ≤ 9) := by
  unfold tuneOk at h; unfold zTu; omega
end LAC

theorem dX11_ticks_0 : decode cX11_ticks 0 = .ok (.iload_n 1, 1) := by decide +kernel
theorem dX11_ticks_1 : decode cX11_ticks 1 = .ok (.iconst 1, 1) := by decide +kernel
theorem dX11_ticks_2 : decode cX11_ticks 2 = .ok (.if_icmp .lt 9, 3) := by decide +kernel
theorem dX11_ticks_5 : decode cX11_ticks 5 = .ok (.iload_n 1, 1) := by decide +kernel
theorem dX11_ticks_6 : decode cX11_ticks 6 = .ok (.bipush 60, 2) := by decide +kernel
theorem dX11_ticks_8 : decode cX11_ticks 8 = .ok (.if_icmp .le 11, 3) := by decide +kernel
theorem dX11_ticks_11 : decode cX11_ticks 11 = .ok (.new 92, 3) := by decide +kernel
theorem dX11_ticks_14 : decode cX11_ticks 14 = .ok (.dup, 1) := by decide +kernel
theorem dX11_ticks_15 : decode cX11_ticks 15 = .ok (.invokespecial 94, 3) := by decide +kernel
theorem dX11_ticks_18 : decode cX11_ticks 18 = .ok (.athrow, 1) := by decide +kernel
theorem dX11_ticks_19 : decode cX11_ticks 19 = .ok (.aload_n 0, 1) := by decide +kernel
theorem dX11_ticks_20 : decode cX11_ticks 20 = .ok (.invokevirtual 219, 3) := by decide +kernel
theorem dX11_ticks_23 : decode cX11_ticks 23 = .ok (.aload_n 0, 1) := by decide +kernel
theorem dX11_ticks_24 : decode cX11_ticks 24 = .ok (.getfield 23, 3) := by decide +kernel
theorem dX11_ticks_27 : decode cX11_ticks 27 = .ok (.iload_n 1, 1) := by decide +kernel
theorem dX11_ticks_28 : decode cX11_ticks 28 = .ok (.invokevirtual 222, 3) := by decide +kernel
theorem dX11_ticks_31 : decode cX11_ticks 31 = .ok (.ireturn, 1) := by decide +kernel
set_option maxHeartbeats 4000000 in
set_option maxRecDepth 100000 in
theorem ct_X11_ticks {E : xE} {z : Nat} {T : Nat → Nat × Int} {F : Nat → Nat → Int} {I : Nat → Int → Int} {P : Nat → Nat → Option Nat} {Y : Nat → Int → Option Nat} {o m : Nat} {ws : Nat → Option wWo} (hL : LK T F I P Y o m z ws) (hE : ∀ u : State, E.2.2.2.2 u → xOld u) {a : Nat} {w : wWo} (h3 : P o 3 = some a) (h4 : ∃ b : Nat, P o 4 = some b) (hu : ws 0 = some w) (hf : 0 ≤ F o 7 ∧ F o 7 < 12) (hc : 0 ≤ F o 8 ∧ F o 8 ≤ 12) {n : Nat} (hn : 1 ≤ n ∧ n ≤ 60) : Ct E 7 mX11_ticks 57 2100 [.ref o, J (n : Int)] (z, T, F, I, P, Y) (xAl o m z T F I P Y (some (J ((sGo n w).2))) (wsA ws (F o 7) (F o 8) w ((sGo n w).1)) (F o 1) (F o 2) (rmF (F o 7) (F o 8)) (rmC (F o 8) + 1)) := by
  have h1 : (T o).1 = 12 := hL.1.1
  obtain ⟨hS, hI, -⟩ := hL.liv (s := 0) (by decide) h3 hu
  refine Ct.of [some (.ref o), some (J (n : Int))] kt_X11_ticks rfl (Nat.le_of_ble_eq_true rfl) rfl (fun d hd => ?_)
  generalize hX : xN E _ _ _ = X
  refine xg_iloadn 1 dX11_ticks_0 rfl rfl rfl ?_
  refine xg_iconst 2 dX11_ticks_1 rfl ?_
  refine xg_iclt 11 5 dX11_ticks_2 rfl rfl (by omega) (fun hb2 => ?_) (fun hb2 => ?_)
  · exfalso; omega
  · skip
    refine xg_iloadn 6 dX11_ticks_5 rfl rfl rfl ?_
    refine xg_bipush 8 dX11_ticks_6 rfl (by decide) ?_
    refine xg_icle 19 11 dX11_ticks_8 rfl rfl (by omega) (fun hb8 => ?_) (fun hb8 => ?_)
    · skip
      refine xg_aloadn 20 dX11_ticks_19 rfl rfl rfl ?_
      refine xg_callVm 23 11 [] _ kv_X11_remember ⟨_, _, rfl⟩ kl_RX11_219 dX11_ticks_20 rfl h1 (by omega) rfl rfl (Nat.le_of_ble_eq_true rfl) (by omega) ⟨by first | decide | omega, by first | decide | omega⟩ (ct_X11_remember hL hE h3 hu hf hc) rfl (fun v9 h9 e9 => ?_)
      obtain ⟨rfl, z9, T9, F9, I9, P9, Y9, rfl, hz9, hK9, hP9, hY9, hYx9, hF9, hI9, hM9⟩ := e9
      have q1 : (T9 o).1 = 12 := hK9.1.1
      have r3 : P9 o 3 = some a := by rw [hP9]; exact h3
      have hu9 : wsU ws ((rmS (F o 7) (F o 8)).toNat + 3) (some w) 0 = some w := by unfold wsU; rw [if_neg (by omega)]; exact hu
      obtain ⟨hS9, hW9, t9⟩ := hK9.liv (s := 0) (by decide) r3 hu9
      refine xg_aloadn 24 dX11_ticks_23 rfl rfl rfl ?_
      refine xg_getP 27 kf_RX11_23 dX11_ticks_24 rfl q1 r3 ?_
      refine xg_iloadn 28 dX11_ticks_27 rfl rfl rfl ?_
      refine xg_callVq 31 8 [_] _ kv_X8_advance ⟨_, _, rfl⟩ kl_RX11_222 dX11_ticks_28 rfl t9 (by omega) rfl rfl (Nat.le_of_ble_eq_true rfl) (by omega) ⟨by first | decide | omega, by first | decide | omega⟩ (ct_X8_advance hS9 hW9.1 hn.2 (sGoS_all hW9 n)) rfl (fun F8 I8 P8 Y8 hS8 hF8 => ?_)
      subst hX
      refine xg_ireturn dX11_ticks_31 rfl ⟨by first | decide | omega, by first | decide | omega⟩ ?_
      exact xAl.act hz9 hK9 hP9 hF9 hI9 hM9 r3 h4 hS8 (wI2_go hW9 n) hF8
    · exfalso; omega

theorem dX11_put_0 : decode cX11_put 0 = .ok (.iload_n 1, 1) := by decide +kernel
theorem dX11_put_1 : decode cX11_put 1 = .ok (.invokestatic 225, 3) := by decide +kernel
theorem dX11_put_4 : decode cX11_put 4 = .ok (.ifCond .eq 11, 3) := by decide +kernel
theorem dX11_put_7 : decode cX11_put 7 = .ok (.new 125, 3) := by decide +kernel
theorem dX11_put_10 : decode cX11_put 10 = .ok (.dup, 1) := by decide +kernel
theorem dX11_put_11 : decode cX11_put 11 = .ok (.invokespecial 127, 3) := by decide +kernel
theorem dX11_put_14 : decode cX11_put 14 = .ok (.athrow, 1) := by decide +kernel
theorem dX11_put_15 : decode cX11_put 15 = .ok (.iload_n 2, 1) := by decide +kernel
theorem dX11_put_16 : decode cX11_put 16 = .ok (.ifCond .lt 9, 3) := by decide +kernel
theorem dX11_put_19 : decode cX11_put 19 = .ok (.iload_n 2, 1) := by decide +kernel
theorem dX11_put_20 : decode cX11_put 20 = .ok (.bipush 100, 2) := by decide +kernel
theorem dX11_put_22 : decode cX11_put 22 = .ok (.if_icmp .lt 11, 3) := by decide +kernel
theorem dX11_put_25 : decode cX11_put 25 = .ok (.new 92, 3) := by decide +kernel
theorem dX11_put_28 : decode cX11_put 28 = .ok (.dup, 1) := by decide +kernel
theorem dX11_put_29 : decode cX11_put 29 = .ok (.invokespecial 94, 3) := by decide +kernel
theorem dX11_put_32 : decode cX11_put 32 = .ok (.athrow, 1) := by decide +kernel
theorem dX11_put_33 : decode cX11_put 33 = .ok (.aload_n 0, 1) := by decide +kernel
theorem dX11_put_34 : decode cX11_put 34 = .ok (.invokevirtual 219, 3) := by decide +kernel
theorem dX11_put_37 : decode cX11_put 37 = .ok (.aload_n 0, 1) := by decide +kernel
theorem dX11_put_38 : decode cX11_put 38 = .ok (.getfield 23, 3) := by decide +kernel
theorem dX11_put_41 : decode cX11_put 41 = .ok (.iload_n 1, 1) := by decide +kernel
theorem dX11_put_42 : decode cX11_put 42 = .ok (.iload_n 2, 1) := by decide +kernel
theorem dX11_put_43 : decode cX11_put 43 = .ok (.invokevirtual 228, 3) := by decide +kernel
theorem dX11_put_46 : decode cX11_put 46 = .ok (.ireturn, 1) := by decide +kernel
set_option maxHeartbeats 4000000 in
set_option maxRecDepth 100000 in
theorem ct_X11_put {E : xE} {z : Nat} {T : Nat → Nat × Int} {F : Nat → Nat → Int} {I : Nat → Int → Int} {P : Nat → Nat → Option Nat} {Y : Nat → Int → Option Nat} {o m : Nat} {ws : Nat → Option wWo} (hL : LK T F I P Y o m z ws) (hE : ∀ u : State, E.2.2.2.2 u → xOld u) {a : Nat} {w : wWo} (h3 : P o 3 = some a) (h4 : ∃ b : Nat, P o 4 = some b) (hu : ws 0 = some w) (hf : 0 ≤ F o 7 ∧ F o 7 < 12) (hc : 0 ≤ F o 8 ∧ F o 8 ≤ 12) {key v : Nat} (hk : key < 60) (hv : v < 100) : Ct E 6 mX11_put 57 2100 [.ref o, J (key : Int), J (v : Int)] (z, T, F, I, P, Y) (xAl o m z T F I P Y (some (J (sWriteN w (key : Int) (v : Int)))) (wsA ws (F o 7) (F o 8) w (sWrite w (key : Int) (v : Int))) (F o 1) (F o 2) (rmF (F o 7) (F o 8)) (rmC (F o 8) + 1)) := by
  have h1 : (T o).1 = 12 := hL.1.1
  obtain ⟨hS, hI, -⟩ := hL.liv (s := 0) (by decide) h3 hu
  refine Ct.of [some (.ref o), some (J (key : Int)), some (J (v : Int))] kt_X11_put rfl (Nat.le_of_ble_eq_true rfl) rfl (fun d hd => ?_)
  generalize hX : xN E _ _ _ = X
  refine xg_iloadn 1 dX11_put_0 rfl rfl rfl ?_
  refine xg_callS 4 [_] _ ks_X11_isNoKey kl_RX11_225 dX11_put_1 rfl rfl rfl (Nat.le_of_ble_eq_true rfl) (by omega) ⟨by first | decide | omega, by first | decide | omega⟩ (ct_X11_isNoKey (by omega)) rfl ?_
  refine xg_deq 15 7 dX11_put_4 rfl rfl (fun hb4 => ?_) (fun hb4 => ?_)
  · skip
    refine xg_iloadn 16 dX11_put_15 rfl rfl rfl ?_
    refine xg_iflt 25 19 dX11_put_16 rfl rfl (by omega) (fun hb16 => ?_) (fun hb16 => ?_)
    · exfalso; omega
    · skip
      refine xg_iloadn 20 dX11_put_19 rfl rfl rfl ?_
      refine xg_bipush 22 dX11_put_20 rfl (by decide) ?_
      refine xg_iclt 33 25 dX11_put_22 rfl rfl (by omega) (fun hb22 => ?_) (fun hb22 => ?_)
      · skip
        refine xg_aloadn 34 dX11_put_33 rfl rfl rfl ?_
        refine xg_callVm 37 11 [] _ kv_X11_remember ⟨_, _, rfl⟩ kl_RX11_219 dX11_put_34 rfl h1 (by omega) rfl rfl (Nat.le_of_ble_eq_true rfl) (by omega) ⟨by first | decide | omega, by first | decide | omega⟩ (ct_X11_remember hL hE h3 hu hf hc) rfl (fun v9 h9 e9 => ?_)
        obtain ⟨rfl, z9, T9, F9, I9, P9, Y9, rfl, hz9, hK9, hP9, hY9, hYx9, hF9, hI9, hM9⟩ := e9
        have q1 : (T9 o).1 = 12 := hK9.1.1
        have r3 : P9 o 3 = some a := by rw [hP9]; exact h3
        have hu9 : wsU ws ((rmS (F o 7) (F o 8)).toNat + 3) (some w) 0 = some w := by unfold wsU; rw [if_neg (by omega)]; exact hu
        obtain ⟨hS9, hW9, t9⟩ := hK9.liv (s := 0) (by decide) r3 hu9
        refine xg_aloadn 38 dX11_put_37 rfl rfl rfl ?_
        refine xg_getP 41 kf_RX11_23 dX11_put_38 rfl q1 r3 ?_
        refine xg_iloadn 42 dX11_put_41 rfl rfl rfl ?_
        refine xg_iloadn 43 dX11_put_42 rfl rfl rfl ?_
        refine xg_callVq 46 8 [_, _] _ kv_X8_writeKey ⟨_, _, rfl⟩ kl_RX11_228 dX11_put_43 rfl t9 (by omega) rfl rfl (Nat.le_of_ble_eq_true rfl) (by omega) ⟨by first | decide | omega, by first | decide | omega⟩ (ct_X8_writeKey hS9 hW9.1 hk (by omega) (sStop_write hW9 (by omega) (by omega))) rfl (fun F8 I8 P8 Y8 hS8 hF8 => ?_)
        subst hX
        refine xg_ireturn dX11_put_46 rfl ⟨by first | decide | omega, by first | decide | omega⟩ ?_
        exact xAl.act hz9 hK9 hP9 hF9 hI9 hM9 r3 h4 hS8 (wI2_write hW9 (by omega) (by omega)) hF8
      · exfalso; omega
  · exfalso; omega

theorem dX11_remove_0 : decode cX11_remove 0 = .ok (.iload_n 1, 1) := by decide +kernel
theorem dX11_remove_1 : decode cX11_remove 1 = .ok (.invokestatic 225, 3) := by decide +kernel
theorem dX11_remove_4 : decode cX11_remove 4 = .ok (.ifCond .eq 11, 3) := by decide +kernel
theorem dX11_remove_7 : decode cX11_remove 7 = .ok (.new 125, 3) := by decide +kernel
theorem dX11_remove_10 : decode cX11_remove 10 = .ok (.dup, 1) := by decide +kernel
theorem dX11_remove_11 : decode cX11_remove 11 = .ok (.invokespecial 127, 3) := by decide +kernel
theorem dX11_remove_14 : decode cX11_remove 14 = .ok (.athrow, 1) := by decide +kernel
theorem dX11_remove_15 : decode cX11_remove 15 = .ok (.aload_n 0, 1) := by decide +kernel
theorem dX11_remove_16 : decode cX11_remove 16 = .ok (.invokevirtual 219, 3) := by decide +kernel
theorem dX11_remove_19 : decode cX11_remove 19 = .ok (.aload_n 0, 1) := by decide +kernel
theorem dX11_remove_20 : decode cX11_remove 20 = .ok (.getfield 23, 3) := by decide +kernel
theorem dX11_remove_23 : decode cX11_remove 23 = .ok (.iload_n 1, 1) := by decide +kernel
theorem dX11_remove_24 : decode cX11_remove 24 = .ok (.bipush 100, 2) := by decide +kernel
theorem dX11_remove_26 : decode cX11_remove 26 = .ok (.invokevirtual 228, 3) := by decide +kernel
theorem dX11_remove_29 : decode cX11_remove 29 = .ok (.ireturn, 1) := by decide +kernel
set_option maxHeartbeats 4000000 in
set_option maxRecDepth 100000 in
theorem ct_X11_remove {E : xE} {z : Nat} {T : Nat → Nat × Int} {F : Nat → Nat → Int} {I : Nat → Int → Int} {P : Nat → Nat → Option Nat} {Y : Nat → Int → Option Nat} {o m : Nat} {ws : Nat → Option wWo} (hL : LK T F I P Y o m z ws) (hE : ∀ u : State, E.2.2.2.2 u → xOld u) {a : Nat} {w : wWo} (h3 : P o 3 = some a) (h4 : ∃ b : Nat, P o 4 = some b) (hu : ws 0 = some w) (hf : 0 ≤ F o 7 ∧ F o 7 < 12) (hc : 0 ≤ F o 8 ∧ F o 8 ≤ 12) {key : Nat} (hk : key < 60) : Ct E 6 mX11_remove 57 2100 [.ref o, J (key : Int)] (z, T, F, I, P, Y) (xAl o m z T F I P Y (some (J (sWriteN w (key : Int) 100))) (wsA ws (F o 7) (F o 8) w (sWrite w (key : Int) 100)) (F o 1) (F o 2) (rmF (F o 7) (F o 8)) (rmC (F o 8) + 1)) := by
  have h1 : (T o).1 = 12 := hL.1.1
  obtain ⟨hS, hI, -⟩ := hL.liv (s := 0) (by decide) h3 hu
  refine Ct.of [some (.ref o), some (J (key : Int))] kt_X11_remove rfl (Nat.le_of_ble_eq_true rfl) rfl (fun d hd => ?_)
  generalize hX : xN E _ _ _ = X
  refine xg_iloadn 1 dX11_remove_0 rfl rfl rfl ?_
  refine xg_callS 4 [_] _ ks_X11_isNoKey kl_RX11_225 dX11_remove_1 rfl rfl rfl (Nat.le_of_ble_eq_true rfl) (by omega) ⟨by first | decide | omega, by first | decide | omega⟩ (ct_X11_isNoKey (by omega)) rfl ?_
  refine xg_deq 15 7 dX11_remove_4 rfl rfl (fun hb4 => ?_) (fun hb4 => ?_)
  · skip
    refine xg_aloadn 16 dX11_remove_15 rfl rfl rfl ?_
    refine xg_callVm 19 11 [] _ kv_X11_remember ⟨_, _, rfl⟩ kl_RX11_219 dX11_remove_16 rfl h1 (by omega) rfl rfl (Nat.le_of_ble_eq_true rfl) (by omega) ⟨by first | decide | omega, by first | decide | omega⟩ (ct_X11_remember hL hE h3 hu hf hc) rfl (fun v9 h9 e9 => ?_)
    obtain ⟨rfl, z9, T9, F9, I9, P9, Y9, rfl, hz9, hK9, hP9, hY9, hYx9, hF9, hI9, hM9⟩ := e9
    have q1 : (T9 o).1 = 12 := hK9.1.1
    have r3 : P9 o 3 = some a := by rw [hP9]; exact h3
    have hu9 : wsU ws ((rmS (F o 7) (F o 8)).toNat + 3) (some w) 0 = some w := by unfold wsU; rw [if_neg (by omega)]; exact hu
    obtain ⟨hS9, hW9, t9⟩ := hK9.liv (s := 0) (by decide) r3 hu9
    refine xg_aloadn 20 dX11_remove_19 rfl rfl rfl ?_
    refine xg_getP 23 kf_RX11_23 dX11_remove_20 rfl q1 r3 ?_
    refine xg_iloadn 24 dX11_remove_23 rfl rfl rfl ?_
    refine xg_bipush 26 dX11_remove_24 rfl (by decide) ?_
    refine xg_callVq 29 8 [_, _] _ kv_X8_writeKey ⟨_, _, rfl⟩ kl_RX11_228 dX11_remove_26 rfl t9 (by omega) rfl rfl (Nat.le_of_ble_eq_true rfl) (by omega) ⟨by first | decide | omega, by first | decide | omega⟩ (ct_X8_writeKey (v := 100) hS9 hW9.1 hk (by omega) (sStop_write hW9 (by omega) (by omega))) rfl (fun F8 I8 P8 Y8 hS8 hF8 => ?_)
    subst hX
    refine xg_ireturn dX11_remove_29 rfl ⟨by first | decide | omega, by first | decide | omega⟩ ?_
    exact xAl.act hz9 hK9 hP9 hF9 hI9 hM9 r3 h4 hS8 (wI2_write hW9 (by omega) (by omega)) hF8
  · exfalso; omega

theorem dX11_work_0 : decode cX11_work 0 = .ok (.aload_n 0, 1) := by decide +kernel
theorem dX11_work_1 : decode cX11_work 1 = .ok (.getfield 23, 3) := by decide +kernel
theorem dX11_work_4 : decode cX11_work 4 = .ok (.getfield 190, 3) := by decide +kernel
theorem dX11_work_7 : decode cX11_work 7 = .ok (.getfield 194, 3) := by decide +kernel
theorem dX11_work_10 : decode cX11_work 10 = .ok (.ifCond .ne 24, 3) := by decide +kernel
theorem dX11_work_13 : decode cX11_work 13 = .ok (.aload_n 0, 1) := by decide +kernel
theorem dX11_work_14 : decode cX11_work 14 = .ok (.getfield 23, 3) := by decide +kernel
theorem dX11_work_17 : decode cX11_work 17 = .ok (.getfield 172, 3) := by decide +kernel
theorem dX11_work_20 : decode cX11_work 20 = .ok (.getfield 184, 3) := by decide +kernel
theorem dX11_work_23 : decode cX11_work 23 = .ok (.ifCond .ne 11, 3) := by decide +kernel
theorem dX11_work_26 : decode cX11_work 26 = .ok (.new 231, 3) := by decide +kernel
theorem dX11_work_29 : decode cX11_work 29 = .ok (.dup, 1) := by decide +kernel
theorem dX11_work_30 : decode cX11_work 30 = .ok (.invokespecial 233, 3) := by decide +kernel
theorem dX11_work_33 : decode cX11_work 33 = .ok (.athrow, 1) := by decide +kernel
theorem dX11_work_34 : decode cX11_work 34 = .ok (.aload_n 0, 1) := by decide +kernel
theorem dX11_work_35 : decode cX11_work 35 = .ok (.invokevirtual 219, 3) := by decide +kernel
theorem dX11_work_38 : decode cX11_work 38 = .ok (.aload_n 0, 1) := by decide +kernel
theorem dX11_work_39 : decode cX11_work 39 = .ok (.getfield 23, 3) := by decide +kernel
theorem dX11_work_42 : decode cX11_work 42 = .ok (.invokevirtual 234, 3) := by decide +kernel
theorem dX11_work_45 : decode cX11_work 45 = .ok (.aload_n 0, 1) := by decide +kernel
theorem dX11_work_46 : decode cX11_work 46 = .ok (.getfield 23, 3) := by decide +kernel
theorem dX11_work_49 : decode cX11_work 49 = .ok (.iconst 0, 1) := by decide +kernel
theorem dX11_work_50 : decode cX11_work 50 = .ok (.invokevirtual 237, 3) := by decide +kernel
theorem dX11_work_53 : decode cX11_work 53 = .ok (.ireturn, 1) := by decide +kernel
set_option maxHeartbeats 4000000 in
set_option maxRecDepth 100000 in
theorem ct_X11_work {E : xE} {z : Nat} {T : Nat → Nat × Int} {F : Nat → Nat → Int} {I : Nat → Int → Int} {P : Nat → Nat → Option Nat} {Y : Nat → Int → Option Nat} {o m : Nat} {ws : Nat → Option wWo} (hL : LK T F I P Y o m z ws) (hE : ∀ u : State, E.2.2.2.2 u → xOld u) {a : Nat} {w : wWo} (h3 : P o 3 = some a) (h4 : ∃ b : Nat, P o 4 = some b) (hu : ws 0 = some w) (hf : 0 ≤ F o 7 ∧ F o 7 < 12) (hc : 0 ≤ F o 8 ∧ F o 8 ≤ 12) (hb : w 16 = 1 ∨ sDM w 4 ≠ -1) : Ct E 4 mX11_work 57 2100 [.ref o] (z, T, F, I, P, Y) (xAl o m z T F I P Y (some (J (sPaidD (sBeg w) 0))) (wsA ws (F o 7) (F o 8) w (sPaid (sBeg w) 0)) (F o 1) (F o 2) (rmF (F o 7) (F o 8)) (rmC (F o 8) + 1)) := by
  have h1 : (T o).1 = 12 := hL.1.1
  obtain ⟨hS, hI, -⟩ := hL.liv (s := 0) (by decide) h3 hu
  have hO := hS.1.1
  have o0 := hO.2.1
  obtain ⟨hGd, hLw, ⟨π, ⟨hSt, hPm⟩, ⟨hSc, hTl, hJb⟩, hRun, hTab, hOut, hJo⟩, hLv, hLf⟩ := id hS
  obtain ⟨⟨st9, s0, s01, s02⟩, hRows, ⟨s4, s44⟩, ⟨s5, l9, ⟨l0, l1, l2, l3⟩, ⟨l01, l02⟩, ⟨l11, l12⟩, ⟨l21, l22⟩, l31, l32⟩, ⟨s6, s50⟩, ⟨s7, hJou⟩, -⟩ := id hSt
  have p5 : ∀ j : Nat, j < 14 → π j < 14 := hPm.2.2.2.1
  have hw0 : F a 1 = w 0 := hSc.1
  have hby : F (a + 44) 0 = w 16 := hJb.1
  have h16 := hO.2.2.2.2.2.2.2.2.2.2.2.1
  have hdu : F (a + 45) 4 = (sDueN w : Nat) := hLv.2.1
  have hdl := sDueN_lt w
  have hd0 := sDueN_0 w
  refine Ct.of [some (.ref o)] kt_X11_work rfl (Nat.le_of_ble_eq_true rfl) rfl (fun d hd => ?_)
  generalize hX : xN E _ _ _ = X
  refine xg_aloadn 1 dX11_work_0 rfl rfl rfl ?_
  refine xg_getP 4 kf_RX11_23 dX11_work_1 rfl h1 h3 ?_
  refine xg_getP 7 kf_RX11_190 dX11_work_4 rfl st9 s4 ?_
  refine xg_getI 10 kf_RX11_194 dX11_work_7 rfl s44 ?_
  rw [hby]
  refine xg_ifne 34 13 dX11_work_10 rfl rfl (by omega) (fun hb10 => ?_) (fun hb10 => ?_)
  · skip
    refine xg_aloadn 35 dX11_work_34 rfl rfl rfl ?_
    refine xg_callVm 38 11 [] _ kv_X11_remember ⟨_, _, rfl⟩ kl_RX11_219 dX11_work_35 rfl h1 (by omega) rfl rfl (Nat.le_of_ble_eq_true rfl) (by omega) ⟨by first | decide | omega, by first | decide | omega⟩ (ct_X11_remember hL hE h3 hu hf hc) rfl (fun v9 h9 e9 => ?_)
    obtain ⟨rfl, z9, T9, F9, I9, P9, Y9, rfl, hz9, hK9, hP9, hY9, hYx9, hF9, hI9, hM9⟩ := e9
    have q1 : (T9 o).1 = 12 := hK9.1.1
    have r3 : P9 o 3 = some a := by rw [hP9]; exact h3
    have hu9 : wsU ws ((rmS (F o 7) (F o 8)).toNat + 3) (some w) 0 = some w := by unfold wsU; rw [if_neg (by omega)]; exact hu
    obtain ⟨hS9, hW9, t9⟩ := hK9.liv (s := 0) (by decide) r3 hu9
    have hWb := wI2_beg hW9
    have hb16 := beg16 hb
    refine xg_aloadn 39 dX11_work_38 rfl rfl rfl ?_
    refine xg_getP 42 kf_RX11_23 dX11_work_39 rfl q1 r3 ?_
    refine xg_callVq 45 8 [] _ kv_X8_beginJob ⟨_, _, rfl⟩ kl_RX11_234 dX11_work_42 rfl t9 (by omega) rfl rfl (Nat.le_of_ble_eq_true rfl) (by omega) ⟨by first | decide | omega, by first | decide | omega⟩ (ct_X8_beginJob hS9 hW9.1.2.1) rfl (fun F7 I7 P7 Y7 hS7 hF7 => ?_)
    obtain ⟨-, e37, -⟩ := hK9.act (s0 := 0) (by decide) r3 hS7 hWb hF7
    have r37 : P7 o 3 = some a := by rw [e37]; exact r3
    refine xg_aloadn 46 dX11_work_45 rfl rfl rfl ?_
    refine xg_getP 49 kf_RX11_23 dX11_work_46 rfl q1 r37 ?_
    refine xg_iconst 50 dX11_work_49 rfl ?_
    refine xg_callVq 53 8 [_] _ kv_X8_paidSlice ⟨_, _, rfl⟩ kl_RX11_237 dX11_work_50 rfl t9 (by omega) rfl rfl (Nat.le_of_ble_eq_true rfl) (by omega) ⟨by first | decide | omega, by first | decide | omega⟩ (ct_X8_paidSlice hS7 hWb.1.2.1 hWb.1.2.2.1 hb16 (by omega)) rfl (fun F8 I8 P8 Y8 hS8 hF8 => ?_)
    subst hX
    refine xg_ireturn dX11_work_53 rfl ⟨by first | decide | omega, by first | decide | omega⟩ ?_
    exact xAl.act hz9 hK9 hP9 hF9 hI9 hM9 r3 h4 hS8 (wI2_paid hWb hb16 0) (hF7.tr hF8)
  · skip
    refine xg_aloadn 14 dX11_work_13 rfl rfl rfl ?_
    refine xg_getP 17 kf_RX11_23 dX11_work_14 rfl h1 h3 ?_
    refine xg_getP 20 kf_RX11_172 dX11_work_17 rfl st9 s5 ?_
    refine xg_getI 23 kf_RX11_184 dX11_work_20 rfl l9 ?_
    rw [hdu]
    refine xg_ifne 34 26 dX11_work_23 rfl rfl (by omega) (fun hb23 => ?_) (fun hb23 => ?_)
    · skip
      refine xg_aloadn 35 dX11_work_34 rfl rfl rfl ?_
      refine xg_callVm 38 11 [] _ kv_X11_remember ⟨_, _, rfl⟩ kl_RX11_219 dX11_work_35 rfl h1 (by omega) rfl rfl (Nat.le_of_ble_eq_true rfl) (by omega) ⟨by first | decide | omega, by first | decide | omega⟩ (ct_X11_remember hL hE h3 hu hf hc) rfl (fun v9 h9 e9 => ?_)
      obtain ⟨rfl, z9, T9, F9, I9, P9, Y9, rfl, hz9, hK9, hP9, hY9, hYx9, hF9, hI9, hM9⟩ := e9
      have q1 : (T9 o).1 = 12 := hK9.1.1
      have r3 : P9 o 3 = some a := by rw [hP9]; exact h3
      have hu9 : wsU ws ((rmS (F o 7) (F o 8)).toNat + 3) (some w) 0 = some w := by unfold wsU; rw [if_neg (by omega)]; exact hu
      obtain ⟨hS9, hW9, t9⟩ := hK9.liv (s := 0) (by decide) r3 hu9
      have hWb := wI2_beg hW9
      have hb16 := beg16 hb
      refine xg_aloadn 39 dX11_work_38 rfl rfl rfl ?_
      refine xg_getP 42 kf_RX11_23 dX11_work_39 rfl q1 r3 ?_
      refine xg_callVq 45 8 [] _ kv_X8_beginJob ⟨_, _, rfl⟩ kl_RX11_234 dX11_work_42 rfl t9 (by omega) rfl rfl (Nat.le_of_ble_eq_true rfl) (by omega) ⟨by first | decide | omega, by first | decide | omega⟩ (ct_X8_beginJob hS9 hW9.1.2.1) rfl (fun F7 I7 P7 Y7 hS7 hF7 => ?_)
      obtain ⟨-, e37, -⟩ := hK9.act (s0 := 0) (by decide) r3 hS7 hWb hF7
      have r37 : P7 o 3 = some a := by rw [e37]; exact r3
      refine xg_aloadn 46 dX11_work_45 rfl rfl rfl ?_
      refine xg_getP 49 kf_RX11_23 dX11_work_46 rfl q1 r37 ?_
      refine xg_iconst 50 dX11_work_49 rfl ?_
      refine xg_callVq 53 8 [_] _ kv_X8_paidSlice ⟨_, _, rfl⟩ kl_RX11_237 dX11_work_50 rfl t9 (by omega) rfl rfl (Nat.le_of_ble_eq_true rfl) (by omega) ⟨by first | decide | omega, by first | decide | omega⟩ (ct_X8_paidSlice hS7 hWb.1.2.1 hWb.1.2.2.1 hb16 (by omega)) rfl (fun F8 I8 P8 Y8 hS8 hF8 => ?_)
      subst hX
      refine xg_ireturn dX11_work_53 rfl ⟨by first | decide | omega, by first | decide | omega⟩ ?_
      exact xAl.act hz9 hK9 hP9 hF9 hI9 hM9 r3 h4 hS8 (wI2_paid hWb hb16 0) (hF7.tr hF8)
    · exfalso; omega

theorem dX11_halt_0 : decode cX11_halt 0 = .ok (.aload_n 0, 1) := by decide +kernel
theorem dX11_halt_1 : decode cX11_halt 1 = .ok (.getfield 23, 3) := by decide +kernel
theorem dX11_halt_4 : decode cX11_halt 4 = .ok (.getfield 190, 3) := by decide +kernel
theorem dX11_halt_7 : decode cX11_halt 7 = .ok (.getfield 194, 3) := by decide +kernel
theorem dX11_halt_10 : decode cX11_halt 10 = .ok (.ifCond .ne 11, 3) := by decide +kernel
theorem dX11_halt_13 : decode cX11_halt 13 = .ok (.new 231, 3) := by decide +kernel
theorem dX11_halt_16 : decode cX11_halt 16 = .ok (.dup, 1) := by decide +kernel
theorem dX11_halt_17 : decode cX11_halt 17 = .ok (.invokespecial 233, 3) := by decide +kernel
theorem dX11_halt_20 : decode cX11_halt 20 = .ok (.athrow, 1) := by decide +kernel
theorem dX11_halt_21 : decode cX11_halt 21 = .ok (.aload_n 0, 1) := by decide +kernel
theorem dX11_halt_22 : decode cX11_halt 22 = .ok (.invokevirtual 219, 3) := by decide +kernel
theorem dX11_halt_25 : decode cX11_halt 25 = .ok (.aload_n 0, 1) := by decide +kernel
theorem dX11_halt_26 : decode cX11_halt 26 = .ok (.getfield 23, 3) := by decide +kernel
theorem dX11_halt_29 : decode cX11_halt 29 = .ok (.getfield 203, 3) := by decide +kernel
theorem dX11_halt_32 : decode cX11_halt 32 = .ok (.getfield 137, 3) := by decide +kernel
theorem dX11_halt_35 : decode cX11_halt 35 = .ok (.istore_n 1, 1) := by decide +kernel
theorem dX11_halt_36 : decode cX11_halt 36 = .ok (.aload_n 0, 1) := by decide +kernel
theorem dX11_halt_37 : decode cX11_halt 37 = .ok (.getfield 23, 3) := by decide +kernel
theorem dX11_halt_40 : decode cX11_halt 40 = .ok (.invokevirtual 240, 3) := by decide +kernel
theorem dX11_halt_43 : decode cX11_halt 43 = .ok (.iload_n 1, 1) := by decide +kernel
theorem dX11_halt_44 : decode cX11_halt 44 = .ok (.ireturn, 1) := by decide +kernel
set_option maxHeartbeats 4000000 in
set_option maxRecDepth 100000 in
theorem ct_X11_halt {E : xE} {z : Nat} {T : Nat → Nat × Int} {F : Nat → Nat → Int} {I : Nat → Int → Int} {P : Nat → Nat → Option Nat} {Y : Nat → Int → Option Nat} {o m : Nat} {ws : Nat → Option wWo} (hL : LK T F I P Y o m z ws) (hE : ∀ u : State, E.2.2.2.2 u → xOld u) {a : Nat} {w : wWo} (h3 : P o 3 = some a) (h4 : ∃ b : Nat, P o 4 = some b) (hu : ws 0 = some w) (hf : 0 ≤ F o 7 ∧ F o 7 < 12) (hc : 0 ≤ F o 8 ∧ F o 8 ≤ 12) (hb : w 16 = 1) : Ct E 4 mX11_halt 57 2100 [.ref o] (z, T, F, I, P, Y) (xAl o m z T F I P Y (some (J (sHaltN w))) (wsA ws (F o 7) (F o 8) w (sHalt w)) (F o 1) (F o 2) (rmF (F o 7) (F o 8)) (rmC (F o 8) + 1)) := by
  have h1 : (T o).1 = 12 := hL.1.1
  obtain ⟨hS, hI, -⟩ := hL.liv (s := 0) (by decide) h3 hu
  have hO := hS.1.1
  have o0 := hO.2.1
  obtain ⟨hGd, hLw, ⟨π, ⟨hSt, hPm⟩, ⟨hSc, hTl, hJb⟩, hRun, hTab, hOut, hJo⟩, hLv, hLf⟩ := id hS
  obtain ⟨⟨st9, s0, s01, s02⟩, hRows, ⟨s4, s44⟩, ⟨s5, l9, ⟨l0, l1, l2, l3⟩, ⟨l01, l02⟩, ⟨l11, l12⟩, ⟨l21, l22⟩, l31, l32⟩, ⟨s6, s50⟩, ⟨s7, hJou⟩, -⟩ := id hSt
  have p5 : ∀ j : Nat, j < 14 → π j < 14 := hPm.2.2.2.1
  have hw0 : F a 1 = w 0 := hSc.1
  have hby : F (a + 44) 0 = w 16 := hJb.1
  have h16 := hO.2.2.2.2.2.2.2.2.2.2.2.1
  have hdu : F (a + 45) 4 = (sDueN w : Nat) := hLv.2.1
  have hdl := sDueN_lt w
  have hd0 := sDueN_0 w
  refine Ct.of [some (.ref o), none] kt_X11_halt rfl (Nat.le_of_ble_eq_true rfl) rfl (fun d hd => ?_)
  generalize hX : xN E _ _ _ = X
  refine xg_aloadn 1 dX11_halt_0 rfl rfl rfl ?_
  refine xg_getP 4 kf_RX11_23 dX11_halt_1 rfl h1 h3 ?_
  refine xg_getP 7 kf_RX11_190 dX11_halt_4 rfl st9 s4 ?_
  refine xg_getI 10 kf_RX11_194 dX11_halt_7 rfl s44 ?_
  rw [hby]
  refine xg_ifne 21 13 dX11_halt_10 rfl rfl (by omega) (fun hb10 => ?_) (fun hb10 => ?_)
  · skip
    refine xg_aloadn 22 dX11_halt_21 rfl rfl rfl ?_
    refine xg_callVm 25 11 [] _ kv_X11_remember ⟨_, _, rfl⟩ kl_RX11_219 dX11_halt_22 rfl h1 (by omega) rfl rfl (Nat.le_of_ble_eq_true rfl) (by omega) ⟨by first | decide | omega, by first | decide | omega⟩ (ct_X11_remember hL hE h3 hu hf hc) rfl (fun v9 h9 e9 => ?_)
    obtain ⟨rfl, z9, T9, F9, I9, P9, Y9, rfl, hz9, hK9, hP9, hY9, hYx9, hF9, hI9, hM9⟩ := e9
    have q1 : (T9 o).1 = 12 := hK9.1.1
    have r3 : P9 o 3 = some a := by rw [hP9]; exact h3
    have hu9 : wsU ws ((rmS (F o 7) (F o 8)).toNat + 3) (some w) 0 = some w := by unfold wsU; rw [if_neg (by omega)]; exact hu
    obtain ⟨hS9, hW9, t9⟩ := hK9.liv (s := 0) (by decide) r3 hu9
    have hOx := hS9.1.1
    have o0x := hOx.2.1
    obtain ⟨hGdx, hLwx, ⟨πx, ⟨hStx, hPmx⟩, ⟨hScx, hTlx, hJbx⟩, hRunx, hTabx, hOutx, hJox⟩, hLvx, hLfx⟩ := id hS9
    obtain ⟨⟨st9x, s0x, s01x, s02x⟩, hRowsx, ⟨s4x, s44x⟩, ⟨s5x, l9x, ⟨l0x, l1x, l2x, l3x⟩, ⟨l01x, l02x⟩, ⟨l11x, l12x⟩, ⟨l21x, l22x⟩, l31x, l32x⟩, ⟨s6x, s50x⟩, ⟨s7x, hJoux⟩, -⟩ := id hStx
    have p5x : ∀ j : Nat, j < 14 → πx j < 14 := hPmx.2.2.2.1
    have hw0x : F9 a 1 = w 0 := hScx.1
    have hO2 : F9 (a + 2 + 3 * πx 13) 2 = sHaltN w := by unfold sHaltN; rw [if_pos hb]; exact hOutx.2.1
    refine xg_aloadn 26 dX11_halt_25 rfl rfl rfl ?_
    refine xg_getP 29 kf_RX11_23 dX11_halt_26 rfl q1 r3 ?_
    refine xg_getP 32 kf_RX11_203 dX11_halt_29 rfl t9 hPmx.2.2.1 ?_
    refine xg_getI 35 kf_RX11_137 dX11_halt_32 rfl (hRowsx _ (p5x 13 (by omega))).1 ?_
    refine xg_istoren 36 _ dX11_halt_35 rfl rfl rfl (by decide) (Or.inr rfl) ?_
    refine xg_aloadn 37 dX11_halt_36 rfl rfl rfl ?_
    refine xg_getP 40 kf_RX11_23 dX11_halt_37 rfl q1 r3 ?_
    refine xg_callVq 43 8 [] _ kv_X8_giveUpJob ⟨_, _, rfl⟩ kl_RX11_240 dX11_halt_40 rfl t9 (by omega) rfl rfl (Nat.le_of_ble_eq_true rfl) (by omega) ⟨by first | decide | omega, by first | decide | omega⟩ (ct_X8_giveUpJob hS9 hW9.1.2.1) rfl (fun F8 I8 P8 Y8 hS8 hF8 => ?_)
    refine xg_iloadn 44 dX11_halt_43 rfl rfl rfl ?_
    subst hX
    refine xg_ireturn dX11_halt_44 rfl ⟨by first | decide | omega, by first | decide | omega⟩ ?_
    rw [hO2]; exact xAl.act hz9 hK9 hP9 hF9 hI9 hM9 r3 h4 hS8 (wI2_halt hW9) hF8
  · exfalso; omega

theorem dX11_flush_0 : decode cX11_flush 0 = .ok (.aload_n 0, 1) := by decide +kernel
theorem dX11_flush_1 : decode cX11_flush 1 = .ok (.getfield 23, 3) := by decide +kernel
theorem dX11_flush_4 : decode cX11_flush 4 = .ok (.getfield 243, 3) := by decide +kernel
theorem dX11_flush_7 : decode cX11_flush 7 = .ok (.getfield 137, 3) := by decide +kernel
theorem dX11_flush_10 : decode cX11_flush 10 = .ok (.ifCond .eq 13, 3) := by decide +kernel
theorem dX11_flush_13 : decode cX11_flush 13 = .ok (.aload_n 0, 1) := by decide +kernel
theorem dX11_flush_14 : decode cX11_flush 14 = .ok (.getfield 23, 3) := by decide +kernel
theorem dX11_flush_17 : decode cX11_flush 17 = .ok (.invokevirtual 246, 3) := by decide +kernel
theorem dX11_flush_20 : decode cX11_flush 20 = .ok (.ifCond .ne 11, 3) := by decide +kernel
theorem dX11_flush_23 : decode cX11_flush 23 = .ok (.new 231, 3) := by decide +kernel
theorem dX11_flush_26 : decode cX11_flush 26 = .ok (.dup, 1) := by decide +kernel
theorem dX11_flush_27 : decode cX11_flush 27 = .ok (.invokespecial 233, 3) := by decide +kernel
theorem dX11_flush_30 : decode cX11_flush 30 = .ok (.athrow, 1) := by decide +kernel
theorem dX11_flush_31 : decode cX11_flush 31 = .ok (.aload_n 0, 1) := by decide +kernel
theorem dX11_flush_32 : decode cX11_flush 32 = .ok (.invokevirtual 219, 3) := by decide +kernel
theorem dX11_flush_35 : decode cX11_flush 35 = .ok (.aload_n 0, 1) := by decide +kernel
theorem dX11_flush_36 : decode cX11_flush 36 = .ok (.getfield 23, 3) := by decide +kernel
theorem dX11_flush_39 : decode cX11_flush 39 = .ok (.getfield 243, 3) := by decide +kernel
theorem dX11_flush_42 : decode cX11_flush 42 = .ok (.getfield 137, 3) := by decide +kernel
theorem dX11_flush_45 : decode cX11_flush 45 = .ok (.istore_n 1, 1) := by decide +kernel
theorem dX11_flush_46 : decode cX11_flush 46 = .ok (.aload_n 0, 1) := by decide +kernel
theorem dX11_flush_47 : decode cX11_flush 47 = .ok (.getfield 23, 3) := by decide +kernel
theorem dX11_flush_50 : decode cX11_flush 50 = .ok (.invokevirtual 249, 3) := by decide +kernel
theorem dX11_flush_53 : decode cX11_flush 53 = .ok (.iload_n 1, 1) := by decide +kernel
theorem dX11_flush_54 : decode cX11_flush 54 = .ok (.ireturn, 1) := by decide +kernel
set_option maxHeartbeats 4000000 in
set_option maxRecDepth 100000 in
theorem ct_X11_flush {E : xE} {z : Nat} {T : Nat → Nat × Int} {F : Nat → Nat → Int} {I : Nat → Int → Int} {P : Nat → Nat → Option Nat} {Y : Nat → Int → Option Nat} {o m : Nat} {ws : Nat → Option wWo} (hL : LK T F I P Y o m z ws) (hE : ∀ u : State, E.2.2.2.2 u → xOld u) {a : Nat} {w : wWo} (h3 : P o 3 = some a) (h4 : ∃ b : Nat, P o 4 = some b) (hu : ws 0 = some w) (hf : 0 ≤ F o 7 ∧ F o 7 < 12) (hc : 0 ≤ F o 8 ∧ F o 8 ≤ 12) (hb : sEnt w 19 ≠ 0 ∧ sCrowd w = false) : Ct E 4 mX11_flush 57 2100 [.ref o] (z, T, F, I, P, Y) (xAl o m z T F I P Y (some (J (sEnt w 19))) (wsA ws (F o 7) (F o 8) w (sFlush w)) (F o 1) (F o 2) (rmF (F o 7) (F o 8)) (rmC (F o 8) + 1)) := by
  have h1 : (T o).1 = 12 := hL.1.1
  obtain ⟨hS, hI, -⟩ := hL.liv (s := 0) (by decide) h3 hu
  have hO := hS.1.1
  have o0 := hO.2.1
  obtain ⟨hGd, hLw, ⟨π, ⟨hSt, hPm⟩, ⟨hSc, hTl, hJb⟩, hRun, hTab, hOut, hJo⟩, hLv, hLf⟩ := id hS
  obtain ⟨⟨st9, s0, s01, s02⟩, hRows, ⟨s4, s44⟩, ⟨s5, l9, ⟨l0, l1, l2, l3⟩, ⟨l01, l02⟩, ⟨l11, l12⟩, ⟨l21, l22⟩, l31, l32⟩, ⟨s6, s50⟩, ⟨s7, hJou⟩, -⟩ := id hSt
  have p5 : ∀ j : Nat, j < 14 → π j < 14 := hPm.2.2.2.1
  have hw0 : F a 1 = w 0 := hSc.1
  have hT2 : F (a + 2 + 3 * π 12) 2 = sEnt w 19 := hTab.2.2.1
  have hE9 := sEnt_bd w 19
  have hcr := sCrowd_f hb.2 o0.2
  have hm0 : I (a + 45 + 2) 0 = sMany w 0 := (hLv.1 0 (by decide)).2.1
  have hmb := sMany_bd w 0
  have h4b := hO.2.2.2.2.2.1
  have hF10 : F a 10 = w 4 := hSc.2.2.1
  refine Ct.of [some (.ref o), none] kt_X11_flush rfl (Nat.le_of_ble_eq_true rfl) rfl (fun d hd => ?_)
  generalize hX : xN E _ _ _ = X
  refine xg_aloadn 1 dX11_flush_0 rfl rfl rfl ?_
  refine xg_getP 4 kf_RX11_23 dX11_flush_1 rfl h1 h3 ?_
  refine xg_getP 7 kf_RX11_243 dX11_flush_4 rfl st9 hPm.2.1 ?_
  refine xg_getI 10 kf_RX11_137 dX11_flush_7 rfl (hRows _ (p5 12 (by omega))).1 ?_
  rw [hT2]
  refine xg_ifeq 23 13 dX11_flush_10 rfl rfl (by omega) (fun hb10 => ?_) (fun hb10 => ?_)
  · exfalso; omega
  · skip
    refine xg_aloadn 14 dX11_flush_13 rfl rfl rfl ?_
    refine xg_getP 17 kf_RX11_23 dX11_flush_14 rfl h1 h3 ?_
    refine xg_callV 20 8 [] _ kv_X8_hasRoom ⟨_, _, rfl⟩ kl_RX11_246 dX11_flush_17 rfl st9 (by omega) rfl rfl (Nat.le_of_ble_eq_true rfl) (by omega) ⟨by first | decide | omega, by first | decide | omega⟩ (ct_X8_hasRoom st9 s5 l9 l1 l11 (by omega) (by rw [hm0]; omega) (by omega) (by omega)) rfl ?_
    refine xg_dne 31 23 dX11_flush_20 rfl rfl (fun hb20 => ?_) (fun hb20 => ?_)
    · skip
      refine xg_aloadn 32 dX11_flush_31 rfl rfl rfl ?_
      refine xg_callVm 35 11 [] _ kv_X11_remember ⟨_, _, rfl⟩ kl_RX11_219 dX11_flush_32 rfl h1 (by omega) rfl rfl (Nat.le_of_ble_eq_true rfl) (by omega) ⟨by first | decide | omega, by first | decide | omega⟩ (ct_X11_remember hL hE h3 hu hf hc) rfl (fun v9 h9 e9 => ?_)
      obtain ⟨rfl, z9, T9, F9, I9, P9, Y9, rfl, hz9, hK9, hP9, hY9, hYx9, hF9, hI9, hM9⟩ := e9
      have q1 : (T9 o).1 = 12 := hK9.1.1
      have r3 : P9 o 3 = some a := by rw [hP9]; exact h3
      have hu9 : wsU ws ((rmS (F o 7) (F o 8)).toNat + 3) (some w) 0 = some w := by unfold wsU; rw [if_neg (by omega)]; exact hu
      obtain ⟨hS9, hW9, t9⟩ := hK9.liv (s := 0) (by decide) r3 hu9
      have hOx := hS9.1.1
      have o0x := hOx.2.1
      obtain ⟨hGdx, hLwx, ⟨πx, ⟨hStx, hPmx⟩, ⟨hScx, hTlx, hJbx⟩, hRunx, hTabx, hOutx, hJox⟩, hLvx, hLfx⟩ := id hS9
      obtain ⟨⟨st9x, s0x, s01x, s02x⟩, hRowsx, ⟨s4x, s44x⟩, ⟨s5x, l9x, ⟨l0x, l1x, l2x, l3x⟩, ⟨l01x, l02x⟩, ⟨l11x, l12x⟩, ⟨l21x, l22x⟩, l31x, l32x⟩, ⟨s6x, s50x⟩, ⟨s7x, hJoux⟩, -⟩ := id hStx
      have p5x : ∀ j : Nat, j < 14 → πx j < 14 := hPmx.2.2.2.1
      have hw0x : F9 a 1 = w 0 := hScx.1
      have hT9 : F9 (a + 2 + 3 * πx 12) 2 = sEnt w 19 := hTabx.2.2.1
      refine xg_aloadn 36 dX11_flush_35 rfl rfl rfl ?_
      refine xg_getP 39 kf_RX11_23 dX11_flush_36 rfl q1 r3 ?_
      refine xg_getP 42 kf_RX11_243 dX11_flush_39 rfl t9 hPmx.2.1 ?_
      refine xg_getI 45 kf_RX11_137 dX11_flush_42 rfl (hRowsx _ (p5x 12 (by omega))).1 ?_
      refine xg_istoren 46 _ dX11_flush_45 rfl rfl rfl (by decide) (Or.inr rfl) ?_
      refine xg_aloadn 47 dX11_flush_46 rfl rfl rfl ?_
      refine xg_getP 50 kf_RX11_23 dX11_flush_47 rfl q1 r3 ?_
      refine xg_callVq 53 8 [] _ kv_X8_pourTable ⟨_, _, rfl⟩ kl_RX11_249 dX11_flush_50 rfl t9 (by omega) rfl rfl (Nat.le_of_ble_eq_true rfl) (by omega) ⟨by first | decide | omega, by first | decide | omega⟩ (ct_X8_pourTable hS9 hW9.1.2.1 hcr.1 (by omega)) rfl (fun F8 I8 P8 Y8 hS8 hF8 => ?_)
      refine xg_iloadn 54 dX11_flush_53 rfl rfl rfl ?_
      subst hX
      refine xg_ireturn dX11_flush_54 rfl ⟨by first | decide | omega, by first | decide | omega⟩ ?_
      rw [hT9]; exact xAl.act hz9 hK9 hP9 hF9 hI9 hM9 r3 h4 hS8 (wI2_flush hW9 hcr.1 (by omega)) hF8
    · exfalso; omega

theorem dX11_plan_0 : decode cX11_plan 0 = .ok (.aload_n 0, 1) := by decide +kernel
theorem dX11_plan_1 : decode cX11_plan 1 = .ok (.invokevirtual 219, 3) := by decide +kernel
theorem dX11_plan_4 : decode cX11_plan 4 = .ok (.aload_n 0, 1) := by decide +kernel
theorem dX11_plan_5 : decode cX11_plan 5 = .ok (.getfield 23, 3) := by decide +kernel
theorem dX11_plan_8 : decode cX11_plan 8 = .ok (.getfield 252, 3) := by decide +kernel
theorem dX11_plan_11 : decode cX11_plan 11 = .ok (.iload_n 1, 1) := by decide +kernel
theorem dX11_plan_12 : decode cX11_plan 12 = .ok (.if_icmp .eq 7, 3) := by decide +kernel
theorem dX11_plan_15 : decode cX11_plan 15 = .ok (.iconst 1, 1) := by decide +kernel
theorem dX11_plan_16 : decode cX11_plan 16 = .ok (.goto 4, 3) := by decide +kernel
theorem dX11_plan_19 : decode cX11_plan 19 = .ok (.iconst 0, 1) := by decide +kernel
theorem dX11_plan_20 : decode cX11_plan 20 = .ok (.istore_n 2, 1) := by decide +kernel
theorem dX11_plan_21 : decode cX11_plan 21 = .ok (.aload_n 0, 1) := by decide +kernel
theorem dX11_plan_22 : decode cX11_plan 22 = .ok (.getfield 23, 3) := by decide +kernel
theorem dX11_plan_25 : decode cX11_plan 25 = .ok (.iload_n 1, 1) := by decide +kernel
theorem dX11_plan_26 : decode cX11_plan 26 = .ok (.invokevirtual 255, 3) := by decide +kernel
theorem dX11_plan_29 : decode cX11_plan 29 = .ok (.iload_n 2, 1) := by decide +kernel
theorem dX11_plan_30 : decode cX11_plan 30 = .ok (.ireturn, 1) := by decide +kernel
set_option maxHeartbeats 4000000 in
set_option maxRecDepth 100000 in
theorem ct_X11_plan {E : xE} {z : Nat} {T : Nat → Nat × Int} {F : Nat → Nat → Int} {I : Nat → Int → Int} {P : Nat → Nat → Option Nat} {Y : Nat → Int → Option Nat} {o m : Nat} {ws : Nat → Option wWo} (hL : LK T F I P Y o m z ws) (hE : ∀ u : State, E.2.2.2.2 u → xOld u) {a : Nat} {w : wWo} (h3 : P o 3 = some a) (h4 : ∃ b : Nat, P o 4 = some b) (hu : ws 0 = some w) (hf : 0 ≤ F o 7 ∧ F o 7 < 12) (hc : 0 ≤ F o 8 ∧ F o 8 ≤ 12) {v : Int} (hv : v = 0 ∨ v = 1) : Ct E 4 mX11_plan 57 2100 [.ref o, J v] (z, T, F, I, P, Y) (xAl o m z T F I P Y (some (J (if w 3 = v then 0 else 1))) (wsA ws (F o 7) (F o 8) w (sPlan w v)) (F o 1) (F o 2) (rmF (F o 7) (F o 8)) (rmC (F o 8) + 1)) := by
  have h1 : (T o).1 = 12 := hL.1.1
  obtain ⟨hS, hI, -⟩ := hL.liv (s := 0) (by decide) h3 hu
  refine Ct.of [some (.ref o), some (J v), none] kt_X11_plan rfl (Nat.le_of_ble_eq_true rfl) rfl (fun d hd => ?_)
  generalize hX : xN E _ _ _ = X
  refine xg_aloadn 1 dX11_plan_0 rfl rfl rfl ?_
  refine xg_callVm 4 11 [] _ kv_X11_remember ⟨_, _, rfl⟩ kl_RX11_219 dX11_plan_1 rfl h1 (by omega) rfl rfl (Nat.le_of_ble_eq_true rfl) (by omega) ⟨by first | decide | omega, by first | decide | omega⟩ (ct_X11_remember hL hE h3 hu hf hc) rfl (fun v9 h9 e9 => ?_)
  obtain ⟨rfl, z9, T9, F9, I9, P9, Y9, rfl, hz9, hK9, hP9, hY9, hYx9, hF9, hI9, hM9⟩ := e9
  have q1 : (T9 o).1 = 12 := hK9.1.1
  have r3 : P9 o 3 = some a := by rw [hP9]; exact h3
  have hu9 : wsU ws ((rmS (F o 7) (F o 8)).toNat + 3) (some w) 0 = some w := by unfold wsU; rw [if_neg (by omega)]; exact hu
  obtain ⟨hS9, hW9, t9⟩ := hK9.liv (s := 0) (by decide) r3 hu9
  have hOx := hS9.1.1
  have o0x := hOx.2.1
  obtain ⟨hGdx, hLwx, ⟨πx, ⟨hStx, hPmx⟩, ⟨hScx, hTlx, hJbx⟩, hRunx, hTabx, hOutx, hJox⟩, hLvx, hLfx⟩ := id hS9
  obtain ⟨⟨st9x, s0x, s01x, s02x⟩, hRowsx, ⟨s4x, s44x⟩, ⟨s5x, l9x, ⟨l0x, l1x, l2x, l3x⟩, ⟨l01x, l02x⟩, ⟨l11x, l12x⟩, ⟨l21x, l22x⟩, l31x, l32x⟩, ⟨s6x, s50x⟩, ⟨s7x, hJoux⟩, -⟩ := id hStx
  have p5x : ∀ j : Nat, j < 14 → πx j < 14 := hPmx.2.2.2.1
  have hw0x : F9 a 1 = w 0 := hScx.1
  have hF3 : F9 a 9 = w 3 := hScx.2.1
  have h3w := hOx.2.2.2.2.1
  refine xg_aloadn 5 dX11_plan_4 rfl rfl rfl ?_
  refine xg_getP 8 kf_RX11_23 dX11_plan_5 rfl q1 r3 ?_
  refine xg_getI 11 kf_RX11_252 dX11_plan_8 rfl t9 ?_
  refine xg_iloadn 12 dX11_plan_11 rfl rfl rfl ?_
  rw [hF3]
  refine xg_iceq 19 15 dX11_plan_12 rfl rfl (by omega) (fun hb12 => ?_) (fun hb12 => ?_)
  · skip
    refine xg_iconst 20 dX11_plan_19 rfl ?_
    refine xg_istoren 21 _ dX11_plan_20 rfl rfl rfl (by decide) (Or.inr rfl) ?_
    refine xg_aloadn 22 dX11_plan_21 rfl rfl rfl ?_
    refine xg_getP 25 kf_RX11_23 dX11_plan_22 rfl q1 r3 ?_
    refine xg_iloadn 26 dX11_plan_25 rfl rfl rfl ?_
    refine xg_callVq 29 8 [_] _ kv_X8_tellPlan ⟨_, _, rfl⟩ kl_RX11_255 dX11_plan_26 rfl t9 (by omega) rfl rfl (Nat.le_of_ble_eq_true rfl) (by omega) ⟨by first | decide | omega, by first | decide | omega⟩ (ct_X8_tellPlan hS9 hW9.1 hv) rfl (fun F8 I8 P8 Y8 hS8 hF8 => ?_)
    refine xg_iloadn 30 dX11_plan_29 rfl rfl rfl ?_
    subst hX
    refine xg_zreturn dX11_plan_30 rfl (by first | exact bI_01 _ | omega) ⟨by first | decide | omega, by first | decide | omega⟩ ?_
    rw [if_pos (by omega)]; exact xAl.act hz9 hK9 hP9 hF9 hI9 hM9 r3 h4 hS8 (wI2_no (wI2_halt hW9) (by omega) (by unfold wCell; omega)) hF8
  · skip
    refine xg_iconst 16 dX11_plan_15 rfl ?_
    refine xg_goto 20 dX11_plan_16 rfl ?_
    refine xg_istoren 21 _ dX11_plan_20 rfl rfl rfl (by decide) (Or.inr rfl) ?_
    refine xg_aloadn 22 dX11_plan_21 rfl rfl rfl ?_
    refine xg_getP 25 kf_RX11_23 dX11_plan_22 rfl q1 r3 ?_
    refine xg_iloadn 26 dX11_plan_25 rfl rfl rfl ?_
    refine xg_callVq 29 8 [_] _ kv_X8_tellPlan ⟨_, _, rfl⟩ kl_RX11_255 dX11_plan_26 rfl t9 (by omega) rfl rfl (Nat.le_of_ble_eq_true rfl) (by omega) ⟨by first | decide | omega, by first | decide | omega⟩ (ct_X8_tellPlan hS9 hW9.1 hv) rfl (fun F8 I8 P8 Y8 hS8 hF8 => ?_)
    refine xg_iloadn 30 dX11_plan_29 rfl rfl rfl ?_
    subst hX
    refine xg_zreturn dX11_plan_30 rfl (by first | exact bI_01 _ | omega) ⟨by first | decide | omega, by first | decide | omega⟩ ?_
    rw [if_neg (by omega)]; exact xAl.act hz9 hK9 hP9 hF9 hI9 hM9 r3 h4 hS8 (wI2_no (wI2_halt hW9) (by omega) (by unfold wCell; omega)) hF8

theorem dX11_tune_0 : decode cX11_tune 0 = .ok (.iload_n 1, 1) := by decide +kernel
theorem dX11_tune_1 : decode cX11_tune 1 = .ok (.ifCond .lt 8, 3) := by decide +kernel
theorem dX11_tune_4 : decode cX11_tune 4 = .ok (.iload_n 1, 1) := by decide +kernel
theorem dX11_tune_5 : decode cX11_tune 5 = .ok (.iconst 2, 1) := by decide +kernel
theorem dX11_tune_6 : decode cX11_tune 6 = .ok (.if_icmp .le 11, 3) := by decide +kernel
theorem dX11_tune_9 : decode cX11_tune 9 = .ok (.new 155, 3) := by decide +kernel
theorem dX11_tune_12 : decode cX11_tune 12 = .ok (.dup, 1) := by decide +kernel
theorem dX11_tune_13 : decode cX11_tune 13 = .ok (.invokespecial 157, 3) := by decide +kernel
theorem dX11_tune_16 : decode cX11_tune 16 = .ok (.athrow, 1) := by decide +kernel
theorem dX11_tune_17 : decode cX11_tune 17 = .ok (.iload_n 1, 1) := by decide +kernel
theorem dX11_tune_18 : decode cX11_tune 18 = .ok (.iload_n 2, 1) := by decide +kernel
theorem dX11_tune_19 : decode cX11_tune 19 = .ok (.invokestatic 259, 3) := by decide +kernel
theorem dX11_tune_22 : decode cX11_tune 22 = .ok (.ifCond .eq 11, 3) := by decide +kernel
theorem dX11_tune_25 : decode cX11_tune 25 = .ok (.new 92, 3) := by decide +kernel
theorem dX11_tune_28 : decode cX11_tune 28 = .ok (.dup, 1) := by decide +kernel
theorem dX11_tune_29 : decode cX11_tune 29 = .ok (.invokespecial 94, 3) := by decide +kernel
theorem dX11_tune_32 : decode cX11_tune 32 = .ok (.athrow, 1) := by decide +kernel
theorem dX11_tune_33 : decode cX11_tune 33 = .ok (.aload_n 0, 1) := by decide +kernel
theorem dX11_tune_34 : decode cX11_tune 34 = .ok (.invokevirtual 219, 3) := by decide +kernel
theorem dX11_tune_37 : decode cX11_tune 37 = .ok (.iload_n 1, 1) := by decide +kernel
theorem dX11_tune_38 : decode cX11_tune 38 = .ok (.ifCond .ne 22, 3) := by decide +kernel
theorem dX11_tune_41 : decode cX11_tune 41 = .ok (.aload_n 0, 1) := by decide +kernel
theorem dX11_tune_42 : decode cX11_tune 42 = .ok (.getfield 23, 3) := by decide +kernel
theorem dX11_tune_45 : decode cX11_tune 45 = .ok (.getfield 263, 3) := by decide +kernel
theorem dX11_tune_48 : decode cX11_tune 48 = .ok (.istore_n 3, 1) := by decide +kernel
theorem dX11_tune_49 : decode cX11_tune 49 = .ok (.aload_n 0, 1) := by decide +kernel
theorem dX11_tune_50 : decode cX11_tune 50 = .ok (.getfield 23, 3) := by decide +kernel
theorem dX11_tune_53 : decode cX11_tune 53 = .ok (.iload_n 2, 1) := by decide +kernel
theorem dX11_tune_54 : decode cX11_tune 54 = .ok (.invokevirtual 266, 3) := by decide +kernel
theorem dX11_tune_57 : decode cX11_tune 57 = .ok (.goto 43, 3) := by decide +kernel
theorem dX11_tune_60 : decode cX11_tune 60 = .ok (.iload_n 1, 1) := by decide +kernel
theorem dX11_tune_61 : decode cX11_tune 61 = .ok (.iconst 1, 1) := by decide +kernel
theorem dX11_tune_62 : decode cX11_tune 62 = .ok (.if_icmp .ne 22, 3) := by decide +kernel
theorem dX11_tune_65 : decode cX11_tune 65 = .ok (.aload_n 0, 1) := by decide +kernel
theorem dX11_tune_66 : decode cX11_tune 66 = .ok (.getfield 23, 3) := by decide +kernel
theorem dX11_tune_69 : decode cX11_tune 69 = .ok (.getfield 269, 3) := by decide +kernel
theorem dX11_tune_72 : decode cX11_tune 72 = .ok (.istore_n 3, 1) := by decide +kernel
theorem dX11_tune_73 : decode cX11_tune 73 = .ok (.aload_n 0, 1) := by decide +kernel
theorem dX11_tune_74 : decode cX11_tune 74 = .ok (.getfield 23, 3) := by decide +kernel
theorem dX11_tune_77 : decode cX11_tune 77 = .ok (.iload_n 2, 1) := by decide +kernel
theorem dX11_tune_78 : decode cX11_tune 78 = .ok (.invokevirtual 272, 3) := by decide +kernel
theorem dX11_tune_81 : decode cX11_tune 81 = .ok (.goto 19, 3) := by decide +kernel
theorem dX11_tune_84 : decode cX11_tune 84 = .ok (.aload_n 0, 1) := by decide +kernel
theorem dX11_tune_85 : decode cX11_tune 85 = .ok (.getfield 23, 3) := by decide +kernel
theorem dX11_tune_88 : decode cX11_tune 88 = .ok (.getfield 275, 3) := by decide +kernel
theorem dX11_tune_91 : decode cX11_tune 91 = .ok (.istore_n 3, 1) := by decide +kernel
theorem dX11_tune_92 : decode cX11_tune 92 = .ok (.aload_n 0, 1) := by decide +kernel
theorem dX11_tune_93 : decode cX11_tune 93 = .ok (.getfield 23, 3) := by decide +kernel
theorem dX11_tune_96 : decode cX11_tune 96 = .ok (.iload_n 2, 1) := by decide +kernel
theorem dX11_tune_97 : decode cX11_tune 97 = .ok (.putfield 275, 3) := by decide +kernel
theorem dX11_tune_100 : decode cX11_tune 100 = .ok (.iload_n 3, 1) := by decide +kernel
theorem dX11_tune_101 : decode cX11_tune 101 = .ok (.ireturn, 1) := by decide +kernel
set_option maxHeartbeats 4000000 in
set_option maxRecDepth 100000 in
theorem ct_X11_tune {E : xE} {z : Nat} {T : Nat → Nat × Int} {F : Nat → Nat → Int} {I : Nat → Int → Int} {P : Nat → Nat → Option Nat} {Y : Nat → Int → Option Nat} {o m : Nat} {ws : Nat → Option wWo} (hL : LK T F I P Y o m z ws) (hE : ∀ u : State, E.2.2.2.2 u → xOld u) {a : Nat} {w : wWo} (h3 : P o 3 = some a) (h4 : ∃ b : Nat, P o 4 = some b) (hu : ws 0 = some w) (hf : 0 ≤ F o 7 ∧ F o 7 < 12) (hc : 0 ≤ F o 8 ∧ F o 8 ≤ 12) {k v : Int} (hb : tuneOk k v) : Ct E 4 mX11_tune 57 2100 [.ref o, J k, J v] (z, T, F, I, P, Y) (xAl o m z T F I P Y (some (J (w (4 + k)))) (wsA ws (F o 7) (F o 8) w (sTune w k v)) (F o 1) (F o 2) (rmF (F o 7) (F o 8)) (rmC (F o 8) + 1)) := by
  have h1 : (T o).1 = 12 := hL.1.1
  obtain ⟨hS, hI, -⟩ := hL.liv (s := 0) (by decide) h3 hu
  have htu := (tuneOk_tu hb).1
  have htk := (tuneOk_tu hb).2.1
  have htv := (tuneOk_tu hb).2.2
  refine Ct.of [some (.ref o), some (J k), some (J v), none] kt_X11_tune rfl (Nat.le_of_ble_eq_true rfl) rfl (fun d hd => ?_)
  generalize hX : xN E _ _ _ = X
  refine xg_iloadn 1 dX11_tune_0 rfl rfl rfl ?_
  refine xg_iflt 9 4 dX11_tune_1 rfl rfl (by omega) (fun hb1 => ?_) (fun hb1 => ?_)
  · exfalso; omega
  · skip
    refine xg_iloadn 5 dX11_tune_4 rfl rfl rfl ?_
    refine xg_iconst 6 dX11_tune_5 rfl ?_
    refine xg_icle 17 9 dX11_tune_6 rfl rfl (by omega) (fun hb6 => ?_) (fun hb6 => ?_)
    · skip
      refine xg_iloadn 18 dX11_tune_17 rfl rfl rfl ?_
      refine xg_iloadn 19 dX11_tune_18 rfl rfl rfl ?_
      refine xg_callS 22 [_, _] _ ks_X11_isNoTuning kl_RX11_259 dX11_tune_19 rfl rfl rfl (Nat.le_of_ble_eq_true rfl) (by omega) ⟨by first | decide | omega, by first | decide | omega⟩ (ct_X11_isNoTuning (by omega) (by omega)) rfl ?_
      refine xg_deq 33 25 dX11_tune_22 rfl rfl (fun hb22 => ?_) (fun hb22 => ?_)
      · skip
        refine xg_aloadn 34 dX11_tune_33 rfl rfl rfl ?_
        refine xg_callVm 37 11 [] _ kv_X11_remember ⟨_, _, rfl⟩ kl_RX11_219 dX11_tune_34 rfl h1 (by omega) rfl rfl (Nat.le_of_ble_eq_true rfl) (by omega) ⟨by first | decide | omega, by first | decide | omega⟩ (ct_X11_remember hL hE h3 hu hf hc) rfl (fun v9 h9 e9 => ?_)
        obtain ⟨rfl, z9, T9, F9, I9, P9, Y9, rfl, hz9, hK9, hP9, hY9, hYx9, hF9, hI9, hM9⟩ := e9
        have q1 : (T9 o).1 = 12 := hK9.1.1
        have r3 : P9 o 3 = some a := by rw [hP9]; exact h3
        have hu9 : wsU ws ((rmS (F o 7) (F o 8)).toNat + 3) (some w) 0 = some w := by unfold wsU; rw [if_neg (by omega)]; exact hu
        obtain ⟨hS9, hW9, t9⟩ := hK9.liv (s := 0) (by decide) r3 hu9
        have hOx := hS9.1.1
        have o0x := hOx.2.1
        obtain ⟨hGdx, hLwx, ⟨πx, ⟨hStx, hPmx⟩, ⟨hScx, hTlx, hJbx⟩, hRunx, hTabx, hOutx, hJox⟩, hLvx, hLfx⟩ := id hS9
        obtain ⟨⟨st9x, s0x, s01x, s02x⟩, hRowsx, ⟨s4x, s44x⟩, ⟨s5x, l9x, ⟨l0x, l1x, l2x, l3x⟩, ⟨l01x, l02x⟩, ⟨l11x, l12x⟩, ⟨l21x, l22x⟩, l31x, l32x⟩, ⟨s6x, s50x⟩, ⟨s7x, hJoux⟩, -⟩ := id hStx
        have p5x : ∀ j : Nat, j < 14 → πx j < 14 := hPmx.2.2.2.1
        have hw0x : F9 a 1 = w 0 := hScx.1
        have hF10 : F9 a 10 = w 4 := hScx.2.2.1
        have hF11 : F9 a 11 = w 5 := hScx.2.2.2.1
        have hF12 : F9 a 12 = w 6 := hScx.2.2.2.2.1
        refine xg_iloadn 38 dX11_tune_37 rfl rfl rfl ?_
        refine xg_ifne 60 41 dX11_tune_38 rfl rfl (by omega) (fun hb38 => ?_) (fun hb38 => ?_)
        · skip
          refine xg_iloadn 61 dX11_tune_60 rfl rfl rfl ?_
          refine xg_iconst 62 dX11_tune_61 rfl ?_
          refine xg_icne 84 65 dX11_tune_62 rfl rfl (by omega) (fun hb62 => ?_) (fun hb62 => ?_)
          · have ek : k = 2 := by omega
            subst ek
            refine xg_aloadn 85 dX11_tune_84 rfl rfl rfl ?_
            refine xg_getP 88 kf_RX11_23 dX11_tune_85 rfl q1 r3 ?_
            refine xg_getI 91 kf_RX11_275 dX11_tune_88 rfl t9 ?_
            refine xg_istoren 92 _ dX11_tune_91 rfl rfl rfl (by decide) (Or.inr rfl) ?_
            refine xg_aloadn 93 dX11_tune_92 rfl rfl rfl ?_
            refine xg_getP 96 kf_RX11_23 dX11_tune_93 rfl q1 r3 ?_
            refine xg_iloadn 97 dX11_tune_96 rfl rfl rfl ?_
            refine xg_putI 100 kf_RX11_275 dX11_tune_97 rfl t9 ?_
            refine xg_iloadn 101 dX11_tune_100 rfl rfl rfl ?_
            subst hX
            refine xg_ireturn dX11_tune_101 rfl ⟨by first | decide | omega, by first | decide | omega⟩ ?_
            rw [hF12]; exact xAl.act (u' := sTune w 2 v) hz9 hK9 hP9 hF9 hI9 hM9 r3 h4 (hS9.sc (k := 12) (i := 6) (by omega) (by unfold wCell; omega)) (wI2_no hW9 (by omega) (by unfold wCell; omega)) (SF.uF ⟨Nat.le_refl _, by omega⟩)
          · have ek : k = 1 := by omega
            subst ek
            have hb2 : 2 ≤ v ∧ v ≤ 6 := by unfold tuneOk at hb; omega
            refine xg_aloadn 66 dX11_tune_65 rfl rfl rfl ?_
            refine xg_getP 69 kf_RX11_23 dX11_tune_66 rfl q1 r3 ?_
            refine xg_getI 72 kf_RX11_269 dX11_tune_69 rfl t9 ?_
            refine xg_istoren 73 _ dX11_tune_72 rfl rfl rfl (by decide) (Or.inr rfl) ?_
            refine xg_aloadn 74 dX11_tune_73 rfl rfl rfl ?_
            refine xg_getP 77 kf_RX11_23 dX11_tune_74 rfl q1 r3 ?_
            refine xg_iloadn 78 dX11_tune_77 rfl rfl rfl ?_
            refine xg_callVq 81 8 [_] _ kv_X8_tellSize ⟨_, _, rfl⟩ kl_RX11_272 dX11_tune_78 rfl t9 (by omega) rfl rfl (Nat.le_of_ble_eq_true rfl) (by omega) ⟨by first | decide | omega, by first | decide | omega⟩ (ct_X8_tellSize hS9 hW9.1 hb2) rfl (fun F8 I8 P8 Y8 hS8 hF8 => ?_)
            refine xg_goto 100 dX11_tune_81 rfl ?_
            refine xg_iloadn 101 dX11_tune_100 rfl rfl rfl ?_
            subst hX
            refine xg_ireturn dX11_tune_101 rfl ⟨by first | decide | omega, by first | decide | omega⟩ ?_
            rw [hF11]; exact xAl.act (u' := sTune w 1 v) hz9 hK9 hP9 hF9 hI9 hM9 r3 h4 hS8 (wI2_no (wI2_halt hW9) (by omega) (by unfold wCell; omega)) hF8
        · have ek : k = 0 := by omega
          subst ek
          have hb2 : 2 ≤ v ∧ v ≤ 4 := by unfold tuneOk at hb; omega
          refine xg_aloadn 42 dX11_tune_41 rfl rfl rfl ?_
          refine xg_getP 45 kf_RX11_23 dX11_tune_42 rfl q1 r3 ?_
          refine xg_getI 48 kf_RX11_263 dX11_tune_45 rfl t9 ?_
          refine xg_istoren 49 _ dX11_tune_48 rfl rfl rfl (by decide) (Or.inr rfl) ?_
          refine xg_aloadn 50 dX11_tune_49 rfl rfl rfl ?_
          refine xg_getP 53 kf_RX11_23 dX11_tune_50 rfl q1 r3 ?_
          refine xg_iloadn 54 dX11_tune_53 rfl rfl rfl ?_
          refine xg_callVq 57 8 [_] _ kv_X8_tellFan ⟨_, _, rfl⟩ kl_RX11_266 dX11_tune_54 rfl t9 (by omega) rfl rfl (Nat.le_of_ble_eq_true rfl) (by omega) ⟨by first | decide | omega, by first | decide | omega⟩ (ct_X8_tellFan hS9 hW9.1 hb2) rfl (fun F8 I8 P8 Y8 hS8 hF8 => ?_)
          refine xg_goto 100 dX11_tune_57 rfl ?_
          refine xg_iloadn 101 dX11_tune_100 rfl rfl rfl ?_
          subst hX
          refine xg_ireturn dX11_tune_101 rfl ⟨by first | decide | omega, by first | decide | omega⟩ ?_
          rw [hF10]; exact xAl.act (u' := sTune w 0 v) hz9 hK9 hP9 hF9 hI9 hM9 r3 h4 hS8 (wI2_no (wI2_halt hW9) (by omega) (by unfold wCell; omega)) hF8
      · exfalso; exact htu hb22
    · exfalso; omega

