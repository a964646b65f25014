theorem dX11_isNoKey_0 : decode cX11_isNoKey 0 = .ok (.iload_n 0, 1) := by decide +kernel
theorem dX11_isNoKey_1 : decode cX11_isNoKey 1 = .ok (.ifCond .lt 9, 3) := by decide +kernel
theorem dX11_isNoKey_4 : decode cX11_isNoKey 4 = .ok (.iload_n 0, 1) := by decide +kernel
theorem dX11_isNoKey_5 : decode cX11_isNoKey 5 = .ok (.bipush 60, 2) := by decide +kernel
theorem dX11_isNoKey_7 : decode cX11_isNoKey 7 = .ok (.if_icmp .lt 7, 3) := by decide +kernel
theorem dX11_isNoKey_10 : decode cX11_isNoKey 10 = .ok (.iconst 1, 1) := by decide +kernel
theorem dX11_isNoKey_11 : decode cX11_isNoKey 11 = .ok (.goto 4, 3) := by decide +kernel
theorem dX11_isNoKey_14 : decode cX11_isNoKey 14 = .ok (.iconst 0, 1) := by decide +kernel
theorem dX11_isNoKey_15 : decode cX11_isNoKey 15 = .ok (.ireturn, 1) := by decide +kernel
theorem dX11_isNoSpan_0 : decode cX11_isNoSpan 0 = .ok (.iload_n 0, 1) := by decide +kernel
theorem dX11_isNoSpan_1 : decode cX11_isNoSpan 1 = .ok (.ifCond .lt 9, 3) := by decide +kernel
theorem dX11_isNoSpan_4 : decode cX11_isNoSpan 4 = .ok (.iload_n 0, 1) := by decide +kernel
theorem dX11_isNoSpan_5 : decode cX11_isNoSpan 5 = .ok (.bipush 60, 2) := by decide +kernel
theorem dX11_isNoSpan_7 : decode cX11_isNoSpan 7 = .ok (.if_icmp .le 7, 3) := by decide +kernel
theorem dX11_isNoSpan_10 : decode cX11_isNoSpan 10 = .ok (.iconst 1, 1) := by decide +kernel
theorem dX11_isNoSpan_11 : decode cX11_isNoSpan 11 = .ok (.goto 4, 3) := by decide +kernel
theorem dX11_isNoSpan_14 : decode cX11_isNoSpan 14 = .ok (.iconst 0, 1) := by decide +kernel
theorem dX11_isNoSpan_15 : decode cX11_isNoSpan 15 = .ok (.ireturn, 1) := by decide +kernel
theorem dX11_ratio_0 : decode cX11_ratio 0 = .ok (.iload_n 1, 1) := by decide +kernel
theorem dX11_ratio_1 : decode cX11_ratio 1 = .ok (.ifCond .gt 7, 3) := by decide +kernel
theorem dX11_ratio_4 : decode cX11_ratio 4 = .ok (.iconst 0, 1) := by decide +kernel
theorem dX11_ratio_5 : decode cX11_ratio 5 = .ok (.goto 9, 3) := by decide +kernel
theorem dX11_ratio_8 : decode cX11_ratio 8 = .ok (.iload_n 0, 1) := by decide +kernel
theorem dX11_ratio_9 : decode cX11_ratio 9 = .ok (.bipush 100, 2) := by decide +kernel
theorem dX11_ratio_11 : decode cX11_ratio 11 = .ok (.imul, 1) := by decide +kernel
theorem dX11_ratio_12 : decode cX11_ratio 12 = .ok (.iload_n 1, 1) := by decide +kernel
theorem dX11_ratio_13 : decode cX11_ratio 13 = .ok (.idiv, 1) := by decide +kernel
theorem dX11_ratio_14 : decode cX11_ratio 14 = .ok (.ireturn, 1) := by decide +kernel
theorem dX11_areTwins_0 : decode cX11_areTwins 0 = .ok (.aload_n 0, 1) := by decide +kernel
theorem dX11_areTwins_1 : decode cX11_areTwins 1 = .ok (.getfield 132, 3) := by decide +kernel
theorem dX11_areTwins_4 : decode cX11_areTwins 4 = .ok (.aload_n 1, 1) := by decide +kernel
theorem dX11_areTwins_5 : decode cX11_areTwins 5 = .ok (.getfield 132, 3) := by decide +kernel
theorem dX11_areTwins_8 : decode cX11_areTwins 8 = .ok (.if_icmp .ne 18, 3) := by decide +kernel
theorem dX11_areTwins_11 : decode cX11_areTwins 11 = .ok (.aload_n 0, 1) := by decide +kernel
theorem dX11_areTwins_12 : decode cX11_areTwins 12 = .ok (.getfield 137, 3) := by decide +kernel
theorem dX11_areTwins_15 : decode cX11_areTwins 15 = .ok (.aload_n 1, 1) := by decide +kernel
theorem dX11_areTwins_16 : decode cX11_areTwins 16 = .ok (.getfield 137, 3) := by decide +kernel
theorem dX11_areTwins_19 : decode cX11_areTwins 19 = .ok (.if_icmp .ne 7, 3) := by decide +kernel
theorem dX11_areTwins_22 : decode cX11_areTwins 22 = .ok (.iconst 1, 1) := by decide +kernel
theorem dX11_areTwins_23 : decode cX11_areTwins 23 = .ok (.goto 4, 3) := by decide +kernel
theorem dX11_areTwins_26 : decode cX11_areTwins 26 = .ok (.iconst 0, 1) := by decide +kernel
theorem dX11_areTwins_27 : decode cX11_areTwins 27 = .ok (.ireturn, 1) := by decide +kernel
theorem dX11_isNoTuning_0 : decode cX11_isNoTuning 0 = .ok (.iload_n 0, 1) := by decide +kernel
theorem dX11_isNoTuning_1 : decode cX11_isNoTuning 1 = .ok (.ifCond .ne 19, 3) := by decide +kernel
theorem dX11_isNoTuning_4 : decode cX11_isNoTuning 4 = .ok (.iload_n 1, 1) := by decide +kernel
theorem dX11_isNoTuning_5 : decode cX11_isNoTuning 5 = .ok (.iconst 2, 1) := by decide +kernel
theorem dX11_isNoTuning_6 : decode cX11_isNoTuning 6 = .ok (.if_icmp .lt 8, 3) := by decide +kernel
theorem dX11_isNoTuning_9 : decode cX11_isNoTuning 9 = .ok (.iload_n 1, 1) := by decide +kernel
theorem dX11_isNoTuning_10 : decode cX11_isNoTuning 10 = .ok (.iconst 4, 1) := by decide +kernel
theorem dX11_isNoTuning_11 : decode cX11_isNoTuning 11 = .ok (.if_icmp .le 7, 3) := by decide +kernel
theorem dX11_isNoTuning_14 : decode cX11_isNoTuning 14 = .ok (.iconst 1, 1) := by decide +kernel
theorem dX11_isNoTuning_15 : decode cX11_isNoTuning 15 = .ok (.goto 4, 3) := by decide +kernel
theorem dX11_isNoTuning_18 : decode cX11_isNoTuning 18 = .ok (.iconst 0, 1) := by decide +kernel
theorem dX11_isNoTuning_19 : decode cX11_isNoTuning 19 = .ok (.ireturn, 1) := by decide +kernel
theorem dX11_isNoTuning_20 : decode cX11_isNoTuning 20 = .ok (.iload_n 0, 1) := by decide +kernel
theorem dX11_isNoTuning_21 : decode cX11_isNoTuning 21 = .ok (.iconst 1, 1) := by decide +kernel
theorem dX11_isNoTuning_22 : decode cX11_isNoTuning 22 = .ok (.if_icmp .ne 22, 3) := by decide +kernel
theorem dX11_isNoTuning_25 : decode cX11_isNoTuning 25 = .ok (.iload_n 1, 1) := by decide +kernel
theorem dX11_isNoTuning_26 : decode cX11_isNoTuning 26 = .ok (.iconst 2, 1) := by decide +kernel
theorem dX11_isNoTuning_27 : decode cX11_isNoTuning 27 = .ok (.if_icmp .lt 9, 3) := by decide +kernel
theorem dX11_isNoTuning_30 : decode cX11_isNoTuning 30 = .ok (.iload_n 1, 1) := by decide +kernel
theorem dX11_isNoTuning_31 : decode cX11_isNoTuning 31 = .ok (.bipush 6, 2) := by decide +kernel
theorem dX11_isNoTuning_33 : decode cX11_isNoTuning 33 = .ok (.if_icmp .le 7, 3) := by decide +kernel
theorem dX11_isNoTuning_36 : decode cX11_isNoTuning 36 = .ok (.iconst 1, 1) := by decide +kernel
theorem dX11_isNoTuning_37 : decode cX11_isNoTuning 37 = .ok (.goto 22, 3) := by decide +kernel
theorem dX11_isNoTuning_40 : decode cX11_isNoTuning 40 = .ok (.iconst 0, 1) := by decide +kernel
theorem dX11_isNoTuning_41 : decode cX11_isNoTuning 41 = .ok (.goto 18, 3) := by decide +kernel
theorem dX11_isNoTuning_44 : decode cX11_isNoTuning 44 = .ok (.iload_n 1, 1) := by decide +kernel
theorem dX11_isNoTuning_45 : decode cX11_isNoTuning 45 = .ok (.ifCond .lt 9, 3) := by decide +kernel
theorem dX11_isNoTuning_48 : decode cX11_isNoTuning 48 = .ok (.iload_n 1, 1) := by decide +kernel
theorem dX11_isNoTuning_49 : decode cX11_isNoTuning 49 = .ok (.bipush 9, 2) := by decide +kernel
theorem dX11_isNoTuning_51 : decode cX11_isNoTuning 51 = .ok (.if_icmp .le 7, 3) := by decide +kernel
theorem dX11_isNoTuning_54 : decode cX11_isNoTuning 54 = .ok (.iconst 1, 1) := by decide +kernel
theorem dX11_isNoTuning_55 : decode cX11_isNoTuning 55 = .ok (.goto 4, 3) := by decide +kernel
theorem dX11_isNoTuning_58 : decode cX11_isNoTuning 58 = .ok (.iconst 0, 1) := by decide +kernel
theorem dX11_isNoTuning_59 : decode cX11_isNoTuning 59 = .ok (.ireturn, 1) := by decide +kernel
/-- a ratio in hundredths -/
def zRt (a b : Int) : Int := if b ≤ 0 then 0 else a * 100 / b
/-- a bound out of its range -/
abbrev zTu (k v : Int) : Prop := (k = 0 ∧ (v < 2 ∨ 4 < v)) ∨ (k = 1 ∧ (v < 2 ∨ 6 < v)) ∨ (k ≠ 0 ∧ k ≠ 1 ∧ (v < 0 ∨ 9 < v))
set_option maxHeartbeats 4000000 in
set_option maxRecDepth 100000 in
theorem ct_X11_isNoKey {E : xE} {z : Nat} {T : Nat → Nat × Int} {F : Nat → Nat → Int} {I : Nat → Int → Int} {P : Nat → Nat → Option Nat} {Y : Nat → Int → Option Nat} {k : Int} (hk : -2147483648 ≤ k ∧ k < 2147483648) : Ct E 0 mX11_isNoKey 0 0 [J k] (z, T, F, I, P, Y) (xd (some (J (bI (decide (k < 0 ∨ 60 ≤ k))))) (z, T, F, I, P, Y)) := by
  refine Ct.of [some (J k)] kt_X11_isNoKey rfl (Nat.le_of_ble_eq_true rfl) rfl (fun d hd => ?_)
  generalize hX : xN E _ _ _ = X
  refine xg_iloadn 1 dX11_isNoKey_0 rfl rfl rfl ?_
  refine xg_iflt 10 4 dX11_isNoKey_1 rfl rfl (by omega) (fun hb1 => ?_) (fun hb1 => ?_)
  · skip
    refine xg_iconst 11 dX11_isNoKey_10 rfl ?_
    refine xg_goto 15 dX11_isNoKey_11 rfl ?_
    subst hX
    exact xg_zreturn dX11_isNoKey_15 rfl (by first | exact bI_01 _ | omega) ⟨Nat.le_refl _, Nat.le_refl _⟩ ⟨congrArg (fun v => some (J v)) (by first | exact (bI_t (by omega)).symm | exact (bI_f (by omega)).symm), rfl⟩
  · skip
    refine xg_iloadn 5 dX11_isNoKey_4 rfl rfl rfl ?_
    refine xg_bipush 7 dX11_isNoKey_5 rfl (by decide) ?_
    refine xg_iclt 14 10 dX11_isNoKey_7 rfl rfl (by omega) (fun hb7 => ?_) (fun hb7 => ?_)
    · skip
      refine xg_iconst 15 dX11_isNoKey_14 rfl ?_
      subst hX
      exact xg_zreturn dX11_isNoKey_15 rfl (by first | exact bI_01 _ | omega) ⟨Nat.le_refl _, Nat.le_refl _⟩ ⟨congrArg (fun v => some (J v)) (by first | exact (bI_t (by omega)).symm | exact (bI_f (by omega)).symm), rfl⟩
    · skip
      refine xg_iconst 11 dX11_isNoKey_10 rfl ?_
      refine xg_goto 15 dX11_isNoKey_11 rfl ?_
      subst hX
      exact xg_zreturn dX11_isNoKey_15 rfl (by first | exact bI_01 _ | omega) ⟨Nat.le_refl _, Nat.le_refl _⟩ ⟨congrArg (fun v => some (J v)) (by first | exact (bI_t (by omega)).symm | exact (bI_f (by omega)).symm), rfl⟩

set_option maxHeartbeats 4000000 in
set_option maxRecDepth 100000 in
theorem ct_X11_isNoSpan {E : xE} {z : Nat} {T : Nat → Nat × Int} {F : Nat → Nat → Int} {I : Nat → Int → Int} {P : Nat → Nat → Option Nat} {Y : Nat → Int → Option Nat} {k : Int} (hk : -2147483648 ≤ k ∧ k < 2147483648) : Ct E 0 mX11_isNoSpan 0 0 [J k] (z, T, F, I, P, Y) (xd (some (J (bI (decide (k < 0 ∨ 60 < k))))) (z, T, F, I, P, Y)) := by
  refine Ct.of [some (J k)] kt_X11_isNoSpan rfl (Nat.le_of_ble_eq_true rfl) rfl (fun d hd => ?_)
  generalize hX : xN E _ _ _ = X
  refine xg_iloadn 1 dX11_isNoSpan_0 rfl rfl rfl ?_
  refine xg_iflt 10 4 dX11_isNoSpan_1 rfl rfl (by omega) (fun hb1 => ?_) (fun hb1 => ?_)
  · skip
    refine xg_iconst 11 dX11_isNoSpan_10 rfl ?_
    refine xg_goto 15 dX11_isNoSpan_11 rfl ?_
    subst hX
    exact xg_zreturn dX11_isNoSpan_15 rfl (by first | exact bI_01 _ | omega) ⟨Nat.le_refl _, Nat.le_refl _⟩ ⟨congrArg (fun v => some (J v)) (by first | exact (bI_t (by omega)).symm | exact (bI_f (by omega)).symm), rfl⟩
  · skip
    refine xg_iloadn 5 dX11_isNoSpan_4 rfl rfl rfl ?_
    refine xg_bipush 7 dX11_isNoSpan_5 rfl (by decide) ?_
    refine xg_icle 14 10 dX11_isNoSpan_7 rfl rfl (by omega) (fun hb7 => ?_) (fun hb7 => ?_)
    · skip
      refine xg_iconst 15 dX11_isNoSpan_14 rfl ?_
      subst hX
      exact xg_zreturn dX11_isNoSpan_15 rfl (by first | exact bI_01 _ | omega) ⟨Nat.le_refl _, Nat.le_refl _⟩ ⟨congrArg (fun v => some (J v)) (by first | exact (bI_t (by omega)).symm | exact (bI_f (by omega)).symm), rfl⟩
    · skip
      refine xg_iconst 11 dX11_isNoSpan_10 rfl ?_
      refine xg_goto 15 dX11_isNoSpan_11 rfl ?_
      subst hX
      exact xg_zreturn dX11_isNoSpan_15 rfl (by first | exact bI_01 _ | omega) ⟨Nat.le_refl _, Nat.le_refl _⟩ ⟨congrArg (fun v => some (J v)) (by first | exact (bI_t (by omega)).symm | exact (bI_f (by omega)).symm), rfl⟩

set_option maxHeartbeats 4000000 in
set_option maxRecDepth 100000 in
theorem ct_X11_ratio {E : xE} {z : Nat} {T : Nat → Nat × Int} {F : Nat → Nat → Int} {I : Nat → Int → Int} {P : Nat → Nat → Option Nat} {Y : Nat → Int → Option Nat} {p q : Int} (hp : 0 ≤ p ∧ p ≤ 1000000) (hq : -2147483648 ≤ q ∧ q < 2147483648) : Ct E 0 mX11_ratio 0 0 [J p, J q] (z, T, F, I, P, Y) (xd (some (J (zRt p q))) (z, T, F, I, P, Y)) := by
  refine Ct.of [some (J p), some (J q)] kt_X11_ratio rfl (Nat.le_of_ble_eq_true rfl) rfl (fun d hd => ?_)
  generalize hX : xN E _ _ _ = X
  refine xg_iloadn 1 dX11_ratio_0 rfl rfl rfl ?_
  refine xg_ifgt 8 4 dX11_ratio_1 rfl rfl (by omega) (fun hb1 => ?_) (fun hb1 => ?_)
  · skip
    refine xg_iloadn 9 dX11_ratio_8 rfl rfl rfl ?_
    refine xg_bipush 11 dX11_ratio_9 rfl (by decide) ?_
    refine xg_imul 12 dX11_ratio_11 rfl ?_
    refine xg_iloadn 13 dX11_ratio_12 rfl rfl rfl ?_
    refine xg_idiv 14 dX11_ratio_13 rfl (by omega) ?_
    subst hX
    exact xg_ireturn dX11_ratio_14 rfl ⟨Nat.le_refl _, Nat.le_refl _⟩ ⟨by unfold zRt; first | rw [if_pos (by omega)] | rw [if_neg (by omega)], rfl⟩
  · skip
    refine xg_iconst 5 dX11_ratio_4 rfl ?_
    refine xg_goto 14 dX11_ratio_5 rfl ?_
    subst hX
    exact xg_ireturn dX11_ratio_14 rfl ⟨Nat.le_refl _, Nat.le_refl _⟩ ⟨by unfold zRt; first | rw [if_pos (by omega)] | rw [if_neg (by omega)], rfl⟩

set_option maxHeartbeats 4000000 in
set_option maxRecDepth 100000 in
theorem ct_X11_areTwins {E : xE} {z : Nat} {T : Nat → Nat × Int} {F : Nat → Nat → Int} {I : Nat → Int → Int} {P : Nat → Nat → Option Nat} {Y : Nat → Int → Option Nat} {a b : Nat} (ha : (T a).1 = 7) (hb : (T b).1 = 7) (h3 : (-2147483648 ≤ F a 3 ∧ F a 3 < 2147483648) ∧ -2147483648 ≤ F b 3 ∧ F b 3 < 2147483648) (h2 : (-2147483648 ≤ F a 2 ∧ F a 2 < 2147483648) ∧ -2147483648 ≤ F b 2 ∧ F b 2 < 2147483648) : Ct E 0 mX11_areTwins 0 0 [.ref a, .ref b] (z, T, F, I, P, Y) (xd (some (J (bI (decide (F a 3 = F b 3 ∧ F a 2 = F b 2))))) (z, T, F, I, P, Y)) := by
  refine Ct.of [some (.ref a), some (.ref b)] kt_X11_areTwins rfl (Nat.le_of_ble_eq_true rfl) rfl (fun d hd => ?_)
  generalize hX : xN E _ _ _ = X
  refine xg_aloadn 1 dX11_areTwins_0 rfl rfl rfl ?_
  refine xg_getI 4 kf_RX11_132 dX11_areTwins_1 rfl (by assumption) ?_
  refine xg_aloadn 5 dX11_areTwins_4 rfl rfl rfl ?_
  refine xg_getI 8 kf_RX11_132 dX11_areTwins_5 rfl (by assumption) ?_
  refine xg_icne 26 11 dX11_areTwins_8 rfl rfl (by omega) (fun hb8 => ?_) (fun hb8 => ?_)
  · skip
    refine xg_iconst 27 dX11_areTwins_26 rfl ?_
    subst hX
    exact xg_zreturn dX11_areTwins_27 rfl (by first | exact bI_01 _ | omega) ⟨Nat.le_refl _, Nat.le_refl _⟩ ⟨congrArg (fun v => some (J v)) (by first | exact (bI_t (by omega)).symm | exact (bI_f (by omega)).symm), rfl⟩
  · skip
    refine xg_aloadn 12 dX11_areTwins_11 rfl rfl rfl ?_
    refine xg_getI 15 kf_RX11_137 dX11_areTwins_12 rfl (by assumption) ?_
    refine xg_aloadn 16 dX11_areTwins_15 rfl rfl rfl ?_
    refine xg_getI 19 kf_RX11_137 dX11_areTwins_16 rfl (by assumption) ?_
    refine xg_icne 26 22 dX11_areTwins_19 rfl rfl (by omega) (fun hb19 => ?_) (fun hb19 => ?_)
    · skip
      refine xg_iconst 27 dX11_areTwins_26 rfl ?_
      subst hX
      exact xg_zreturn dX11_areTwins_27 rfl (by first | exact bI_01 _ | omega) ⟨Nat.le_refl _, Nat.le_refl _⟩ ⟨congrArg (fun v => some (J v)) (by first | exact (bI_t (by omega)).symm | exact (bI_f (by omega)).symm), rfl⟩
    · skip
      refine xg_iconst 23 dX11_areTwins_22 rfl ?_
      refine xg_goto 27 dX11_areTwins_23 rfl ?_
      subst hX
      exact xg_zreturn dX11_areTwins_27 rfl (by first | exact bI_01 _ | omega) ⟨Nat.le_refl _, Nat.le_refl _⟩ ⟨congrArg (fun v => some (J v)) (by first | exact (bI_t (by omega)).symm | exact (bI_f (by omega)).symm), rfl⟩

set_option maxHeartbeats 4000000 in
set_option maxRecDepth 100000 in
theorem ct_X11_isNoTuning {E : xE} {z : Nat} {T : Nat → Nat × Int} {F : Nat → Nat → Int} {I : Nat → Int → Int} {P : Nat → Nat → Option Nat} {Y : Nat → Int → Option Nat} {k v : Int} (hk : -2147483648 ≤ k ∧ k < 2147483648) (hv : -2147483648 ≤ v ∧ v < 2147483648) : Ct E 0 mX11_isNoTuning 0 0 [J k, J v] (z, T, F, I, P, Y) (xd (some (J (bI (decide (zTu k v))))) (z, T, F, I, P, Y)) := by
  refine Ct.of [some (J k), some (J v)] kt_X11_isNoTuning rfl (Nat.le_of_ble_eq_true rfl) rfl (fun d hd => ?_)
  generalize hX : xN E _ _ _ = X
  refine xg_iloadn 1 dX11_isNoTuning_0 rfl rfl rfl ?_
  refine xg_ifne 20 4 dX11_isNoTuning_1 rfl rfl (by omega) (fun hb1 => ?_) (fun hb1 => ?_)
  · skip
    refine xg_iloadn 21 dX11_isNoTuning_20 rfl rfl rfl ?_
    refine xg_iconst 22 dX11_isNoTuning_21 rfl ?_
    refine xg_icne 44 25 dX11_isNoTuning_22 rfl rfl (by omega) (fun hb22 => ?_) (fun hb22 => ?_)
    · skip
      refine xg_iloadn 45 dX11_isNoTuning_44 rfl rfl rfl ?_
      refine xg_iflt 54 48 dX11_isNoTuning_45 rfl rfl (by omega) (fun hb45 => ?_) (fun hb45 => ?_)
      · skip
        refine xg_iconst 55 dX11_isNoTuning_54 rfl ?_
        refine xg_goto 59 dX11_isNoTuning_55 rfl ?_
        subst hX
        exact xg_zreturn dX11_isNoTuning_59 rfl (by first | exact bI_01 _ | omega) ⟨Nat.le_refl _, Nat.le_refl _⟩ ⟨congrArg (fun v => some (J v)) (by first | exact (bI_t (by omega)).symm | exact (bI_f (by omega)).symm), rfl⟩
      · skip
        refine xg_iloadn 49 dX11_isNoTuning_48 rfl rfl rfl ?_
        refine xg_bipush 51 dX11_isNoTuning_49 rfl (by decide) ?_
        refine xg_icle 58 54 dX11_isNoTuning_51 rfl rfl (by omega) (fun hb51 => ?_) (fun hb51 => ?_)
        · skip
          refine xg_iconst 59 dX11_isNoTuning_58 rfl ?_
          subst hX
          exact xg_zreturn dX11_isNoTuning_59 rfl (by first | exact bI_01 _ | omega) ⟨Nat.le_refl _, Nat.le_refl _⟩ ⟨congrArg (fun v => some (J v)) (by first | exact (bI_t (by omega)).symm | exact (bI_f (by omega)).symm), rfl⟩
        · skip
          refine xg_iconst 55 dX11_isNoTuning_54 rfl ?_
          refine xg_goto 59 dX11_isNoTuning_55 rfl ?_
          subst hX
          exact xg_zreturn dX11_isNoTuning_59 rfl (by first | exact bI_01 _ | omega) ⟨Nat.le_refl _, Nat.le_refl _⟩ ⟨congrArg (fun v => some (J v)) (by first | exact (bI_t (by omega)).symm | exact (bI_f (by omega)).symm), rfl⟩
    · skip
      refine xg_iloadn 26 dX11_isNoTuning_25 rfl rfl rfl ?_
      refine xg_iconst 27 dX11_isNoTuning_26 rfl ?_
      refine xg_iclt 36 30 dX11_isNoTuning_27 rfl rfl (by omega) (fun hb27 => ?_) (fun hb27 => ?_)
      · skip
        refine xg_iconst 37 dX11_isNoTuning_36 rfl ?_
        refine xg_goto 59 dX11_isNoTuning_37 rfl ?_
        subst hX
        exact xg_zreturn dX11_isNoTuning_59 rfl (by first | exact bI_01 _ | omega) ⟨Nat.le_refl _, Nat.le_refl _⟩ ⟨congrArg (fun v => some (J v)) (by first | exact (bI_t (by omega)).symm | exact (bI_f (by omega)).symm), rfl⟩
      · skip
        refine xg_iloadn 31 dX11_isNoTuning_30 rfl rfl rfl ?_
        refine xg_bipush 33 dX11_isNoTuning_31 rfl (by decide) ?_
        refine xg_icle 40 36 dX11_isNoTuning_33 rfl rfl (by omega) (fun hb33 => ?_) (fun hb33 => ?_)
        · skip
          refine xg_iconst 41 dX11_isNoTuning_40 rfl ?_
          refine xg_goto 59 dX11_isNoTuning_41 rfl ?_
          subst hX
          exact xg_zreturn dX11_isNoTuning_59 rfl (by first | exact bI_01 _ | omega) ⟨Nat.le_refl _, Nat.le_refl _⟩ ⟨congrArg (fun v => some (J v)) (by first | exact (bI_t (by omega)).symm | exact (bI_f (by omega)).symm), rfl⟩
        · skip
          refine xg_iconst 37 dX11_isNoTuning_36 rfl ?_
          refine xg_goto 59 dX11_isNoTuning_37 rfl ?_
          subst hX
          exact xg_zreturn dX11_isNoTuning_59 rfl (by first | exact bI_01 _ | omega) ⟨Nat.le_refl _, Nat.le_refl _⟩ ⟨congrArg (fun v => some (J v)) (by first | exact (bI_t (by omega)).symm | exact (bI_f (by omega)).symm), rfl⟩
  · skip
    refine xg_iloadn 5 dX11_isNoTuning_4 rfl rfl rfl ?_
    refine xg_iconst 6 dX11_isNoTuning_5 rfl ?_
    refine xg_iclt 14 9 dX11_isNoTuning_6 rfl rfl (by omega) (fun hb6 => ?_) (fun hb6 => ?_)
    · skip
      refine xg_iconst 15 dX11_isNoTuning_14 rfl ?_
      refine xg_goto 19 dX11_isNoTuning_15 rfl ?_
      subst hX
      exact xg_zreturn dX11_isNoTuning_19 rfl (by first | exact bI_01 _ | omega) ⟨Nat.le_refl _, Nat.le_refl _⟩ ⟨congrArg (fun v => some (J v)) (by first | exact (bI_t (by omega)).symm | exact (bI_f (by omega)).symm), rfl⟩
    · skip
      refine xg_iloadn 10 dX11_isNoTuning_9 rfl rfl rfl ?_
      refine xg_iconst 11 dX11_isNoTuning_10 rfl ?_
      refine xg_icle 18 14 dX11_isNoTuning_11 rfl rfl (by omega) (fun hb11 => ?_) (fun hb11 => ?_)
      · skip
        refine xg_iconst 19 dX11_isNoTuning_18 rfl ?_
        subst hX
        exact xg_zreturn dX11_isNoTuning_19 rfl (by first | exact bI_01 _ | omega) ⟨Nat.le_refl _, Nat.le_refl _⟩ ⟨congrArg (fun v => some (J v)) (by first | exact (bI_t (by omega)).symm | exact (bI_f (by omega)).symm), rfl⟩
      · skip
        refine xg_iconst 15 dX11_isNoTuning_14 rfl ?_
        refine xg_goto 19 dX11_isNoTuning_15 rfl ?_
        subst hX
        exact xg_zreturn dX11_isNoTuning_19 rfl (by first | exact bI_01 _ | omega) ⟨Nat.le_refl _, Nat.le_refl _⟩ ⟨congrArg (fun v => some (J v)) (by first | exact (bI_t (by omega)).symm | exact (bI_f (by omega)).symm), rfl⟩

