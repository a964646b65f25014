theorem dX8_hasRun_0 : decode cX8_hasRun 0 = .ok (.iload_n 1, 1) := by decide +kernel
theorem dX8_hasRun_1 : decode cX8_hasRun 1 = .ok (.ifCond .lt 21, 3) := by decide +kernel
theorem dX8_hasRun_4 : decode cX8_hasRun 4 = .ok (.iload_n 1, 1) := by decide +kernel
theorem dX8_hasRun_5 : decode cX8_hasRun 5 = .ok (.aload_n 0, 1) := by decide +kernel
theorem dX8_hasRun_6 : decode cX8_hasRun 6 = .ok (.getfield 70, 3) := by decide +kernel
theorem dX8_hasRun_9 : decode cX8_hasRun 9 = .ok (.if_icmp .ge 13, 3) := by decide +kernel
theorem dX8_hasRun_12 : decode cX8_hasRun 12 = .ok (.iload_n 1, 1) := by decide +kernel
theorem dX8_hasRun_13 : decode cX8_hasRun 13 = .ok (.bipush 12, 2) := by decide +kernel
theorem dX8_hasRun_15 : decode cX8_hasRun 15 = .ok (.if_icmp .ge 7, 3) := by decide +kernel
theorem dX8_hasRun_18 : decode cX8_hasRun 18 = .ok (.iconst 1, 1) := by decide +kernel
theorem dX8_hasRun_19 : decode cX8_hasRun 19 = .ok (.goto 4, 3) := by decide +kernel
theorem dX8_hasRun_22 : decode cX8_hasRun 22 = .ok (.iconst 0, 1) := by decide +kernel
theorem dX8_hasRun_23 : decode cX8_hasRun 23 = .ok (.ireturn, 1) := by decide +kernel
set_option maxHeartbeats 4000000 in
set_option maxRecDepth 100000 in
theorem ct_X8_hasRun {E : xE} {z : Nat} {T : Nat → Nat × Int} {F : Nat → Nat → Int} {I : Nat → Int → Int} {P : Nat → Nat → Option Nat} {Y : Nat → Int → Option Nat} {a : Nat} {k : Int} (hw : (T a).1 = 9) (h1 : 0 ≤ F a 1 ∧ F a 1 ≤ 12) (hk : -2147483648 ≤ k ∧ k < 2147483648) : Ct E 0 mX8_hasRun 0 0 [.ref a, J k] (z, T, F, I, P, Y) (xd (some (J (bI (decide (0 ≤ k ∧ k < F a 1))))) (z, T, F, I, P, Y)) := by
  refine Ct.of [some (.ref a), some (J k)] kt_X8_hasRun rfl (Nat.le_of_ble_eq_true rfl) rfl (fun d hd => ?_)
  generalize hX : xN E _ _ _ = X
  refine xg_iloadn 1 dX8_hasRun_0 rfl rfl rfl ?_
  refine xg_iflt 22 4 dX8_hasRun_1 rfl rfl (by omega) (fun hb1 => ?_) (fun hb1 => ?_)
  · skip
    refine xg_iconst 23 dX8_hasRun_22 rfl ?_
    subst hX
    exact xg_zreturn dX8_hasRun_23 rfl (by first | exact bI_01 _ | omega) ⟨Nat.le_refl _, Nat.le_refl _⟩ ⟨congrArg (fun v => some (J v)) (by first | exact (bI_t (by omega)).symm | exact (bI_f (by omega)).symm), rfl⟩
  · skip
    refine xg_iloadn 5 dX8_hasRun_4 rfl rfl rfl ?_
    refine xg_aloadn 6 dX8_hasRun_5 rfl rfl rfl ?_
    refine xg_getI 9 kf_RX8_70 dX8_hasRun_6 rfl (by assumption) ?_
    refine xg_icge 22 12 dX8_hasRun_9 rfl rfl (by omega) (fun hb9 => ?_) (fun hb9 => ?_)
    · skip
      refine xg_iconst 23 dX8_hasRun_22 rfl ?_
      subst hX
      exact xg_zreturn dX8_hasRun_23 rfl (by first | exact bI_01 _ | omega) ⟨Nat.le_refl _, Nat.le_refl _⟩ ⟨congrArg (fun v => some (J v)) (by first | exact (bI_t (by omega)).symm | exact (bI_f (by omega)).symm), rfl⟩
    · skip
      refine xg_iloadn 13 dX8_hasRun_12 rfl rfl rfl ?_
      refine xg_bipush 15 dX8_hasRun_13 rfl (by decide) ?_
      refine xg_icge 22 18 dX8_hasRun_15 rfl rfl (by omega) (fun hb15 => ?_) (fun hb15 => ?_)
      · first
        | (exfalso; omega)
        | skip
          refine xg_iconst 23 dX8_hasRun_22 rfl ?_
          subst hX
          exact xg_zreturn dX8_hasRun_23 rfl (by first | exact bI_01 _ | omega) ⟨Nat.le_refl _, Nat.le_refl _⟩ ⟨congrArg (fun v => some (J v)) (by first | exact (bI_t (by omega)).symm | exact (bI_f (by omega)).symm), rfl⟩
      · first
        | (exfalso; omega)
        | skip
          refine xg_iconst 19 dX8_hasRun_18 rfl ?_
          refine xg_goto 23 dX8_hasRun_19 rfl ?_
          subst hX
          exact xg_zreturn dX8_hasRun_23 rfl (by first | exact bI_01 _ | omega) ⟨Nat.le_refl _, Nat.le_refl _⟩ ⟨congrArg (fun v => some (J v)) (by first | exact (bI_t (by omega)).symm | exact (bI_f (by omega)).symm), rfl⟩

theorem dX8_hasRoom_0 : decode cX8_hasRoom 0 = .ok (.aload_n 0, 1) := by decide +kernel
theorem dX8_hasRoom_1 : decode cX8_hasRoom 1 = .ok (.getfield 70, 3) := by decide +kernel
theorem dX8_hasRoom_4 : decode cX8_hasRoom 4 = .ok (.bipush 12, 2) := by decide +kernel
theorem dX8_hasRoom_6 : decode cX8_hasRoom 6 = .ok (.if_icmp .ge 25, 3) := by decide +kernel
theorem dX8_hasRoom_9 : decode cX8_hasRoom 9 = .ok (.aload_n 0, 1) := by decide +kernel
theorem dX8_hasRoom_10 : decode cX8_hasRoom 10 = .ok (.getfield 35, 3) := by decide +kernel
theorem dX8_hasRoom_13 : decode cX8_hasRoom 13 = .ok (.getfield 140, 3) := by decide +kernel
theorem dX8_hasRoom_16 : decode cX8_hasRoom 16 = .ok (.iconst 0, 1) := by decide +kernel
theorem dX8_hasRoom_17 : decode cX8_hasRoom 17 = .ok (.iaload, 1) := by decide +kernel
theorem dX8_hasRoom_18 : decode cX8_hasRoom 18 = .ok (.aload_n 0, 1) := by decide +kernel
theorem dX8_hasRoom_19 : decode cX8_hasRoom 19 = .ok (.getfield 57, 3) := by decide +kernel
theorem dX8_hasRoom_22 : decode cX8_hasRoom 22 = .ok (.iconst 2, 1) := by decide +kernel
theorem dX8_hasRoom_23 : decode cX8_hasRoom 23 = .ok (.iadd, 1) := by decide +kernel
theorem dX8_hasRoom_24 : decode cX8_hasRoom 24 = .ok (.if_icmp .ge 7, 3) := by decide +kernel
theorem dX8_hasRoom_27 : decode cX8_hasRoom 27 = .ok (.iconst 1, 1) := by decide +kernel
theorem dX8_hasRoom_28 : decode cX8_hasRoom 28 = .ok (.goto 4, 3) := by decide +kernel
theorem dX8_hasRoom_31 : decode cX8_hasRoom 31 = .ok (.iconst 0, 1) := by decide +kernel
theorem dX8_hasRoom_32 : decode cX8_hasRoom 32 = .ok (.ireturn, 1) := by decide +kernel
set_option maxHeartbeats 4000000 in
set_option maxRecDepth 100000 in
theorem ct_X8_hasRoom {E : xE} {z : Nat} {T : Nat → Nat × Int} {F : Nat → Nat → Int} {I : Nat → Int → Int} {P : Nat → Nat → Option Nat} {Y : Nat → Int → Option Nat} {a l r : Nat} (hw : (T a).1 = 9) (hl : P a 5 = some l) (hl1 : (T l).1 = 6) (hr : P l 1 = some r) (hr1 : (T r).1 = 14) (hr2 : 0 < (T r).2) (hI : -2147483648 ≤ I r 0 ∧ I r 0 < 2147483648) (h10 : 0 ≤ F a 10 ∧ F a 10 ≤ 1000) (h1 : 0 ≤ F a 1 ∧ F a 1 ≤ 12) : Ct E 0 mX8_hasRoom 0 0 [.ref a] (z, T, F, I, P, Y) (xd (some (J (bI (decide (F a 1 < 12 ∧ I r 0 < F a 10 + 2))))) (z, T, F, I, P, Y)) := by
  refine Ct.of [some (.ref a)] kt_X8_hasRoom rfl (Nat.le_of_ble_eq_true rfl) rfl (fun d hd => ?_)
  generalize hX : xN E _ _ _ = X
  refine xg_aloadn 1 dX8_hasRoom_0 rfl rfl rfl ?_
  refine xg_getI 4 kf_RX8_70 dX8_hasRoom_1 rfl (by assumption) ?_
  refine xg_bipush 6 dX8_hasRoom_4 rfl (by decide) ?_
  refine xg_icge 31 9 dX8_hasRoom_6 rfl rfl (by omega) (fun hb6 => ?_) (fun hb6 => ?_)
  · skip
    refine xg_iconst 32 dX8_hasRoom_31 rfl ?_
    subst hX
    exact xg_zreturn dX8_hasRoom_32 rfl (by first | exact bI_01 _ | omega) ⟨Nat.le_refl _, Nat.le_refl _⟩ ⟨congrArg (fun v => some (J v)) (by first | exact (bI_t (by omega)).symm | exact (bI_f (by omega)).symm), rfl⟩
  · skip
    refine xg_aloadn 10 dX8_hasRoom_9 rfl rfl rfl ?_
    refine xg_getP 13 kf_RX8_35 dX8_hasRoom_10 rfl (by assumption) (by assumption) ?_
    refine xg_getP 16 kf_RX8_140 dX8_hasRoom_13 rfl (by assumption) (by assumption) ?_
    refine xg_iconst 17 dX8_hasRoom_16 rfl ?_
    refine xg_iald 18 dX8_hasRoom_17 rfl (by assumption) (by omega) ?_
    refine xg_aloadn 19 dX8_hasRoom_18 rfl rfl rfl ?_
    refine xg_getI 22 kf_RX8_57 dX8_hasRoom_19 rfl (by assumption) ?_
    refine xg_iconst 23 dX8_hasRoom_22 rfl ?_
    refine xg_iadd 24 dX8_hasRoom_23 rfl ?_
    refine xg_icge 31 27 dX8_hasRoom_24 rfl rfl (by omega) (fun hb24 => ?_) (fun hb24 => ?_)
    · skip
      refine xg_iconst 32 dX8_hasRoom_31 rfl ?_
      subst hX
      exact xg_zreturn dX8_hasRoom_32 rfl (by first | exact bI_01 _ | omega) ⟨Nat.le_refl _, Nat.le_refl _⟩ ⟨congrArg (fun v => some (J v)) (by first | exact (bI_t (by omega)).symm | exact (bI_f (by omega)).symm), rfl⟩
    · skip
      refine xg_iconst 28 dX8_hasRoom_27 rfl ?_
      refine xg_goto 32 dX8_hasRoom_28 rfl ?_
      subst hX
      exact xg_zreturn dX8_hasRoom_32 rfl (by first | exact bI_01 _ | omega) ⟨Nat.le_refl _, Nat.le_refl _⟩ ⟨congrArg (fun v => some (J v)) (by first | exact (bI_t (by omega)).symm | exact (bI_f (by omega)).symm), rfl⟩

theorem dX8_clearJob_0 : decode cX8_clearJob 0 = .ok (.aload_n 0, 1) := by decide +kernel
theorem dX8_clearJob_1 : decode cX8_clearJob 1 = .ok (.getfield 28, 3) := by decide +kernel
theorem dX8_clearJob_4 : decode cX8_clearJob 4 = .ok (.iconst 0, 1) := by decide +kernel
theorem dX8_clearJob_5 : decode cX8_clearJob 5 = .ok (.putfield 143, 3) := by decide +kernel
theorem dX8_clearJob_8 : decode cX8_clearJob 8 = .ok (.aload_n 0, 1) := by decide +kernel
theorem dX8_clearJob_9 : decode cX8_clearJob 9 = .ok (.getfield 28, 3) := by decide +kernel
theorem dX8_clearJob_12 : decode cX8_clearJob 12 = .ok (.iconst 0, 1) := by decide +kernel
theorem dX8_clearJob_13 : decode cX8_clearJob 13 = .ok (.putfield 133, 3) := by decide +kernel
theorem dX8_clearJob_16 : decode cX8_clearJob 16 = .ok (.aload_n 0, 1) := by decide +kernel
theorem dX8_clearJob_17 : decode cX8_clearJob 17 = .ok (.getfield 28, 3) := by decide +kernel
theorem dX8_clearJob_20 : decode cX8_clearJob 20 = .ok (.iconst 0, 1) := by decide +kernel
theorem dX8_clearJob_21 : decode cX8_clearJob 21 = .ok (.putfield 173, 3) := by decide +kernel
theorem dX8_clearJob_24 : decode cX8_clearJob 24 = .ok (.aload_n 0, 1) := by decide +kernel
theorem dX8_clearJob_25 : decode cX8_clearJob 25 = .ok (.getfield 28, 3) := by decide +kernel
theorem dX8_clearJob_28 : decode cX8_clearJob 28 = .ok (.iconst 0, 1) := by decide +kernel
theorem dX8_clearJob_29 : decode cX8_clearJob 29 = .ok (.putfield 123, 3) := by decide +kernel
theorem dX8_clearJob_32 : decode cX8_clearJob 32 = .ok (.return_, 1) := by decide +kernel
set_option maxHeartbeats 4000000 in
set_option maxRecDepth 100000 in
theorem ct_X8_clearJob {E : xE} {z : Nat} {T : Nat → Nat × Int} {F : Nat → Nat → Int} {I : Nat → Int → Int} {P : Nat → Nat → Option Nat} {Y : Nat → Int → Option Nat} {a j : Nat} (hw : (T a).1 = 9) (hj : P a 4 = some j) (hj1 : (T j).1 = 2) : Ct E 0 mX8_clearJob 0 0 [.ref a] (z, T, F, I, P, Y) (xd none (z, T, upF (upF (upF (upF F j 0 0) j 1 0) j 2 0) j 3 0, I, P, Y)) := by
  refine Ct.of [some (.ref a)] kt_X8_clearJob rfl (Nat.le_of_ble_eq_true rfl) rfl (fun d hd => ?_)
  generalize hX : xN E _ _ _ = X
  refine xg_aloadn 1 dX8_clearJob_0 rfl rfl rfl ?_
  refine xg_getP 4 kf_RX8_28 dX8_clearJob_1 rfl (by assumption) (by assumption) ?_
  refine xg_iconst 5 dX8_clearJob_4 rfl ?_
  refine xg_putZ 8 kf_RX8_143 dX8_clearJob_5 rfl (by assumption) (by omega) ?_
  refine xg_aloadn 9 dX8_clearJob_8 rfl rfl rfl ?_
  refine xg_getP 12 kf_RX8_28 dX8_clearJob_9 rfl (by assumption) (by assumption) ?_
  refine xg_iconst 13 dX8_clearJob_12 rfl ?_
  refine xg_putI 16 kf_RX8_133 dX8_clearJob_13 rfl (by assumption) ?_
  refine xg_aloadn 17 dX8_clearJob_16 rfl rfl rfl ?_
  refine xg_getP 20 kf_RX8_28 dX8_clearJob_17 rfl (by assumption) (by assumption) ?_
  refine xg_iconst 21 dX8_clearJob_20 rfl ?_
  refine xg_putI 24 kf_RX8_173 dX8_clearJob_21 rfl (by assumption) ?_
  refine xg_aloadn 25 dX8_clearJob_24 rfl rfl rfl ?_
  refine xg_getP 28 kf_RX8_28 dX8_clearJob_25 rfl (by assumption) (by assumption) ?_
  refine xg_iconst 29 dX8_clearJob_28 rfl ?_
  refine xg_putI 32 kf_RX8_123 dX8_clearJob_29 rfl (by assumption) ?_
  subst hX
  exact xg_return dX8_clearJob_32 rfl ⟨Nat.le_refl _, Nat.le_refl _⟩ ⟨rfl, rfl⟩

