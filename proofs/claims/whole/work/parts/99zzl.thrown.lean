/-! the class's throws -/
/-- the heap is as it was, but larger -/
def xTz (z : Nat) (T : Nat → Nat × Int) (F : Nat → Nat → Int) (I : Nat → Int → Int) (P : Nat → Nat → Option Nat) (Y : Nat → Int → Option Nat) : xH → Prop := fun h' => ∃ z' : Nat, z ≤ z' ∧ h' = (z', T, F, I, P, Y)
set_option maxHeartbeats 4000000 in
set_option maxRecDepth 100000 in
theorem cx_X11_run_1 {E : xE} {z : Nat} {T : Nat → Nat × Int} {F : Nat → Nat → Int} {I : Nat → Int → Int} {P : Nat → Nat → Option Nat} {Y : Nat → Int → Option Nat} {o a : Nat} {w : Int → Int} (h1 : (T o).1 = 12) (h3 : P o 3 = some a) (hS : SR T F I P Y a w) {v x : Int} (hv : -2147483648 ≤ v ∧ v < 2147483648) (hx : -2147483648 ≤ x ∧ x < 2147483648) (hb : ¬ (0 ≤ v ∧ v < w 0)) (hTh : xThr E "java/lang/IndexOutOfBoundsException") : CtX E 6 mX11_run 1 6 [.ref o, J v, J x] (z, T, F, I, P, Y) "java/lang/IndexOutOfBoundsException" (xTz z T F I P Y) := by
  have hO := hS.1.1
  have o0 := hO.2.1
  obtain ⟨hGd, hLw, ⟨π, ⟨hSt, hPm⟩, ⟨hSc, hTl, hJb⟩, hRun, hTab, hOut, hJo⟩, hLv, hLf⟩ := id hS
  obtain ⟨⟨st9, s0, s01, s02⟩, hRows, ⟨s4, s44⟩, ⟨s5, l9, ⟨l0, l1, l2, l3⟩, ⟨l01, l02⟩, ⟨l11, l12⟩, ⟨l21, l22⟩, l31, l32⟩, ⟨s6, s50⟩, ⟨s7, hJou⟩, -⟩ := id hSt
  have p5 : ∀ j : Nat, j < 14 → π j < 14 := hPm.2.2.2.1
  have hw0 : F a 1 = w 0 := hSc.1
  refine CtX.of [some (.ref o), some (J v), some (J x), none] kt_X11_run rfl (Nat.le_of_ble_eq_true rfl) rfl (fun d hd => ?_)
  generalize hX : xNX E _ _ _ _ = X
  refine xg_aloadn 1 dX11_run_0 rfl rfl rfl ?_
  refine xg_getP 4 kf_RX11_23 dX11_run_1 rfl h1 h3 ?_
  refine xg_iloadn 5 dX11_run_4 rfl rfl rfl ?_
  refine xg_callV 8 8 [_] _ kv_X8_hasRun ⟨_, _, rfl⟩ kl_RX11_121 dX11_run_5 rfl st9 (by omega) rfl rfl (Nat.le_of_ble_eq_true rfl) (by omega) ⟨by first | decide | omega, by first | decide | omega⟩ (ct_X8_hasRun st9 (by omega) (by omega)) rfl ?_
  rw [hw0]
  refine xg_dne 19 11 dX11_run_8 rfl rfl (fun hb8 => ?_) (fun hb8 => ?_)
  · exfalso; omega
  · skip
    subst hX
    exact xg_throw kt_X11_run hTh (by decide) kfit_IOB kn_RX11_125 kini_IOB at_IOB dX11_run_11 dX11_run_14 dX11_run_15 dX11_run_18 (by omega) ⟨by first | decide | omega, by first | decide | omega⟩ (fun z9 hz9 => ⟨z9, hz9, rfl⟩)

set_option maxHeartbeats 4000000 in
set_option maxRecDepth 100000 in
theorem cx_X11_run_2 {E : xE} {z : Nat} {T : Nat → Nat × Int} {F : Nat → Nat → Int} {I : Nat → Int → Int} {P : Nat → Nat → Option Nat} {Y : Nat → Int → Option Nat} {o a : Nat} {w : Int → Int} (h1 : (T o).1 = 12) (h3 : P o 3 = some a) (hS : SR T F I P Y a w) {r : Nat} {x : Int} (hx : -2147483648 ≤ x ∧ x < 2147483648) (hr : (r : Int) < w 0) (hb : ¬ (0 ≤ x ∧ x ≤ 4)) (hTh : xThr E "java/util/NoSuchElementException") : CtX E 6 mX11_run 1 6 [.ref o, J (r : Int), J x] (z, T, F, I, P, Y) "java/util/NoSuchElementException" (xTz z T F I P Y) := by
  have hO := hS.1.1
  have o0 := hO.2.1
  obtain ⟨hGd, hLw, ⟨π, ⟨hSt, hPm⟩, ⟨hSc, hTl, hJb⟩, hRun, hTab, hOut, hJo⟩, hLv, hLf⟩ := id hS
  obtain ⟨⟨st9, s0, s01, s02⟩, hRows, ⟨s4, s44⟩, ⟨s5, l9, ⟨l0, l1, l2, l3⟩, ⟨l01, l02⟩, ⟨l11, l12⟩, ⟨l21, l22⟩, l31, l32⟩, ⟨s6, s50⟩, ⟨s7, hJou⟩, -⟩ := id hSt
  have p5 : ∀ j : Nat, j < 14 → π j < 14 := hPm.2.2.2.1
  have hw0 : F a 1 = w 0 := hSc.1
  refine CtX.of [some (.ref o), some (J (r : Int)), some (J x), none] kt_X11_run rfl (Nat.le_of_ble_eq_true rfl) rfl (fun d hd => ?_)
  generalize hX : xNX E _ _ _ _ = X
  refine xg_aloadn 1 dX11_run_0 rfl rfl rfl ?_
  refine xg_getP 4 kf_RX11_23 dX11_run_1 rfl h1 h3 ?_
  refine xg_iloadn 5 dX11_run_4 rfl rfl rfl ?_
  refine xg_callV 8 8 [_] _ kv_X8_hasRun ⟨_, _, rfl⟩ kl_RX11_121 dX11_run_5 rfl st9 (by omega) rfl rfl (Nat.le_of_ble_eq_true rfl) (by omega) ⟨by first | decide | omega, by first | decide | omega⟩ (ct_X8_hasRun st9 (by omega) (by omega)) rfl ?_
  rw [hw0]
  refine xg_dne 19 11 dX11_run_8 rfl rfl (fun hb8 => ?_) (fun hb8 => ?_)
  · skip
    refine xg_aloadn 20 dX11_run_19 rfl rfl rfl ?_
    refine xg_getP 23 kf_RX11_23 dX11_run_20 rfl h1 h3 ?_
    refine xg_getP 26 kf_RX11_128 dX11_run_23 rfl st9 s0 ?_
    refine xg_iloadn 27 dX11_run_26 rfl rfl rfl ?_
    refine xg_rald 28 dX11_run_27 rfl s01 (by rw [s02]; omega) (hPm.1 r (by omega)) ?_
    refine xg_astoren 29 _ dX11_run_28 rfl rfl rfl (by decide) (Or.inr rfl) ?_
    refine xg_iloadn 30 dX11_run_29 rfl rfl rfl ?_
    rcases (show x = 0 ∨ x = 1 ∨ x = 2 ∨ x = 3 ∨ x = 4 ∨ (x < 0 ∨ 4 < x) by omega) with ht | ht | ht | ht | ht | ht
    · refine xg_tin (o := 34) 64 dX11_run_30 (by omega) ⟨by omega, by omega⟩ (by rw [show (x - 0).toNat = 0 by omega]; rfl) rfl ?_
      exfalso; omega
    · refine xg_tin (o := 39) 69 dX11_run_30 (by omega) ⟨by omega, by omega⟩ (by rw [show (x - 0).toNat = 1 by omega]; rfl) rfl ?_
      exfalso; omega
    · refine xg_tin (o := 44) 74 dX11_run_30 (by omega) ⟨by omega, by omega⟩ (by rw [show (x - 0).toNat = 2 by omega]; rfl) rfl ?_
      exfalso; omega
    · refine xg_tin (o := 49) 79 dX11_run_30 (by omega) ⟨by omega, by omega⟩ (by rw [show (x - 0).toNat = 3 by omega]; rfl) rfl ?_
      exfalso; omega
    · refine xg_tin (o := 62) 92 dX11_run_30 (by omega) ⟨by omega, by omega⟩ (by rw [show (x - 0).toNat = 4 by omega]; rfl) rfl ?_
      exfalso; omega
    · refine xg_tout 107 dX11_run_30 (by omega) ht rfl ?_
      subst hX
      exact xg_throw kt_X11_run hTh (by decide) kfit_NSE kn_RX11_155 kini_NSE at_NSE dX11_run_107 dX11_run_110 dX11_run_111 dX11_run_114 (by omega) ⟨by first | decide | omega, by first | decide | omega⟩ (fun z9 hz9 => ⟨z9, hz9, rfl⟩)
  · exfalso; omega

set_option maxHeartbeats 4000000 in
set_option maxRecDepth 100000 in
theorem cx_X11_entry_1 {E : xE} {z : Nat} {T : Nat → Nat × Int} {F : Nat → Nat → Int} {I : Nat → Int → Int} {P : Nat → Nat → Option Nat} {Y : Nat → Int → Option Nat} {o a : Nat} {w : Int → Int} (h1 : (T o).1 = 12) (h3 : P o 3 = some a) (hS : SR T F I P Y a w) {v k x : Int} (hv : -2147483648 ≤ v ∧ v < 2147483648) (hx : -2147483648 ≤ x ∧ x < 2147483648) (hb : v ≠ -1 ∧ v ≠ 99 ∧ ¬ (0 ≤ v ∧ v < w 0)) (hTh : xThr E "java/lang/IndexOutOfBoundsException") : CtX E 6 mX11_entry 1 6 [.ref o, J v, J k, J x] (z, T, F, I, P, Y) "java/lang/IndexOutOfBoundsException" (xTz z T F I P Y) := by
  have hO := hS.1.1
  have o0 := hO.2.1
  obtain ⟨hGd, hLw, ⟨π, ⟨hSt, hPm⟩, ⟨hSc, hTl, hJb⟩, hRun, hTab, hOut, hJo⟩, hLv, hLf⟩ := id hS
  obtain ⟨⟨st9, s0, s01, s02⟩, hRows, ⟨s4, s44⟩, ⟨s5, l9, ⟨l0, l1, l2, l3⟩, ⟨l01, l02⟩, ⟨l11, l12⟩, ⟨l21, l22⟩, l31, l32⟩, ⟨s6, s50⟩, ⟨s7, hJou⟩, -⟩ := id hSt
  have p5 : ∀ j : Nat, j < 14 → π j < 14 := hPm.2.2.2.1
  have hw0 : F a 1 = w 0 := hSc.1
  refine CtX.of [some (.ref o), some (J v), some (J k), some (J x), none, none] kt_X11_entry rfl (Nat.le_of_ble_eq_true rfl) rfl (fun d hd => ?_)
  generalize hX : xNX E _ _ _ _ = X
  refine xg_iloadn 1 dX11_entry_0 rfl rfl rfl ?_
  refine xg_iconst 2 dX11_entry_1 rfl ?_
  refine xg_iceq 30 5 dX11_entry_2 rfl rfl (by omega) (fun hb2 => ?_) (fun hb2 => ?_)
  · exfalso; omega
  · skip
    refine xg_iloadn 6 dX11_entry_5 rfl rfl rfl ?_
    refine xg_bipush 8 dX11_entry_6 rfl (by decide) ?_
    refine xg_iceq 30 11 dX11_entry_8 rfl rfl (by omega) (fun hb8 => ?_) (fun hb8 => ?_)
    · exfalso; omega
    · skip
      refine xg_aloadn 12 dX11_entry_11 rfl rfl rfl ?_
      refine xg_getP 15 kf_RX11_23 dX11_entry_12 rfl h1 h3 ?_
      refine xg_iloadn 16 dX11_entry_15 rfl rfl rfl ?_
      refine xg_callV 19 8 [_] _ kv_X8_hasRun ⟨_, _, rfl⟩ kl_RX11_121 dX11_entry_16 rfl st9 (by omega) rfl rfl (Nat.le_of_ble_eq_true rfl) (by omega) ⟨by first | decide | omega, by first | decide | omega⟩ (ct_X8_hasRun st9 (by omega) (by omega)) rfl ?_
      rw [hw0]
      refine xg_dne 30 22 dX11_entry_19 rfl rfl (fun hb19 => ?_) (fun hb19 => ?_)
      · exfalso; omega
      · skip
        subst hX
        exact xg_throw kt_X11_entry hTh (by decide) kfit_IOB kn_RX11_125 kini_IOB at_IOB dX11_entry_22 dX11_entry_25 dX11_entry_26 dX11_entry_29 (by omega) ⟨by first | decide | omega, by first | decide | omega⟩ (fun z9 hz9 => ⟨z9, hz9, rfl⟩)

set_option maxHeartbeats 4000000 in
set_option maxRecDepth 100000 in
theorem cx_X11_entry_2 {E : xE} {z : Nat} {T : Nat → Nat × Int} {F : Nat → Nat → Int} {I : Nat → Int → Int} {P : Nat → Nat → Option Nat} {Y : Nat → Int → Option Nat} {o a : Nat} {w : Int → Int} (h1 : (T o).1 = 12) (h3 : P o 3 = some a) (hS : SR T F I P Y a w) {v k x : Int} (hv : -2147483648 ≤ v ∧ v < 2147483648) (hx : -2147483648 ≤ x ∧ x < 2147483648) (hb : (v = -1 ∨ v = 99 ∨ (0 ≤ v ∧ v < w 0)) ∧ ¬ (0 ≤ x ∧ x ≤ 2)) (hTh : xThr E "java/util/NoSuchElementException") : CtX E 6 mX11_entry 1 6 [.ref o, J v, J k, J x] (z, T, F, I, P, Y) "java/util/NoSuchElementException" (xTz z T F I P Y) := by
  have hO := hS.1.1
  have o0 := hO.2.1
  obtain ⟨hGd, hLw, ⟨π, ⟨hSt, hPm⟩, ⟨hSc, hTl, hJb⟩, hRun, hTab, hOut, hJo⟩, hLv, hLf⟩ := id hS
  obtain ⟨⟨st9, s0, s01, s02⟩, hRows, ⟨s4, s44⟩, ⟨s5, l9, ⟨l0, l1, l2, l3⟩, ⟨l01, l02⟩, ⟨l11, l12⟩, ⟨l21, l22⟩, l31, l32⟩, ⟨s6, s50⟩, ⟨s7, hJou⟩, -⟩ := id hSt
  have p5 : ∀ j : Nat, j < 14 → π j < 14 := hPm.2.2.2.1
  have hw0 : F a 1 = w 0 := hSc.1
  refine CtX.of [some (.ref o), some (J v), some (J k), some (J x), none, none] kt_X11_entry rfl (Nat.le_of_ble_eq_true rfl) rfl (fun d hd => ?_)
  generalize hX : xNX E _ _ _ _ = X
  refine xg_iloadn 1 dX11_entry_0 rfl rfl rfl ?_
  refine xg_iconst 2 dX11_entry_1 rfl ?_
  refine xg_iceq 30 5 dX11_entry_2 rfl rfl (by omega) (fun hb2 => ?_) (fun hb2 => ?_)
  · skip
    refine xg_iloadn 31 dX11_entry_30 rfl rfl rfl ?_
    refine xg_iflt 39 34 dX11_entry_31 rfl rfl (by omega) (fun hb31 => ?_) (fun hb31 => ?_)
    · skip
      subst hX
      exact xg_throw kt_X11_entry hTh (by decide) kfit_NSE kn_RX11_155 kini_NSE at_NSE dX11_entry_39 dX11_entry_42 dX11_entry_43 dX11_entry_46 (by omega) ⟨by first | decide | omega, by first | decide | omega⟩ (fun z9 hz9 => ⟨z9, hz9, rfl⟩)
    · skip
      refine xg_iloadn 35 dX11_entry_34 rfl rfl rfl ?_
      refine xg_iconst 36 dX11_entry_35 rfl ?_
      refine xg_icle 47 39 dX11_entry_36 rfl rfl (by omega) (fun hb36 => ?_) (fun hb36 => ?_)
      · exfalso; omega
      · skip
        subst hX
        exact xg_throw kt_X11_entry hTh (by decide) kfit_NSE kn_RX11_155 kini_NSE at_NSE dX11_entry_39 dX11_entry_42 dX11_entry_43 dX11_entry_46 (by omega) ⟨by first | decide | omega, by first | decide | omega⟩ (fun z9 hz9 => ⟨z9, hz9, rfl⟩)
  · skip
    refine xg_iloadn 6 dX11_entry_5 rfl rfl rfl ?_
    refine xg_bipush 8 dX11_entry_6 rfl (by decide) ?_
    refine xg_iceq 30 11 dX11_entry_8 rfl rfl (by omega) (fun hb8 => ?_) (fun hb8 => ?_)
    · skip
      refine xg_iloadn 31 dX11_entry_30 rfl rfl rfl ?_
      refine xg_iflt 39 34 dX11_entry_31 rfl rfl (by omega) (fun hb31 => ?_) (fun hb31 => ?_)
      · skip
        subst hX
        exact xg_throw kt_X11_entry hTh (by decide) kfit_NSE kn_RX11_155 kini_NSE at_NSE dX11_entry_39 dX11_entry_42 dX11_entry_43 dX11_entry_46 (by omega) ⟨by first | decide | omega, by first | decide | omega⟩ (fun z9 hz9 => ⟨z9, hz9, rfl⟩)
      · skip
        refine xg_iloadn 35 dX11_entry_34 rfl rfl rfl ?_
        refine xg_iconst 36 dX11_entry_35 rfl ?_
        refine xg_icle 47 39 dX11_entry_36 rfl rfl (by omega) (fun hb36 => ?_) (fun hb36 => ?_)
        · exfalso; omega
        · skip
          subst hX
          exact xg_throw kt_X11_entry hTh (by decide) kfit_NSE kn_RX11_155 kini_NSE at_NSE dX11_entry_39 dX11_entry_42 dX11_entry_43 dX11_entry_46 (by omega) ⟨by first | decide | omega, by first | decide | omega⟩ (fun z9 hz9 => ⟨z9, hz9, rfl⟩)
    · skip
      refine xg_aloadn 12 dX11_entry_11 rfl rfl rfl ?_
      refine xg_getP 15 kf_RX11_23 dX11_entry_12 rfl h1 h3 ?_
      refine xg_iloadn 16 dX11_entry_15 rfl rfl rfl ?_
      refine xg_callV 19 8 [_] _ kv_X8_hasRun ⟨_, _, rfl⟩ kl_RX11_121 dX11_entry_16 rfl st9 (by omega) rfl rfl (Nat.le_of_ble_eq_true rfl) (by omega) ⟨by first | decide | omega, by first | decide | omega⟩ (ct_X8_hasRun st9 (by omega) (by omega)) rfl ?_
      rw [hw0]
      refine xg_dne 30 22 dX11_entry_19 rfl rfl (fun hb19 => ?_) (fun hb19 => ?_)
      · skip
        refine xg_iloadn 31 dX11_entry_30 rfl rfl rfl ?_
        refine xg_iflt 39 34 dX11_entry_31 rfl rfl (by omega) (fun hb31 => ?_) (fun hb31 => ?_)
        · skip
          subst hX
          exact xg_throw kt_X11_entry hTh (by decide) kfit_NSE kn_RX11_155 kini_NSE at_NSE dX11_entry_39 dX11_entry_42 dX11_entry_43 dX11_entry_46 (by omega) ⟨by first | decide | omega, by first | decide | omega⟩ (fun z9 hz9 => ⟨z9, hz9, rfl⟩)
        · skip
          refine xg_iloadn 35 dX11_entry_34 rfl rfl rfl ?_
          refine xg_iconst 36 dX11_entry_35 rfl ?_
          refine xg_icle 47 39 dX11_entry_36 rfl rfl (by omega) (fun hb36 => ?_) (fun hb36 => ?_)
          · exfalso; omega
          · skip
            subst hX
            exact xg_throw kt_X11_entry hTh (by decide) kfit_NSE kn_RX11_155 kini_NSE at_NSE dX11_entry_39 dX11_entry_42 dX11_entry_43 dX11_entry_46 (by omega) ⟨by first | decide | omega, by first | decide | omega⟩ (fun z9 hz9 => ⟨z9, hz9, rfl⟩)
      · exfalso; omega

set_option maxHeartbeats 4000000 in
set_option maxRecDepth 100000 in
theorem cx_X11_level_1 {E : xE} {z : Nat} {T : Nat → Nat × Int} {F : Nat → Nat → Int} {I : Nat → Int → Int} {P : Nat → Nat → Option Nat} {Y : Nat → Int → Option Nat} {o a : Nat} {w : Int → Int} (h1 : (T o).1 = 12) (h3 : P o 3 = some a) (hS : SR T F I P Y a w) {v x : Int} (hv : -2147483648 ≤ v ∧ v < 2147483648) (hx : -2147483648 ≤ x ∧ x < 2147483648) (hb : ¬ (0 ≤ v ∧ v < 4)) (hTh : xThr E "java/lang/IndexOutOfBoundsException") : CtX E 6 mX11_level 1 6 [.ref o, J v, J x] (z, T, F, I, P, Y) "java/lang/IndexOutOfBoundsException" (xTz z T F I P Y) := by
  skip
  refine CtX.of [some (.ref o), some (J v), some (J x)] kt_X11_level rfl (Nat.le_of_ble_eq_true rfl) rfl (fun d hd => ?_)
  generalize hX : xNX E _ _ _ _ = X
  refine xg_iloadn 1 dX11_level_0 rfl rfl rfl ?_
  refine xg_iflt 9 4 dX11_level_1 rfl rfl (by omega) (fun hb1 => ?_) (fun hb1 => ?_)
  · skip
    subst hX
    exact xg_throw kt_X11_level hTh (by decide) kfit_IOB kn_RX11_125 kini_IOB at_IOB dX11_level_9 dX11_level_12 dX11_level_13 dX11_level_16 (by omega) ⟨by first | decide | omega, by first | decide | omega⟩ (fun z9 hz9 => ⟨z9, hz9, rfl⟩)
  · skip
    refine xg_iloadn 5 dX11_level_4 rfl rfl rfl ?_
    refine xg_iconst 6 dX11_level_5 rfl ?_
    refine xg_iclt 17 9 dX11_level_6 rfl rfl (by omega) (fun hb6 => ?_) (fun hb6 => ?_)
    · exfalso; omega
    · skip
      subst hX
      exact xg_throw kt_X11_level hTh (by decide) kfit_IOB kn_RX11_125 kini_IOB at_IOB dX11_level_9 dX11_level_12 dX11_level_13 dX11_level_16 (by omega) ⟨by first | decide | omega, by first | decide | omega⟩ (fun z9 hz9 => ⟨z9, hz9, rfl⟩)

set_option maxHeartbeats 4000000 in
set_option maxRecDepth 100000 in
theorem cx_X11_level_2 {E : xE} {z : Nat} {T : Nat → Nat × Int} {F : Nat → Nat → Int} {I : Nat → Int → Int} {P : Nat → Nat → Option Nat} {Y : Nat → Int → Option Nat} {o a : Nat} {w : Int → Int} (h1 : (T o).1 = 12) (h3 : P o 3 = some a) (hS : SR T F I P Y a w) {v x : Int} (hv : -2147483648 ≤ v ∧ v < 2147483648) (hx : -2147483648 ≤ x ∧ x < 2147483648) (hb : (0 ≤ v ∧ v < 4) ∧ ¬ (0 ≤ x ∧ x ≤ 3)) (hTh : xThr E "java/util/NoSuchElementException") : CtX E 6 mX11_level 1 6 [.ref o, J v, J x] (z, T, F, I, P, Y) "java/util/NoSuchElementException" (xTz z T F I P Y) := by
  skip
  refine CtX.of [some (.ref o), some (J v), some (J x)] kt_X11_level rfl (Nat.le_of_ble_eq_true rfl) rfl (fun d hd => ?_)
  generalize hX : xNX E _ _ _ _ = X
  refine xg_iloadn 1 dX11_level_0 rfl rfl rfl ?_
  refine xg_iflt 9 4 dX11_level_1 rfl rfl (by omega) (fun hb1 => ?_) (fun hb1 => ?_)
  · exfalso; omega
  · skip
    refine xg_iloadn 5 dX11_level_4 rfl rfl rfl ?_
    refine xg_iconst 6 dX11_level_5 rfl ?_
    refine xg_iclt 17 9 dX11_level_6 rfl rfl (by omega) (fun hb6 => ?_) (fun hb6 => ?_)
    · skip
      refine xg_iloadn 18 dX11_level_17 rfl rfl rfl ?_
      rcases (show x = 0 ∨ x = 1 ∨ x = 2 ∨ x = 3 ∨ (x < 0 ∨ 3 < x) by omega) with ht | ht | ht | ht | ht
      · refine xg_tin (o := 30) 48 dX11_level_18 (by omega) ⟨by omega, by omega⟩ (by rw [show (x - 0).toNat = 0 by omega]; rfl) rfl ?_
        exfalso; omega
      · refine xg_tin (o := 43) 61 dX11_level_18 (by omega) ⟨by omega, by omega⟩ (by rw [show (x - 0).toNat = 1 by omega]; rfl) rfl ?_
        exfalso; omega
      · refine xg_tin (o := 56) 74 dX11_level_18 (by omega) ⟨by omega, by omega⟩ (by rw [show (x - 0).toNat = 2 by omega]; rfl) rfl ?_
        exfalso; omega
      · refine xg_tin (o := 71) 89 dX11_level_18 (by omega) ⟨by omega, by omega⟩ (by rw [show (x - 0).toNat = 3 by omega]; rfl) rfl ?_
        exfalso; omega
      · refine xg_tout 98 dX11_level_18 (by omega) ht rfl ?_
        subst hX
        exact xg_throw kt_X11_level hTh (by decide) kfit_NSE kn_RX11_155 kini_NSE at_NSE dX11_level_98 dX11_level_101 dX11_level_102 dX11_level_105 (by omega) ⟨by first | decide | omega, by first | decide | omega⟩ (fun z9 hz9 => ⟨z9, hz9, rfl⟩)
    · exfalso; omega

set_option maxHeartbeats 4000000 in
set_option maxRecDepth 100000 in
theorem cx_X11_job_1 {E : xE} {z : Nat} {T : Nat → Nat × Int} {F : Nat → Nat → Int} {I : Nat → Int → Int} {P : Nat → Nat → Option Nat} {Y : Nat → Int → Option Nat} {o a : Nat} {w : Int → Int} (h1 : (T o).1 = 12) (h3 : P o 3 = some a) (hS : SR T F I P Y a w) {v : Int} (hv : -2147483648 ≤ v ∧ v < 2147483648) (hb : ¬ (0 ≤ v ∧ v ≤ 4)) (hTh : xThr E "java/util/NoSuchElementException") : CtX E 6 mX11_job 1 6 [.ref o, J v] (z, T, F, I, P, Y) "java/util/NoSuchElementException" (xTz z T F I P Y) := by
  skip
  refine CtX.of [some (.ref o), some (J v)] kt_X11_job rfl (Nat.le_of_ble_eq_true rfl) rfl (fun d hd => ?_)
  generalize hX : xNX E _ _ _ _ = X
  refine xg_iloadn 1 dX11_job_0 rfl rfl rfl ?_
  refine xg_iflt 9 4 dX11_job_1 rfl rfl (by omega) (fun hb1 => ?_) (fun hb1 => ?_)
  · skip
    subst hX
    exact xg_throw kt_X11_job hTh (by decide) kfit_NSE kn_RX11_155 kini_NSE at_NSE dX11_job_9 dX11_job_12 dX11_job_13 dX11_job_16 (by omega) ⟨by first | decide | omega, by first | decide | omega⟩ (fun z9 hz9 => ⟨z9, hz9, rfl⟩)
  · skip
    refine xg_iloadn 5 dX11_job_4 rfl rfl rfl ?_
    refine xg_iconst 6 dX11_job_5 rfl ?_
    refine xg_icle 17 9 dX11_job_6 rfl rfl (by omega) (fun hb6 => ?_) (fun hb6 => ?_)
    · exfalso; omega
    · skip
      subst hX
      exact xg_throw kt_X11_job hTh (by decide) kfit_NSE kn_RX11_155 kini_NSE at_NSE dX11_job_9 dX11_job_12 dX11_job_13 dX11_job_16 (by omega) ⟨by first | decide | omega, by first | decide | omega⟩ (fun z9 hz9 => ⟨z9, hz9, rfl⟩)

set_option maxHeartbeats 4000000 in
set_option maxRecDepth 100000 in
theorem cx_X11_ticks_1 {E : xE} {z : Nat} {T : Nat → Nat × Int} {F : Nat → Nat → Int} {I : Nat → Int → Int} {P : Nat → Nat → Option Nat} {Y : Nat → Int → Option Nat} {o a : Nat} {w : Int → Int} (h1 : (T o).1 = 12) (h3 : P o 3 = some a) (hS : SR T F I P Y a w) {v : Int} (hv : -2147483648 ≤ v ∧ v < 2147483648) (hb : ¬ (1 ≤ v ∧ v ≤ 60)) (hTh : xThr E "java/lang/IllegalArgumentException") : CtX E 6 mX11_ticks 1 6 [.ref o, J v] (z, T, F, I, P, Y) "java/lang/IllegalArgumentException" (xTz z T F I P Y) := by
  skip
  refine CtX.of [some (.ref o), some (J v)] kt_X11_ticks rfl (Nat.le_of_ble_eq_true rfl) rfl (fun d hd => ?_)
  generalize hX : xNX E _ _ _ _ = X
  refine xg_iloadn 1 dX11_ticks_0 rfl rfl rfl ?_
  refine xg_iconst 2 dX11_ticks_1 rfl ?_
  refine xg_iclt 11 5 dX11_ticks_2 rfl rfl (by omega) (fun hb2 => ?_) (fun hb2 => ?_)
  · skip
    subst hX
    exact xg_throw kt_X11_ticks hTh (by decide) kfit_IAE kn_RX11_92 kini_IAE at_IAE dX11_ticks_11 dX11_ticks_14 dX11_ticks_15 dX11_ticks_18 (by omega) ⟨by first | decide | omega, by first | decide | omega⟩ (fun z9 hz9 => ⟨z9, hz9, rfl⟩)
  · skip
    refine xg_iloadn 6 dX11_ticks_5 rfl rfl rfl ?_
    refine xg_bipush 8 dX11_ticks_6 rfl (by decide) ?_
    refine xg_icle 19 11 dX11_ticks_8 rfl rfl (by omega) (fun hb8 => ?_) (fun hb8 => ?_)
    · exfalso; omega
    · skip
      subst hX
      exact xg_throw kt_X11_ticks hTh (by decide) kfit_IAE kn_RX11_92 kini_IAE at_IAE dX11_ticks_11 dX11_ticks_14 dX11_ticks_15 dX11_ticks_18 (by omega) ⟨by first | decide | omega, by first | decide | omega⟩ (fun z9 hz9 => ⟨z9, hz9, rfl⟩)

set_option maxHeartbeats 4000000 in
set_option maxRecDepth 100000 in
theorem cx_X11_odds_1 {E : xE} {z : Nat} {T : Nat → Nat × Int} {F : Nat → Nat → Int} {I : Nat → Int → Int} {P : Nat → Nat → Option Nat} {Y : Nat → Int → Option Nat} {o a : Nat} {w : Int → Int} (h1 : (T o).1 = 12) (h3 : P o 3 = some a) (hS : SR T F I P Y a w) {v : Int} (hv : -2147483648 ≤ v ∧ v < 2147483648) (hb : ¬ (0 ≤ v ∧ v ≤ 5)) (hTh : xThr E "java/lang/IllegalArgumentException") : CtX E 6 mX11_odds 1 6 [.ref o, J v] (z, T, F, I, P, Y) "java/lang/IllegalArgumentException" (xTz z T F I P Y) := by
  skip
  refine CtX.of [some (.ref o), some (J v), none, none, none, none, none, none] kt_X11_odds rfl (Nat.le_of_ble_eq_true rfl) rfl (fun d hd => ?_)
  generalize hX : xNX E _ _ _ _ = X
  refine xg_iloadn 1 dX11_odds_0 rfl rfl rfl ?_
  refine xg_iflt 9 4 dX11_odds_1 rfl rfl (by omega) (fun hb1 => ?_) (fun hb1 => ?_)
  · skip
    subst hX
    exact xg_throw kt_X11_odds hTh (by decide) kfit_IAE kn_RX11_92 kini_IAE at_IAE dX11_odds_9 dX11_odds_12 dX11_odds_13 dX11_odds_16 (by omega) ⟨by first | decide | omega, by first | decide | omega⟩ (fun z9 hz9 => ⟨z9, hz9, rfl⟩)
  · skip
    refine xg_iloadn 5 dX11_odds_4 rfl rfl rfl ?_
    refine xg_iconst 6 dX11_odds_5 rfl ?_
    refine xg_icle 17 9 dX11_odds_6 rfl rfl (by omega) (fun hb6 => ?_) (fun hb6 => ?_)
    · exfalso; omega
    · skip
      subst hX
      exact xg_throw kt_X11_odds hTh (by decide) kfit_IAE kn_RX11_92 kini_IAE at_IAE dX11_odds_9 dX11_odds_12 dX11_odds_13 dX11_odds_16 (by omega) ⟨by first | decide | omega, by first | decide | omega⟩ (fun z9 hz9 => ⟨z9, hz9, rfl⟩)

set_option maxHeartbeats 4000000 in
set_option maxRecDepth 100000 in
theorem cx_X11_most_1 {E : xE} {z : Nat} {T : Nat → Nat × Int} {F : Nat → Nat → Int} {I : Nat → Int → Int} {P : Nat → Nat → Option Nat} {Y : Nat → Int → Option Nat} {o a : Nat} {w : Int → Int} (h1 : (T o).1 = 12) (h3 : P o 3 = some a) (hS : SR T F I P Y a w) {v : Int} (hv : -2147483648 ≤ v ∧ v < 2147483648) (hb : ¬ (0 ≤ v ∧ v ≤ 1)) (hTh : xThr E "java/util/NoSuchElementException") : CtX E 6 mX11_most 1 6 [.ref o, J v] (z, T, F, I, P, Y) "java/util/NoSuchElementException" (xTz z T F I P Y) := by
  skip
  refine CtX.of [some (.ref o), some (J v), none, none, none, none] kt_X11_most rfl (Nat.le_of_ble_eq_true rfl) rfl (fun d hd => ?_)
  generalize hX : xNX E _ _ _ _ = X
  refine xg_iloadn 1 dX11_most_0 rfl rfl rfl ?_
  refine xg_iflt 9 4 dX11_most_1 rfl rfl (by omega) (fun hb1 => ?_) (fun hb1 => ?_)
  · skip
    subst hX
    exact xg_throw kt_X11_most hTh (by decide) kfit_NSE kn_RX11_155 kini_NSE at_NSE dX11_most_9 dX11_most_12 dX11_most_13 dX11_most_16 (by omega) ⟨by first | decide | omega, by first | decide | omega⟩ (fun z9 hz9 => ⟨z9, hz9, rfl⟩)
  · skip
    refine xg_iloadn 5 dX11_most_4 rfl rfl rfl ?_
    refine xg_iconst 6 dX11_most_5 rfl ?_
    refine xg_icle 17 9 dX11_most_6 rfl rfl (by omega) (fun hb6 => ?_) (fun hb6 => ?_)
    · exfalso; omega
    · skip
      subst hX
      exact xg_throw kt_X11_most hTh (by decide) kfit_NSE kn_RX11_155 kini_NSE at_NSE dX11_most_9 dX11_most_12 dX11_most_13 dX11_most_16 (by omega) ⟨by first | decide | omega, by first | decide | omega⟩ (fun z9 hz9 => ⟨z9, hz9, rfl⟩)

set_option maxHeartbeats 4000000 in
set_option maxRecDepth 100000 in
theorem cx_X11_led_1 {E : xE} {z : Nat} {T : Nat → Nat × Int} {F : Nat → Nat → Int} {I : Nat → Int → Int} {P : Nat → Nat → Option Nat} {Y : Nat → Int → Option Nat} {o a : Nat} {w : Int → Int} (h1 : (T o).1 = 12) (h3 : P o 3 = some a) (hS : SR T F I P Y a w) {b : Bool} {v : Int} (hv : -2147483648 ≤ v ∧ v < 2147483648) (hb : ¬ (0 ≤ v ∧ v ≤ 3)) (hTh : xThr E "java/util/NoSuchElementException") : CtX E 6 mX11_led 1 6 [.ref o, J v, J (bI b)] (z, T, F, I, P, Y) "java/util/NoSuchElementException" (xTz z T F I P Y) := by
  skip
  refine CtX.of [some (.ref o), some (J v), some (J (bI b))] kt_X11_led rfl (Nat.le_of_ble_eq_true rfl) rfl (fun d hd => ?_)
  generalize hX : xNX E _ _ _ _ = X
  refine xg_iloadn 1 dX11_led_0 rfl rfl rfl ?_
  refine xg_iflt 9 4 dX11_led_1 rfl rfl (by omega) (fun hb1 => ?_) (fun hb1 => ?_)
  · skip
    subst hX
    exact xg_throw kt_X11_led hTh (by decide) kfit_NSE kn_RX11_155 kini_NSE at_NSE dX11_led_9 dX11_led_12 dX11_led_13 dX11_led_16 (by omega) ⟨by first | decide | omega, by first | decide | omega⟩ (fun z9 hz9 => ⟨z9, hz9, rfl⟩)
  · skip
    refine xg_iloadn 5 dX11_led_4 rfl rfl rfl ?_
    refine xg_iconst 6 dX11_led_5 rfl ?_
    refine xg_icle 17 9 dX11_led_6 rfl rfl (by omega) (fun hb6 => ?_) (fun hb6 => ?_)
    · exfalso; omega
    · skip
      subst hX
      exact xg_throw kt_X11_led hTh (by decide) kfit_NSE kn_RX11_155 kini_NSE at_NSE dX11_led_9 dX11_led_12 dX11_led_13 dX11_led_16 (by omega) ⟨by first | decide | omega, by first | decide | omega⟩ (fun z9 hz9 => ⟨z9, hz9, rfl⟩)

set_option maxHeartbeats 4000000 in
set_option maxRecDepth 100000 in
theorem cx_X11_log_1 {E : xE} {z : Nat} {T : Nat → Nat × Int} {F : Nat → Nat → Int} {I : Nat → Int → Int} {P : Nat → Nat → Option Nat} {Y : Nat → Int → Option Nat} {o a : Nat} {w : Int → Int} (h1 : (T o).1 = 12) (h3 : P o 3 = some a) (hS : SR T F I P Y a w) {v x : Int} (hv : -2147483648 ≤ v ∧ v < 2147483648) (hx : -2147483648 ≤ x ∧ x < 2147483648) (hb : ¬ (0 ≤ x ∧ x ≤ 3)) (hTh : xThr E "java/util/NoSuchElementException") : CtX E 6 mX11_log 1 6 [.ref o, J v, J x] (z, T, F, I, P, Y) "java/util/NoSuchElementException" (xTz z T F I P Y) := by
  skip
  refine CtX.of [some (.ref o), some (J v), some (J x)] kt_X11_log rfl (Nat.le_of_ble_eq_true rfl) rfl (fun d hd => ?_)
  generalize hX : xNX E _ _ _ _ = X
  refine xg_iloadn 1 dX11_log_0 rfl rfl rfl ?_
  refine xg_iflt 9 4 dX11_log_1 rfl rfl (by omega) (fun hb1 => ?_) (fun hb1 => ?_)
  · skip
    subst hX
    exact xg_throw kt_X11_log hTh (by decide) kfit_NSE kn_RX11_155 kini_NSE at_NSE dX11_log_9 dX11_log_12 dX11_log_13 dX11_log_16 (by omega) ⟨by first | decide | omega, by first | decide | omega⟩ (fun z9 hz9 => ⟨z9, hz9, rfl⟩)
  · skip
    refine xg_iloadn 5 dX11_log_4 rfl rfl rfl ?_
    refine xg_iconst 6 dX11_log_5 rfl ?_
    refine xg_icle 17 9 dX11_log_6 rfl rfl (by omega) (fun hb6 => ?_) (fun hb6 => ?_)
    · exfalso; omega
    · skip
      subst hX
      exact xg_throw kt_X11_log hTh (by decide) kfit_NSE kn_RX11_155 kini_NSE at_NSE dX11_log_9 dX11_log_12 dX11_log_13 dX11_log_16 (by omega) ⟨by first | decide | omega, by first | decide | omega⟩ (fun z9 hz9 => ⟨z9, hz9, rfl⟩)

set_option maxHeartbeats 4000000 in
set_option maxRecDepth 100000 in
theorem cx_X11_get_1 {E : xE} {z : Nat} {T : Nat → Nat × Int} {F : Nat → Nat → Int} {I : Nat → Int → Int} {P : Nat → Nat → Option Nat} {Y : Nat → Int → Option Nat} {o a : Nat} {w : Int → Int} (h1 : (T o).1 = 12) (h3 : P o 3 = some a) (hS : SR T F I P Y a w) {v : Int} (hv : -2147483648 ≤ v ∧ v < 2147483648) (hb : ¬ (0 ≤ v ∧ v < 60)) (hTh : xThr E "java/lang/IndexOutOfBoundsException") : CtX E 6 mX11_get 1 6 [.ref o, J v] (z, T, F, I, P, Y) "java/lang/IndexOutOfBoundsException" (xTz z T F I P Y) := by
  skip
  refine CtX.of [some (.ref o), some (J v)] kt_X11_get rfl (Nat.le_of_ble_eq_true rfl) rfl (fun d hd => ?_)
  generalize hX : xNX E _ _ _ _ = X
  refine xg_iloadn 1 dX11_get_0 rfl rfl rfl ?_
  refine xg_callS 4 [_] _ ks_X11_isNoKey kl_RX11_225 dX11_get_1 rfl rfl rfl (Nat.le_of_ble_eq_true rfl) (by omega) ⟨by first | decide | omega, by first | decide | omega⟩ (ct_X11_isNoKey (by omega)) rfl ?_
  refine xg_deq 15 7 dX11_get_4 rfl rfl (fun hb4 => ?_) (fun hb4 => ?_)
  · exfalso; omega
  · skip
    subst hX
    exact xg_throw kt_X11_get hTh (by decide) kfit_IOB kn_RX11_125 kini_IOB at_IOB dX11_get_7 dX11_get_10 dX11_get_11 dX11_get_14 (by omega) ⟨by first | decide | omega, by first | decide | omega⟩ (fun z9 hz9 => ⟨z9, hz9, rfl⟩)

set_option maxHeartbeats 4000000 in
set_option maxRecDepth 100000 in
theorem cx_X11_looks_1 {E : xE} {z : Nat} {T : Nat → Nat × Int} {F : Nat → Nat → Int} {I : Nat → Int → Int} {P : Nat → Nat → Option Nat} {Y : Nat → Int → Option Nat} {o a : Nat} {w : Int → Int} (h1 : (T o).1 = 12) (h3 : P o 3 = some a) (hS : SR T F I P Y a w) {v : Int} (hv : -2147483648 ≤ v ∧ v < 2147483648) (hb : ¬ (0 ≤ v ∧ v < 60)) (hTh : xThr E "java/lang/IndexOutOfBoundsException") : CtX E 6 mX11_looks 1 6 [.ref o, J v] (z, T, F, I, P, Y) "java/lang/IndexOutOfBoundsException" (xTz z T F I P Y) := by
  skip
  refine CtX.of [some (.ref o), some (J v)] kt_X11_looks rfl (Nat.le_of_ble_eq_true rfl) rfl (fun d hd => ?_)
  generalize hX : xNX E _ _ _ _ = X
  refine xg_iloadn 1 dX11_looks_0 rfl rfl rfl ?_
  refine xg_callS 4 [_] _ ks_X11_isNoKey kl_RX11_225 dX11_looks_1 rfl rfl rfl (Nat.le_of_ble_eq_true rfl) (by omega) ⟨by first | decide | omega, by first | decide | omega⟩ (ct_X11_isNoKey (by omega)) rfl ?_
  refine xg_deq 15 7 dX11_looks_4 rfl rfl (fun hb4 => ?_) (fun hb4 => ?_)
  · exfalso; omega
  · skip
    subst hX
    exact xg_throw kt_X11_looks hTh (by decide) kfit_IOB kn_RX11_125 kini_IOB at_IOB dX11_looks_7 dX11_looks_10 dX11_looks_11 dX11_looks_14 (by omega) ⟨by first | decide | omega, by first | decide | omega⟩ (fun z9 hz9 => ⟨z9, hz9, rfl⟩)

set_option maxHeartbeats 4000000 in
set_option maxRecDepth 100000 in
theorem cx_X11_remove_1 {E : xE} {z : Nat} {T : Nat → Nat × Int} {F : Nat → Nat → Int} {I : Nat → Int → Int} {P : Nat → Nat → Option Nat} {Y : Nat → Int → Option Nat} {o a : Nat} {w : Int → Int} (h1 : (T o).1 = 12) (h3 : P o 3 = some a) (hS : SR T F I P Y a w) {v : Int} (hv : -2147483648 ≤ v ∧ v < 2147483648) (hb : ¬ (0 ≤ v ∧ v < 60)) (hTh : xThr E "java/lang/IndexOutOfBoundsException") : CtX E 6 mX11_remove 1 6 [.ref o, J v] (z, T, F, I, P, Y) "java/lang/IndexOutOfBoundsException" (xTz z T F I P Y) := by
  skip
  refine CtX.of [some (.ref o), some (J v)] kt_X11_remove rfl (Nat.le_of_ble_eq_true rfl) rfl (fun d hd => ?_)
  generalize hX : xNX E _ _ _ _ = X
  refine xg_iloadn 1 dX11_remove_0 rfl rfl rfl ?_
  refine xg_callS 4 [_] _ ks_X11_isNoKey kl_RX11_225 dX11_remove_1 rfl rfl rfl (Nat.le_of_ble_eq_true rfl) (by omega) ⟨by first | decide | omega, by first | decide | omega⟩ (ct_X11_isNoKey (by omega)) rfl ?_
  refine xg_deq 15 7 dX11_remove_4 rfl rfl (fun hb4 => ?_) (fun hb4 => ?_)
  · exfalso; omega
  · skip
    subst hX
    exact xg_throw kt_X11_remove hTh (by decide) kfit_IOB kn_RX11_125 kini_IOB at_IOB dX11_remove_7 dX11_remove_10 dX11_remove_11 dX11_remove_14 (by omega) ⟨by first | decide | omega, by first | decide | omega⟩ (fun z9 hz9 => ⟨z9, hz9, rfl⟩)

set_option maxHeartbeats 4000000 in
set_option maxRecDepth 100000 in
theorem cx_X11_put_1 {E : xE} {z : Nat} {T : Nat → Nat × Int} {F : Nat → Nat → Int} {I : Nat → Int → Int} {P : Nat → Nat → Option Nat} {Y : Nat → Int → Option Nat} {o a : Nat} {w : Int → Int} (h1 : (T o).1 = 12) (h3 : P o 3 = some a) (hS : SR T F I P Y a w) {v x : Int} (hv : -2147483648 ≤ v ∧ v < 2147483648) (hx : -2147483648 ≤ x ∧ x < 2147483648) (hb : ¬ (0 ≤ v ∧ v < 60)) (hTh : xThr E "java/lang/IndexOutOfBoundsException") : CtX E 6 mX11_put 1 6 [.ref o, J v, J x] (z, T, F, I, P, Y) "java/lang/IndexOutOfBoundsException" (xTz z T F I P Y) := by
  skip
  refine CtX.of [some (.ref o), some (J v), some (J x)] kt_X11_put rfl (Nat.le_of_ble_eq_true rfl) rfl (fun d hd => ?_)
  generalize hX : xNX E _ _ _ _ = X
  refine xg_iloadn 1 dX11_put_0 rfl rfl rfl ?_
  refine xg_callS 4 [_] _ ks_X11_isNoKey kl_RX11_225 dX11_put_1 rfl rfl rfl (Nat.le_of_ble_eq_true rfl) (by omega) ⟨by first | decide | omega, by first | decide | omega⟩ (ct_X11_isNoKey (by omega)) rfl ?_
  refine xg_deq 15 7 dX11_put_4 rfl rfl (fun hb4 => ?_) (fun hb4 => ?_)
  · exfalso; omega
  · skip
    subst hX
    exact xg_throw kt_X11_put hTh (by decide) kfit_IOB kn_RX11_125 kini_IOB at_IOB dX11_put_7 dX11_put_10 dX11_put_11 dX11_put_14 (by omega) ⟨by first | decide | omega, by first | decide | omega⟩ (fun z9 hz9 => ⟨z9, hz9, rfl⟩)

set_option maxHeartbeats 4000000 in
set_option maxRecDepth 100000 in
theorem cx_X11_put_2 {E : xE} {z : Nat} {T : Nat → Nat × Int} {F : Nat → Nat → Int} {I : Nat → Int → Int} {P : Nat → Nat → Option Nat} {Y : Nat → Int → Option Nat} {o a : Nat} {w : Int → Int} (h1 : (T o).1 = 12) (h3 : P o 3 = some a) (hS : SR T F I P Y a w) {v x : Int} (hv : -2147483648 ≤ v ∧ v < 2147483648) (hx : -2147483648 ≤ x ∧ x < 2147483648) (hb : (0 ≤ v ∧ v < 60) ∧ ¬ (0 ≤ x ∧ x ≤ 99)) (hTh : xThr E "java/lang/IllegalArgumentException") : CtX E 6 mX11_put 1 6 [.ref o, J v, J x] (z, T, F, I, P, Y) "java/lang/IllegalArgumentException" (xTz z T F I P Y) := by
  skip
  refine CtX.of [some (.ref o), some (J v), some (J x)] kt_X11_put rfl (Nat.le_of_ble_eq_true rfl) rfl (fun d hd => ?_)
  generalize hX : xNX E _ _ _ _ = X
  refine xg_iloadn 1 dX11_put_0 rfl rfl rfl ?_
  refine xg_callS 4 [_] _ ks_X11_isNoKey kl_RX11_225 dX11_put_1 rfl rfl rfl (Nat.le_of_ble_eq_true rfl) (by omega) ⟨by first | decide | omega, by first | decide | omega⟩ (ct_X11_isNoKey (by omega)) rfl ?_
  refine xg_deq 15 7 dX11_put_4 rfl rfl (fun hb4 => ?_) (fun hb4 => ?_)
  · skip
    refine xg_iloadn 16 dX11_put_15 rfl rfl rfl ?_
    refine xg_iflt 25 19 dX11_put_16 rfl rfl (by omega) (fun hb16 => ?_) (fun hb16 => ?_)
    · skip
      subst hX
      exact xg_throw kt_X11_put hTh (by decide) kfit_IAE kn_RX11_92 kini_IAE at_IAE dX11_put_25 dX11_put_28 dX11_put_29 dX11_put_32 (by omega) ⟨by first | decide | omega, by first | decide | omega⟩ (fun z9 hz9 => ⟨z9, hz9, rfl⟩)
    · skip
      refine xg_iloadn 20 dX11_put_19 rfl rfl rfl ?_
      refine xg_bipush 22 dX11_put_20 rfl (by decide) ?_
      refine xg_iclt 33 25 dX11_put_22 rfl rfl (by omega) (fun hb22 => ?_) (fun hb22 => ?_)
      · exfalso; omega
      · skip
        subst hX
        exact xg_throw kt_X11_put hTh (by decide) kfit_IAE kn_RX11_92 kini_IAE at_IAE dX11_put_25 dX11_put_28 dX11_put_29 dX11_put_32 (by omega) ⟨by first | decide | omega, by first | decide | omega⟩ (fun z9 hz9 => ⟨z9, hz9, rfl⟩)
  · exfalso; omega

set_option maxHeartbeats 4000000 in
set_option maxRecDepth 100000 in
theorem cx_X11_total_1 {E : xE} {z : Nat} {T : Nat → Nat × Int} {F : Nat → Nat → Int} {I : Nat → Int → Int} {P : Nat → Nat → Option Nat} {Y : Nat → Int → Option Nat} {o a : Nat} {w : Int → Int} (h1 : (T o).1 = 12) (h3 : P o 3 = some a) (hS : SR T F I P Y a w) {v x : Int} (hv : -2147483648 ≤ v ∧ v < 2147483648) (hx : -2147483648 ≤ x ∧ x < 2147483648) (hb : ¬ ((0 ≤ v ∧ v < 60) ∧ 0 ≤ x ∧ x < 60)) (hTh : xThr E "java/lang/IndexOutOfBoundsException") : CtX E 6 mX11_total 1 6 [.ref o, J v, J x] (z, T, F, I, P, Y) "java/lang/IndexOutOfBoundsException" (xTz z T F I P Y) := by
  skip
  refine CtX.of [some (.ref o), some (J v), some (J x), none, none, none] kt_X11_total rfl (Nat.le_of_ble_eq_true rfl) rfl (fun d hd => ?_)
  generalize hX : xNX E _ _ _ _ = X
  refine xg_iloadn 1 dX11_total_0 rfl rfl rfl ?_
  refine xg_callS 4 [_] _ ks_X11_isNoKey kl_RX11_225 dX11_total_1 rfl rfl rfl (Nat.le_of_ble_eq_true rfl) (by omega) ⟨by first | decide | omega, by first | decide | omega⟩ (ct_X11_isNoKey (by omega)) rfl ?_
  refine xg_dne 14 7 dX11_total_4 rfl rfl (fun hb4 => ?_) (fun hb4 => ?_)
  · skip
    subst hX
    exact xg_throw kt_X11_total hTh (by decide) kfit_IOB kn_RX11_125 kini_IOB at_IOB dX11_total_14 dX11_total_17 dX11_total_18 dX11_total_21 (by omega) ⟨by first | decide | omega, by first | decide | omega⟩ (fun z9 hz9 => ⟨z9, hz9, rfl⟩)
  · skip
    refine xg_iloadn 8 dX11_total_7 rfl rfl rfl ?_
    refine xg_callS 11 [_] _ ks_X11_isNoKey kl_RX11_225 dX11_total_8 rfl rfl rfl (Nat.le_of_ble_eq_true rfl) (by omega) ⟨by first | decide | omega, by first | decide | omega⟩ (ct_X11_isNoKey (by omega)) rfl ?_
    refine xg_deq 22 14 dX11_total_11 rfl rfl (fun hb11 => ?_) (fun hb11 => ?_)
    · exfalso; omega
    · skip
      subst hX
      exact xg_throw kt_X11_total hTh (by decide) kfit_IOB kn_RX11_125 kini_IOB at_IOB dX11_total_14 dX11_total_17 dX11_total_18 dX11_total_21 (by omega) ⟨by first | decide | omega, by first | decide | omega⟩ (fun z9 hz9 => ⟨z9, hz9, rfl⟩)

set_option maxHeartbeats 4000000 in
set_option maxRecDepth 100000 in
theorem cx_X11_total_2 {E : xE} {z : Nat} {T : Nat → Nat × Int} {F : Nat → Nat → Int} {I : Nat → Int → Int} {P : Nat → Nat → Option Nat} {Y : Nat → Int → Option Nat} {o a : Nat} {w : Int → Int} (h1 : (T o).1 = 12) (h3 : P o 3 = some a) (hS : SR T F I P Y a w) {v x : Int} (hv : -2147483648 ≤ v ∧ v < 2147483648) (hx : -2147483648 ≤ x ∧ x < 2147483648) (hb : ((0 ≤ v ∧ v < 60) ∧ 0 ≤ x ∧ x < 60) ∧ x < v) (hTh : xThr E "java/lang/IllegalArgumentException") : CtX E 6 mX11_total 1 6 [.ref o, J v, J x] (z, T, F, I, P, Y) "java/lang/IllegalArgumentException" (xTz z T F I P Y) := by
  skip
  refine CtX.of [some (.ref o), some (J v), some (J x), none, none, none] kt_X11_total rfl (Nat.le_of_ble_eq_true rfl) rfl (fun d hd => ?_)
  generalize hX : xNX E _ _ _ _ = X
  refine xg_iloadn 1 dX11_total_0 rfl rfl rfl ?_
  refine xg_callS 4 [_] _ ks_X11_isNoKey kl_RX11_225 dX11_total_1 rfl rfl rfl (Nat.le_of_ble_eq_true rfl) (by omega) ⟨by first | decide | omega, by first | decide | omega⟩ (ct_X11_isNoKey (by omega)) rfl ?_
  refine xg_dne 14 7 dX11_total_4 rfl rfl (fun hb4 => ?_) (fun hb4 => ?_)
  · exfalso; omega
  · skip
    refine xg_iloadn 8 dX11_total_7 rfl rfl rfl ?_
    refine xg_callS 11 [_] _ ks_X11_isNoKey kl_RX11_225 dX11_total_8 rfl rfl rfl (Nat.le_of_ble_eq_true rfl) (by omega) ⟨by first | decide | omega, by first | decide | omega⟩ (ct_X11_isNoKey (by omega)) rfl ?_
    refine xg_deq 22 14 dX11_total_11 rfl rfl (fun hb11 => ?_) (fun hb11 => ?_)
    · skip
      refine xg_iloadn 23 dX11_total_22 rfl rfl rfl ?_
      refine xg_iloadn 24 dX11_total_23 rfl rfl rfl ?_
      refine xg_icge 35 27 dX11_total_24 rfl rfl (by omega) (fun hb24 => ?_) (fun hb24 => ?_)
      · exfalso; omega
      · skip
        subst hX
        exact xg_throw kt_X11_total hTh (by decide) kfit_IAE kn_RX11_92 kini_IAE at_IAE dX11_total_27 dX11_total_30 dX11_total_31 dX11_total_34 (by omega) ⟨by first | decide | omega, by first | decide | omega⟩ (fun z9 hz9 => ⟨z9, hz9, rfl⟩)
    · exfalso; omega

set_option maxHeartbeats 4000000 in
set_option maxRecDepth 100000 in
theorem cx_X11_ahead_1 {E : xE} {z : Nat} {T : Nat → Nat × Int} {F : Nat → Nat → Int} {I : Nat → Int → Int} {P : Nat → Nat → Option Nat} {Y : Nat → Int → Option Nat} {o a : Nat} {w : Int → Int} (h1 : (T o).1 = 12) (h3 : P o 3 = some a) (hS : SR T F I P Y a w) {b : Bool} {v : Int} (hv : -2147483648 ≤ v ∧ v < 2147483648) (hb : ¬ (0 ≤ v ∧ v ≤ 60)) (hTh : xThr E "java/lang/IllegalArgumentException") : CtX E 6 mX11_ahead 1 6 [.ref o, J v, J (bI b)] (z, T, F, I, P, Y) "java/lang/IllegalArgumentException" (xTz z T F I P Y) := by
  skip
  refine CtX.of [some (.ref o), some (J v), some (J (bI b))] kt_X11_ahead rfl (Nat.le_of_ble_eq_true rfl) rfl (fun d hd => ?_)
  generalize hX : xNX E _ _ _ _ = X
  refine xg_iloadn 1 dX11_ahead_0 rfl rfl rfl ?_
  refine xg_callS 4 [_] _ ks_X11_isNoSpan kl_RX11_351 dX11_ahead_1 rfl rfl rfl (Nat.le_of_ble_eq_true rfl) (by omega) ⟨by first | decide | omega, by first | decide | omega⟩ (ct_X11_isNoSpan (by omega)) rfl ?_
  refine xg_deq 15 7 dX11_ahead_4 rfl rfl (fun hb4 => ?_) (fun hb4 => ?_)
  · exfalso; omega
  · skip
    subst hX
    exact xg_throw kt_X11_ahead hTh (by decide) kfit_IAE kn_RX11_92 kini_IAE at_IAE dX11_ahead_7 dX11_ahead_10 dX11_ahead_11 dX11_ahead_14 (by omega) ⟨by first | decide | omega, by first | decide | omega⟩ (fun z9 hz9 => ⟨z9, hz9, rfl⟩)

set_option maxHeartbeats 4000000 in
set_option maxRecDepth 100000 in
theorem cx_X11_trial_1 {E : xE} {z : Nat} {T : Nat → Nat × Int} {F : Nat → Nat → Int} {I : Nat → Int → Int} {P : Nat → Nat → Option Nat} {Y : Nat → Int → Option Nat} {o a : Nat} {w : Int → Int} (h1 : (T o).1 = 12) (h3 : P o 3 = some a) (hS : SR T F I P Y a w) {b : Bool} {v : Int} (hv : -2147483648 ≤ v ∧ v < 2147483648) (hb : ¬ (0 ≤ v ∧ v ≤ 60)) (hTh : xThr E "java/lang/IllegalArgumentException") : CtX E 6 mX11_trial 1 6 [.ref o, J v, J (bI b)] (z, T, F, I, P, Y) "java/lang/IllegalArgumentException" (xTz z T F I P Y) := by
  skip
  refine CtX.of [some (.ref o), some (J v), some (J (bI b))] kt_X11_trial rfl (Nat.le_of_ble_eq_true rfl) rfl (fun d hd => ?_)
  generalize hX : xNX E _ _ _ _ = X
  refine xg_iloadn 1 dX11_trial_0 rfl rfl rfl ?_
  refine xg_callS 4 [_] _ ks_X11_isNoSpan kl_RX11_351 dX11_trial_1 rfl rfl rfl (Nat.le_of_ble_eq_true rfl) (by omega) ⟨by first | decide | omega, by first | decide | omega⟩ (ct_X11_isNoSpan (by omega)) rfl ?_
  refine xg_deq 15 7 dX11_trial_4 rfl rfl (fun hb4 => ?_) (fun hb4 => ?_)
  · exfalso; omega
  · skip
    subst hX
    exact xg_throw kt_X11_trial hTh (by decide) kfit_IAE kn_RX11_92 kini_IAE at_IAE dX11_trial_7 dX11_trial_10 dX11_trial_11 dX11_trial_14 (by omega) ⟨by first | decide | omega, by first | decide | omega⟩ (fun z9 hz9 => ⟨z9, hz9, rfl⟩)

set_option maxHeartbeats 4000000 in
set_option maxRecDepth 100000 in
theorem cx_X11_span_1 {E : xE} {z : Nat} {T : Nat → Nat × Int} {F : Nat → Nat → Int} {I : Nat → Int → Int} {P : Nat → Nat → Option Nat} {Y : Nat → Int → Option Nat} {o a : Nat} {w : Int → Int} (h1 : (T o).1 = 12) (h3 : P o 3 = some a) (hS : SR T F I P Y a w) {b : Bool} {v : Int} (hv : -2147483648 ≤ v ∧ v < 2147483648) (hb : ¬ (0 ≤ v ∧ v ≤ 60)) (hTh : xThr E "java/lang/IllegalArgumentException") : CtX E 6 mX11_span 1 6 [.ref o, J v, J (bI b)] (z, T, F, I, P, Y) "java/lang/IllegalArgumentException" (xTz z T F I P Y) := by
  skip
  refine CtX.of [some (.ref o), some (J v), some (J (bI b)), none, none, none] kt_X11_span rfl (Nat.le_of_ble_eq_true rfl) rfl (fun d hd => ?_)
  generalize hX : xNX E _ _ _ _ = X
  refine xg_iloadn 1 dX11_span_0 rfl rfl rfl ?_
  refine xg_callS 4 [_] _ ks_X11_isNoSpan kl_RX11_351 dX11_span_1 rfl rfl rfl (Nat.le_of_ble_eq_true rfl) (by omega) ⟨by first | decide | omega, by first | decide | omega⟩ (ct_X11_isNoSpan (by omega)) rfl ?_
  refine xg_deq 15 7 dX11_span_4 rfl rfl (fun hb4 => ?_) (fun hb4 => ?_)
  · exfalso; omega
  · skip
    subst hX
    exact xg_throw kt_X11_span hTh (by decide) kfit_IAE kn_RX11_92 kini_IAE at_IAE dX11_span_7 dX11_span_10 dX11_span_11 dX11_span_14 (by omega) ⟨by first | decide | omega, by first | decide | omega⟩ (fun z9 hz9 => ⟨z9, hz9, rfl⟩)

set_option maxHeartbeats 4000000 in
set_option maxRecDepth 100000 in
theorem cx_X11_pairs_1 {E : xE} {z : Nat} {T : Nat → Nat × Int} {F : Nat → Nat → Int} {I : Nat → Int → Int} {P : Nat → Nat → Option Nat} {Y : Nat → Int → Option Nat} {o a : Nat} {w : Int → Int} (h1 : (T o).1 = 12) (h3 : P o 3 = some a) (hS : SR T F I P Y a w) {v : Int} (hv : -2147483648 ≤ v ∧ v < 2147483648) (hb : v ≠ -1 ∧ ¬ (0 ≤ v ∧ v < w 0)) (hTh : xThr E "java/lang/IndexOutOfBoundsException") : CtX E 6 mX11_pairs 1 6 [.ref o, J v] (z, T, F, I, P, Y) "java/lang/IndexOutOfBoundsException" (xTz z T F I P Y) := by
  have hO := hS.1.1
  have o0 := hO.2.1
  obtain ⟨hGd, hLw, ⟨π, ⟨hSt, hPm⟩, ⟨hSc, hTl, hJb⟩, hRun, hTab, hOut, hJo⟩, hLv, hLf⟩ := id hS
  obtain ⟨⟨st9, s0, s01, s02⟩, hRows, ⟨s4, s44⟩, ⟨s5, l9, ⟨l0, l1, l2, l3⟩, ⟨l01, l02⟩, ⟨l11, l12⟩, ⟨l21, l22⟩, l31, l32⟩, ⟨s6, s50⟩, ⟨s7, hJou⟩, -⟩ := id hSt
  have p5 : ∀ j : Nat, j < 14 → π j < 14 := hPm.2.2.2.1
  have hw0 : F a 1 = w 0 := hSc.1
  refine CtX.of [some (.ref o), some (J v)] kt_X11_pairs rfl (Nat.le_of_ble_eq_true rfl) rfl (fun d hd => ?_)
  generalize hX : xNX E _ _ _ _ = X
  refine xg_iloadn 1 dX11_pairs_0 rfl rfl rfl ?_
  refine xg_iconst 2 dX11_pairs_1 rfl ?_
  refine xg_iceq 24 5 dX11_pairs_2 rfl rfl (by omega) (fun hb2 => ?_) (fun hb2 => ?_)
  · exfalso; omega
  · skip
    refine xg_aloadn 6 dX11_pairs_5 rfl rfl rfl ?_
    refine xg_getP 9 kf_RX11_23 dX11_pairs_6 rfl h1 h3 ?_
    refine xg_iloadn 10 dX11_pairs_9 rfl rfl rfl ?_
    refine xg_callV 13 8 [_] _ kv_X8_hasRun ⟨_, _, rfl⟩ kl_RX11_121 dX11_pairs_10 rfl st9 (by omega) rfl rfl (Nat.le_of_ble_eq_true rfl) (by omega) ⟨by first | decide | omega, by first | decide | omega⟩ (ct_X8_hasRun st9 (by omega) (by omega)) rfl ?_
    rw [hw0]
    refine xg_dne 24 16 dX11_pairs_13 rfl rfl (fun hb13 => ?_) (fun hb13 => ?_)
    · exfalso; omega
    · skip
      subst hX
      exact xg_throw kt_X11_pairs hTh (by decide) kfit_IOB kn_RX11_125 kini_IOB at_IOB dX11_pairs_16 dX11_pairs_19 dX11_pairs_20 dX11_pairs_23 (by omega) ⟨by first | decide | omega, by first | decide | omega⟩ (fun z9 hz9 => ⟨z9, hz9, rfl⟩)

set_option maxHeartbeats 4000000 in
set_option maxRecDepth 100000 in
theorem cx_X11_tune_1 {E : xE} {z : Nat} {T : Nat → Nat × Int} {F : Nat → Nat → Int} {I : Nat → Int → Int} {P : Nat → Nat → Option Nat} {Y : Nat → Int → Option Nat} {o a : Nat} {w : Int → Int} (h1 : (T o).1 = 12) (h3 : P o 3 = some a) (hS : SR T F I P Y a w) {v x : Int} (hv : -2147483648 ≤ v ∧ v < 2147483648) (hx : -2147483648 ≤ x ∧ x < 2147483648) (hb : ¬ (0 ≤ v ∧ v ≤ 2)) (hTh : xThr E "java/util/NoSuchElementException") : CtX E 6 mX11_tune 1 6 [.ref o, J v, J x] (z, T, F, I, P, Y) "java/util/NoSuchElementException" (xTz z T F I P Y) := by
  skip
  refine CtX.of [some (.ref o), some (J v), some (J x), none] kt_X11_tune rfl (Nat.le_of_ble_eq_true rfl) rfl (fun d hd => ?_)
  generalize hX : xNX E _ _ _ _ = X
  refine xg_iloadn 1 dX11_tune_0 rfl rfl rfl ?_
  refine xg_iflt 9 4 dX11_tune_1 rfl rfl (by omega) (fun hb1 => ?_) (fun hb1 => ?_)
  · skip
    subst hX
    exact xg_throw kt_X11_tune hTh (by decide) kfit_NSE kn_RX11_155 kini_NSE at_NSE dX11_tune_9 dX11_tune_12 dX11_tune_13 dX11_tune_16 (by omega) ⟨by first | decide | omega, by first | decide | omega⟩ (fun z9 hz9 => ⟨z9, hz9, rfl⟩)
  · skip
    refine xg_iloadn 5 dX11_tune_4 rfl rfl rfl ?_
    refine xg_iconst 6 dX11_tune_5 rfl ?_
    refine xg_icle 17 9 dX11_tune_6 rfl rfl (by omega) (fun hb6 => ?_) (fun hb6 => ?_)
    · exfalso; omega
    · skip
      subst hX
      exact xg_throw kt_X11_tune hTh (by decide) kfit_NSE kn_RX11_155 kini_NSE at_NSE dX11_tune_9 dX11_tune_12 dX11_tune_13 dX11_tune_16 (by omega) ⟨by first | decide | omega, by first | decide | omega⟩ (fun z9 hz9 => ⟨z9, hz9, rfl⟩)

set_option maxHeartbeats 4000000 in
set_option maxRecDepth 100000 in
theorem cx_X11_tune_2 {E : xE} {z : Nat} {T : Nat → Nat × Int} {F : Nat → Nat → Int} {I : Nat → Int → Int} {P : Nat → Nat → Option Nat} {Y : Nat → Int → Option Nat} {o a : Nat} {w : Int → Int} (h1 : (T o).1 = 12) (h3 : P o 3 = some a) (hS : SR T F I P Y a w) {v x : Int} (hv : -2147483648 ≤ v ∧ v < 2147483648) (hx : -2147483648 ≤ x ∧ x < 2147483648) (hb : (0 ≤ v ∧ v ≤ 2) ∧ ¬ tuneOk v x) (hTh : xThr E "java/lang/IllegalArgumentException") : CtX E 6 mX11_tune 1 6 [.ref o, J v, J x] (z, T, F, I, P, Y) "java/lang/IllegalArgumentException" (xTz z T F I P Y) := by
  have hnt : zTu v x := by have hb2 := hb.2; unfold tuneOk at hb2; unfold zTu; omega
  refine CtX.of [some (.ref o), some (J v), some (J x), none] kt_X11_tune rfl (Nat.le_of_ble_eq_true rfl) rfl (fun d hd => ?_)
  generalize hX : xNX E _ _ _ _ = X
  refine xg_iloadn 1 dX11_tune_0 rfl rfl rfl ?_
  refine xg_iflt 9 4 dX11_tune_1 rfl rfl (by omega) (fun hb1 => ?_) (fun hb1 => ?_)
  · exfalso; omega
  · skip
    refine xg_iloadn 5 dX11_tune_4 rfl rfl rfl ?_
    refine xg_iconst 6 dX11_tune_5 rfl ?_
    refine xg_icle 17 9 dX11_tune_6 rfl rfl (by omega) (fun hb6 => ?_) (fun hb6 => ?_)
    · skip
      refine xg_iloadn 18 dX11_tune_17 rfl rfl rfl ?_
      refine xg_iloadn 19 dX11_tune_18 rfl rfl rfl ?_
      refine xg_callS 22 [_, _] _ ks_X11_isNoTuning kl_RX11_259 dX11_tune_19 rfl rfl rfl (Nat.le_of_ble_eq_true rfl) (by omega) ⟨by first | decide | omega, by first | decide | omega⟩ (ct_X11_isNoTuning (by omega) (by omega)) rfl ?_
      refine xg_deq 33 25 dX11_tune_22 rfl rfl (fun hb22 => ?_) (fun hb22 => ?_)
      · exfalso; exact hb22 hnt
      · skip
        subst hX
        exact xg_throw kt_X11_tune hTh (by decide) kfit_IAE kn_RX11_92 kini_IAE at_IAE dX11_tune_25 dX11_tune_28 dX11_tune_29 dX11_tune_32 (by omega) ⟨by first | decide | omega, by first | decide | omega⟩ (fun z9 hz9 => ⟨z9, hz9, rfl⟩)
    · exfalso; omega

set_option maxHeartbeats 4000000 in
set_option maxRecDepth 100000 in
theorem cx_X11_work_1 {E : xE} {z : Nat} {T : Nat → Nat × Int} {F : Nat → Nat → Int} {I : Nat → Int → Int} {P : Nat → Nat → Option Nat} {Y : Nat → Int → Option Nat} {o a : Nat} {w : Int → Int} (h1 : (T o).1 = 12) (h3 : P o 3 = some a) (hS : SR T F I P Y a w) (hb : w 16 ≠ 1 ∧ sDM w 4 = -1) (hTh : xThr E "java/lang/IllegalStateException") : CtX E 6 mX11_work 1 6 [.ref o] (z, T, F, I, P, Y) "java/lang/IllegalStateException" (xTz z T F I P Y) := by
  have hO := hS.1.1
  have o0 := hO.2.1
  obtain ⟨hGd, hLw, ⟨π, ⟨hSt, hPm⟩, ⟨hSc, hTl, hJb⟩, hRun, hTab, hOut, hJo⟩, hLv, hLf⟩ := id hS
  obtain ⟨⟨st9, s0, s01, s02⟩, hRows, ⟨s4, s44⟩, ⟨s5, l9, ⟨l0, l1, l2, l3⟩, ⟨l01, l02⟩, ⟨l11, l12⟩, ⟨l21, l22⟩, l31, l32⟩, ⟨s6, s50⟩, ⟨s7, hJou⟩, -⟩ := id hSt
  have p5 : ∀ j : Nat, j < 14 → π j < 14 := hPm.2.2.2.1
  have hw0 : F a 1 = w 0 := hSc.1
  have hby : F (a + 44) 0 = w 16 := hJb.1
  have h16 := hO.2.2.2.2.2.2.2.2.2.2.2.1
  have hdu : F (a + 45) 4 = (sDueN w : Nat) := hLv.2.1
  have hdl := sDueN_lt w
  have hd0 := sDueN_0 w
  refine CtX.of [some (.ref o)] kt_X11_work rfl (Nat.le_of_ble_eq_true rfl) rfl (fun d hd => ?_)
  generalize hX : xNX E _ _ _ _ = X
  refine xg_aloadn 1 dX11_work_0 rfl rfl rfl ?_
  refine xg_getP 4 kf_RX11_23 dX11_work_1 rfl h1 h3 ?_
  refine xg_getP 7 kf_RX11_190 dX11_work_4 rfl st9 s4 ?_
  refine xg_getI 10 kf_RX11_194 dX11_work_7 rfl s44 ?_
  rw [hby]
  refine xg_ifne 34 13 dX11_work_10 rfl rfl (by omega) (fun hb10 => ?_) (fun hb10 => ?_)
  · exfalso; omega
  · skip
    refine xg_aloadn 14 dX11_work_13 rfl rfl rfl ?_
    refine xg_getP 17 kf_RX11_23 dX11_work_14 rfl h1 h3 ?_
    refine xg_getP 20 kf_RX11_172 dX11_work_17 rfl st9 s5 ?_
    refine xg_getI 23 kf_RX11_184 dX11_work_20 rfl l9 ?_
    rw [hdu]
    refine xg_ifne 34 26 dX11_work_23 rfl rfl (by omega) (fun hb23 => ?_) (fun hb23 => ?_)
    · exfalso; omega
    · skip
      subst hX
      exact xg_throw kt_X11_work hTh (by decide) kfit_ISE kn_RX11_231 kini_ISE at_ISE dX11_work_26 dX11_work_29 dX11_work_30 dX11_work_33 (by omega) ⟨by first | decide | omega, by first | decide | omega⟩ (fun z9 hz9 => ⟨z9, hz9, rfl⟩)

set_option maxHeartbeats 4000000 in
set_option maxRecDepth 100000 in
theorem cx_X11_halt_1 {E : xE} {z : Nat} {T : Nat → Nat × Int} {F : Nat → Nat → Int} {I : Nat → Int → Int} {P : Nat → Nat → Option Nat} {Y : Nat → Int → Option Nat} {o a : Nat} {w : Int → Int} (h1 : (T o).1 = 12) (h3 : P o 3 = some a) (hS : SR T F I P Y a w) (hb : w 16 ≠ 1) (hTh : xThr E "java/lang/IllegalStateException") : CtX E 6 mX11_halt 1 6 [.ref o] (z, T, F, I, P, Y) "java/lang/IllegalStateException" (xTz z T F I P Y) := by
  have hO := hS.1.1
  have o0 := hO.2.1
  obtain ⟨hGd, hLw, ⟨π, ⟨hSt, hPm⟩, ⟨hSc, hTl, hJb⟩, hRun, hTab, hOut, hJo⟩, hLv, hLf⟩ := id hS
  obtain ⟨⟨st9, s0, s01, s02⟩, hRows, ⟨s4, s44⟩, ⟨s5, l9, ⟨l0, l1, l2, l3⟩, ⟨l01, l02⟩, ⟨l11, l12⟩, ⟨l21, l22⟩, l31, l32⟩, ⟨s6, s50⟩, ⟨s7, hJou⟩, -⟩ := id hSt
  have p5 : ∀ j : Nat, j < 14 → π j < 14 := hPm.2.2.2.1
  have hw0 : F a 1 = w 0 := hSc.1
  have hby : F (a + 44) 0 = w 16 := hJb.1
  have h16 := hO.2.2.2.2.2.2.2.2.2.2.2.1
  have hdu : F (a + 45) 4 = (sDueN w : Nat) := hLv.2.1
  have hdl := sDueN_lt w
  have hd0 := sDueN_0 w
  refine CtX.of [some (.ref o), none] kt_X11_halt rfl (Nat.le_of_ble_eq_true rfl) rfl (fun d hd => ?_)
  generalize hX : xNX E _ _ _ _ = X
  refine xg_aloadn 1 dX11_halt_0 rfl rfl rfl ?_
  refine xg_getP 4 kf_RX11_23 dX11_halt_1 rfl h1 h3 ?_
  refine xg_getP 7 kf_RX11_190 dX11_halt_4 rfl st9 s4 ?_
  refine xg_getI 10 kf_RX11_194 dX11_halt_7 rfl s44 ?_
  rw [hby]
  refine xg_ifne 21 13 dX11_halt_10 rfl rfl (by omega) (fun hb10 => ?_) (fun hb10 => ?_)
  · exfalso; omega
  · skip
    subst hX
    exact xg_throw kt_X11_halt hTh (by decide) kfit_ISE kn_RX11_231 kini_ISE at_ISE dX11_halt_13 dX11_halt_16 dX11_halt_17 dX11_halt_20 (by omega) ⟨by first | decide | omega, by first | decide | omega⟩ (fun z9 hz9 => ⟨z9, hz9, rfl⟩)

set_option maxHeartbeats 4000000 in
set_option maxRecDepth 100000 in
theorem cx_X11_flush_1 {E : xE} {z : Nat} {T : Nat → Nat × Int} {F : Nat → Nat → Int} {I : Nat → Int → Int} {P : Nat → Nat → Option Nat} {Y : Nat → Int → Option Nat} {o a : Nat} {w : Int → Int} (h1 : (T o).1 = 12) (h3 : P o 3 = some a) (hS : SR T F I P Y a w) (hb : sEnt w 19 = 0 ∨ sCrowd w = true) (hTh : xThr E "java/lang/IllegalStateException") : CtX E 6 mX11_flush 1 6 [.ref o] (z, T, F, I, P, Y) "java/lang/IllegalStateException" (xTz z T F I P Y) := by
  have hO := hS.1.1
  have o0 := hO.2.1
  obtain ⟨hGd, hLw, ⟨π, ⟨hSt, hPm⟩, ⟨hSc, hTl, hJb⟩, hRun, hTab, hOut, hJo⟩, hLv, hLf⟩ := id hS
  obtain ⟨⟨st9, s0, s01, s02⟩, hRows, ⟨s4, s44⟩, ⟨s5, l9, ⟨l0, l1, l2, l3⟩, ⟨l01, l02⟩, ⟨l11, l12⟩, ⟨l21, l22⟩, l31, l32⟩, ⟨s6, s50⟩, ⟨s7, hJou⟩, -⟩ := id hSt
  have p5 : ∀ j : Nat, j < 14 → π j < 14 := hPm.2.2.2.1
  have hw0 : F a 1 = w 0 := hSc.1
  have hT2 : F (a + 2 + 3 * π 12) 2 = sEnt w 19 := hTab.2.2.1
  have hE9 := sEnt_bd w 19
  have hm0 : I (a + 45 + 2) 0 = sMany w 0 := (hLv.1 0 (by decide)).2.1
  have hmb := sMany_bd w 0
  have hwn : (wN w : Int) ≤ 12 := by unfold wN; omega
  have h4b := hO.2.2.2.2.2.1
  have hF10 : F a 10 = w 4 := hSc.2.2.1
  have hcr : sCrowd w = true → (w 4 + 2 ≤ sMany w 0 ∨ w 0 = 12) := fun q => of_decide_eq_true q
  refine CtX.of [some (.ref o), none] kt_X11_flush rfl (Nat.le_of_ble_eq_true rfl) rfl (fun d hd => ?_)
  generalize hX : xNX E _ _ _ _ = X
  refine xg_aloadn 1 dX11_flush_0 rfl rfl rfl ?_
  refine xg_getP 4 kf_RX11_23 dX11_flush_1 rfl h1 h3 ?_
  refine xg_getP 7 kf_RX11_243 dX11_flush_4 rfl st9 hPm.2.1 ?_
  refine xg_getI 10 kf_RX11_137 dX11_flush_7 rfl (hRows _ (p5 12 (by omega))).1 ?_
  rw [hT2]
  refine xg_ifeq 23 13 dX11_flush_10 rfl rfl (by omega) (fun hb10 => ?_) (fun hb10 => ?_)
  · skip
    subst hX
    exact xg_throw kt_X11_flush hTh (by decide) kfit_ISE kn_RX11_231 kini_ISE at_ISE dX11_flush_23 dX11_flush_26 dX11_flush_27 dX11_flush_30 (by omega) ⟨by first | decide | omega, by first | decide | omega⟩ (fun z9 hz9 => ⟨z9, hz9, rfl⟩)
  · skip
    refine xg_aloadn 14 dX11_flush_13 rfl rfl rfl ?_
    refine xg_getP 17 kf_RX11_23 dX11_flush_14 rfl h1 h3 ?_
    refine xg_callV 20 8 [] _ kv_X8_hasRoom ⟨_, _, rfl⟩ kl_RX11_246 dX11_flush_17 rfl st9 (by omega) rfl rfl (Nat.le_of_ble_eq_true rfl) (by omega) ⟨by first | decide | omega, by first | decide | omega⟩ (ct_X8_hasRoom st9 s5 l9 l1 l11 (by omega) (by rw [hm0]; omega) (by omega) (by omega)) rfl ?_
    refine xg_dne 31 23 dX11_flush_20 rfl rfl (fun hb20 => ?_) (fun hb20 => ?_)
    · exfalso; rcases hb with hb | hb
      · omega
      · have := hcr hb; omega
    · skip
      subst hX
      exact xg_throw kt_X11_flush hTh (by decide) kfit_ISE kn_RX11_231 kini_ISE at_ISE dX11_flush_23 dX11_flush_26 dX11_flush_27 dX11_flush_30 (by omega) ⟨by first | decide | omega, by first | decide | omega⟩ (fun z9 hz9 => ⟨z9, hz9, rfl⟩)

set_option maxHeartbeats 4000000 in
set_option maxRecDepth 100000 in
theorem cx_X11_may_1 {E : xE} {z : Nat} {T : Nat → Nat × Int} {F : Nat → Nat → Int} {I : Nat → Int → Int} {P : Nat → Nat → Option Nat} {Y : Nat → Int → Option Nat} {o a : Nat} {w : Int → Int} (h1 : (T o).1 = 12) (h3 : P o 3 = some a) (hS : SR T F I P Y a w) (h0 : P o 0 = some (o + 1)) (ht1 : (T (o + 1)).1 = 14 ∧ (T (o + 1)).2 = 400) (he : 0 ≤ F o 1 ∧ F o 1 ≤ 400) (htb : ∀ j : Int, 0 ≤ j → j < F o 1 → 0 ≤ I (o + 1) j ∧ I (o + 1) j ≤ 255) (hV : sTld (I (o + 1)) (F o 1) = false) (hTh : xThr E "java/lang/IllegalArgumentException") : CtX E 6 mX11_may 1 6 [.ref o] (z, T, F, I, P, Y) "java/lang/IllegalArgumentException" (xTz z T (upF F o 1 0) I P Y) := by
  skip
  refine CtX.of [some (.ref o), none] kt_X11_may rfl (Nat.le_of_ble_eq_true rfl) rfl (fun d hd => ?_)
  generalize hX : xNX E _ _ _ _ = X
  refine xg_aloadn 1 dX11_may_0 rfl rfl rfl ?_
  refine xg_callV 4 11 [] _ kv_X11_takeRows ⟨_, _, rfl⟩ kl_RX11_308 dX11_may_1 rfl h1 (by omega) rfl rfl (Nat.le_of_ble_eq_true rfl) (by omega) ⟨by first | decide | omega, by first | decide | omega⟩ (ct_X11_takeRows h1 h0 ht1 he htb) rfl ?_
  rw [if_neg (by rw [hV]; decide)]
  refine xg_istoren 5 _ dX11_may_4 rfl rfl rfl (by decide) (Or.inr rfl) ?_
  refine xg_iloadn 6 dX11_may_5 rfl rfl rfl ?_
  refine xg_iconst 7 dX11_may_6 rfl ?_
  refine xg_icne 18 10 dX11_may_7 rfl rfl (by omega) (fun hb7 => ?_) (fun hb7 => ?_)
  · exfalso; omega
  · skip
    subst hX
    exact xg_throw kt_X11_may hTh (by decide) kfit_IAE kn_RX11_92 kini_IAE at_IAE dX11_may_10 dX11_may_13 dX11_may_14 dX11_may_17 (by omega) ⟨by first | decide | omega, by first | decide | omega⟩ (fun z9 hz9 => ⟨z9, hz9, rfl⟩)

set_option maxHeartbeats 4000000 in
set_option maxRecDepth 100000 in
theorem cx_X11_likely_1 {E : xE} {z : Nat} {T : Nat → Nat × Int} {F : Nat → Nat → Int} {I : Nat → Int → Int} {P : Nat → Nat → Option Nat} {Y : Nat → Int → Option Nat} {o a : Nat} {w : Int → Int} (h1 : (T o).1 = 12) (h3 : P o 3 = some a) (hS : SR T F I P Y a w) (h0 : P o 0 = some (o + 1)) (ht1 : (T (o + 1)).1 = 14 ∧ (T (o + 1)).2 = 400) (he : 0 ≤ F o 1 ∧ F o 1 ≤ 400) (htb : ∀ j : Int, 0 ≤ j → j < F o 1 → 0 ≤ I (o + 1) j ∧ I (o + 1) j ≤ 255) (hV : sTld (I (o + 1)) (F o 1) = false) (hTh : xThr E "java/lang/IllegalArgumentException") : CtX E 6 mX11_likely 1 6 [.ref o] (z, T, F, I, P, Y) "java/lang/IllegalArgumentException" (xTz z T (upF F o 1 0) I P Y) := by
  skip
  refine CtX.of [some (.ref o), none, none, none, none, none] kt_X11_likely rfl (Nat.le_of_ble_eq_true rfl) rfl (fun d hd => ?_)
  generalize hX : xNX E _ _ _ _ = X
  refine xg_aloadn 1 dX11_likely_0 rfl rfl rfl ?_
  refine xg_callV 4 11 [] _ kv_X11_takeRows ⟨_, _, rfl⟩ kl_RX11_308 dX11_likely_1 rfl h1 (by omega) rfl rfl (Nat.le_of_ble_eq_true rfl) (by omega) ⟨by first | decide | omega, by first | decide | omega⟩ (ct_X11_takeRows h1 h0 ht1 he htb) rfl ?_
  rw [if_neg (by rw [hV]; decide)]
  refine xg_istoren 5 _ dX11_likely_4 rfl rfl rfl (by decide) (Or.inr rfl) ?_
  refine xg_iloadn 6 dX11_likely_5 rfl rfl rfl ?_
  refine xg_iconst 7 dX11_likely_6 rfl ?_
  refine xg_icne 18 10 dX11_likely_7 rfl rfl (by omega) (fun hb7 => ?_) (fun hb7 => ?_)
  · exfalso; omega
  · skip
    subst hX
    exact xg_throw kt_X11_likely hTh (by decide) kfit_IAE kn_RX11_92 kini_IAE at_IAE dX11_likely_10 dX11_likely_13 dX11_likely_14 dX11_likely_17 (by omega) ⟨by first | decide | omega, by first | decide | omega⟩ (fun z9 hz9 => ⟨z9, hz9, rfl⟩)

set_option maxHeartbeats 4000000 in
set_option maxRecDepth 100000 in
theorem cx_X11_look_1 {E : xE} {z : Nat} {T : Nat → Nat × Int} {F : Nat → Nat → Int} {I : Nat → Int → Int} {P : Nat → Nat → Option Nat} {Y : Nat → Int → Option Nat} {o a : Nat} {w : Int → Int} (h1 : (T o).1 = 12) (h3 : P o 3 = some a) (hS : SR T F I P Y a w) (h0 : P o 0 = some (o + 1)) (ht1 : (T (o + 1)).1 = 14 ∧ (T (o + 1)).2 = 400) (he : 0 ≤ F o 1 ∧ F o 1 ≤ 400) (htb : ∀ j : Int, 0 ≤ j → j < F o 1 → 0 ≤ I (o + 1) j ∧ I (o + 1) j ≤ 255) (hV : sTld (I (o + 1)) (F o 1) = false) (hTh : xThr E "java/lang/IllegalArgumentException") : CtX E 6 mX11_look 1 6 [.ref o] (z, T, F, I, P, Y) "java/lang/IllegalArgumentException" (xTz z T (upF F o 1 0) I P Y) := by
  skip
  refine CtX.of [some (.ref o), none, none, none, none, none, none] kt_X11_look rfl (Nat.le_of_ble_eq_true rfl) rfl (fun d hd => ?_)
  generalize hX : xNX E _ _ _ _ = X
  refine xg_aloadn 1 dX11_look_0 rfl rfl rfl ?_
  refine xg_callV 4 11 [] _ kv_X11_takeRows ⟨_, _, rfl⟩ kl_RX11_308 dX11_look_1 rfl h1 (by omega) rfl rfl (Nat.le_of_ble_eq_true rfl) (by omega) ⟨by first | decide | omega, by first | decide | omega⟩ (ct_X11_takeRows h1 h0 ht1 he htb) rfl ?_
  rw [if_neg (by rw [hV]; decide)]
  refine xg_istoren 5 _ dX11_look_4 rfl rfl rfl (by decide) (Or.inr rfl) ?_
  refine xg_iloadn 6 dX11_look_5 rfl rfl rfl ?_
  refine xg_iconst 7 dX11_look_6 rfl ?_
  refine xg_icne 18 10 dX11_look_7 rfl rfl (by omega) (fun hb7 => ?_) (fun hb7 => ?_)
  · exfalso; omega
  · skip
    subst hX
    exact xg_throw kt_X11_look hTh (by decide) kfit_IAE kn_RX11_92 kini_IAE at_IAE dX11_look_10 dX11_look_13 dX11_look_14 dX11_look_17 (by omega) ⟨by first | decide | omega, by first | decide | omega⟩ (fun z9 hz9 => ⟨z9, hz9, rfl⟩)

set_option maxHeartbeats 4000000 in
set_option maxRecDepth 100000 in
theorem cx_X11_store_1 {E : xE} {z : Nat} {T : Nat → Nat × Int} {F : Nat → Nat → Int} {I : Nat → Int → Int} {P : Nat → Nat → Option Nat} {Y : Nat → Int → Option Nat} {o m : Nat} {ws : Nat → Option wWo} (hL : LK T F I P Y o m z ws) (hT : ∀ j : Int, 0 ≤ j → j < 400 → 0 ≤ I (o + 1) j ∧ I (o + 1) j ≤ 255) (he : 0 ≤ F o 1 ∧ F o 1 ≤ 400) {qS v0 : Nat} (hSt : ∀ u : State, E.2.2.2.2 u → oStr E.2.2.2.1 qS v0 zTx u) {sio : Option Nat} (hZ : ∀ u : State, E.2.2.2.2 u → oSts E.2.2.2.1 sio u) {tx : String} (hR : ∀ u : State, E.2.2.2.2 u → vk_R RX7 52 tx qS u) {a b : Nat} {w : wWo} (h3 : P o 3 = some a) (h4 : P o 4 = some b) (hu : ws 0 = some w) {f : Int} (hg : gSto (I (o + 1)) (F o 1) w = .inl f) (hTh : xThr E "java/lang/IllegalArgumentException") : CtX E 7 mX11_store 1 6 [.ref o] (z, T, F, I, P, Y) "java/lang/IllegalArgumentException" (fun h' => ∃ (z' : Nat) (F' : Nat → Nat → Int) (I' : Nat → Int → Int) (P' : Nat → Nat → Option Nat) (Y' : Nat → Int → Option Nat), h' = (z', T, F', I', P', Y') ∧ z ≤ z' ∧ LK T F' I' P' Y' o m z (wsU ws 1 none) ∧ P' o = P o ∧ (F' o 1 = 0 ∧ F' o 2 = f ∧ F' o 7 = F o 7 ∧ F' o 8 = F o 8) ∧ I' (o + 1) = I (o + 1) ∧ LF m T F I P Y T F' I' P' Y') := by
  have h1 : (T o).1 = 12 := hL.1.1
  obtain ⟨-, ⟨p0, t01, t02⟩, -, ⟨p9, hScn⟩, ⟨p10, hSrd⟩, ⟨p11, hLrd⟩, -⟩ := id hL.1
  obtain ⟨hS, hI, ka⟩ := hL.liv (s := 0) (by decide) h3 hu
  have kb : (T b).1 = 9 := (hL.2.2.1 1 b (by decide) h4).1.1.1
  have lb := hL.2.1.1 1 b (by decide) h4
  have kr : (T (o + 121)).1 = 10 := hSrd.1
  refine CtX.of [some (.ref o), none, none] kt_X11_store rfl (Nat.le_of_ble_eq_true rfl) rfl (fun d hd => ?_)
  generalize hX : xNX E _ _ _ _ = X
  refine xg_aloadn 1 dX11_store_0 rfl rfl rfl ?_
  refine xg_getP 4 kf_RX11_46 dX11_store_1 rfl h1 p9 ?_
  refine xg_aloadn 5 dX11_store_4 rfl rfl rfl ?_
  refine xg_getP 8 kf_RX11_9 dX11_store_5 rfl h1 p0 ?_
  refine xg_aloadn 9 dX11_store_8 rfl rfl rfl ?_
  refine xg_getI 12 kf_RX11_13 dX11_store_9 rfl h1 ?_
  refine xg_callVe 15 7 [_, _] _ kv_X7_open ⟨_, _, rfl⟩ kl_RX11_77 dX11_store_12 rfl hScn.1 (by omega) rfl rfl (Nat.le_of_ble_eq_true rfl) (by omega) ⟨by first | decide | omega, by first | decide | omega⟩ (ct_X7_open hScn ⟨t01, t02⟩ hT he (by omega) hSt hZ hR) rfl (fun v9 h9 e9 => ?_)
  obtain ⟨rfl, F2, I2, N2, rfl, hk2, ⟨h42, h52⟩, hF2, hI2⟩ := e9
  obtain ⟨K2, M2⟩ := hL.opn hF2 (fun b hb => hI2 b (by omega))
  refine xg_aloadn 16 dX11_store_15 rfl rfl rfl ?_
  refine xg_iconst 17 dX11_store_16 rfl ?_
  refine xg_putI 20 kf_RX11_13 dX11_store_17 rfl h1 ?_
  refine xg_aloadn 21 dX11_store_20 rfl rfl rfl ?_
  refine xg_getP 24 kf_RX11_27 dX11_store_21 rfl h1 h4 ?_
  refine xg_aloadn 25 dX11_store_24 rfl rfl rfl ?_
  refine xg_getP 28 kf_RX11_23 dX11_store_25 rfl h1 h3 ?_
  refine xg_callVe 31 8 [_] _ kv_X8_copyFrom ⟨_, _, rfl⟩ kl_RX11_81 dX11_store_28 rfl kb (by omega) rfl rfl (Nat.le_of_ble_eq_true rfl) (by omega) ⟨by first | decide | omega, by first | decide | omega⟩ ((K2.cpy (s0 := 1) (s1 := 0) (by decide) (by decide) (by decide) h4 h3 hu).1) rfl (fun v9 h9 e9 => ?_)
  obtain ⟨rfl, F9, I9, P9, rfl, hS9, hF9, h169⟩ := e9
  obtain ⟨c1, c2, c3, c4, c5⟩ := K2.copy (s0 := 1) (s1 := 0) (by decide) (by decide) (by decide) h4 h3 hu hS9 hI hF9 h169
  have r4 : P9 o 4 = some b := by rw [c2]; exact h4
  have r10 : P9 o 10 = some (o + 121) := by rw [c2]; exact p10
  obtain ⟨-, -, -, ⟨-, hScn9⟩, ⟨-, hSrd9⟩, -⟩ := id c1.1
  have sb9 : lSl o P9 Y 1 = some b := r4
  have hk9 : zTok (I (o + 1)) (F o 1) F9 I9 (o + 117) N2 := hk2.fw (by rw [(hF9 (o + 117) (by omega)).1, upF_na _ _ _ _ (by omega)]) (fun x x0 x1 => (hF9 x (by omega)).2.1)
  have hA9 : cAt (I (o + 1)) (F o 1) F9 I9 (o + 117) N2 0 (zB (I (o + 1)) (F o 1) 0) := ⟨hk9, by rw [(hF9 (o + 117) (by omega)).1, upF_na _ _ _ _ (by omega)]; exact h42, by rw [(hF9 (o + 117) (by omega)).1, upF_na _ _ _ _ (by omega)]; exact h52, Nat.zero_le _, rfl⟩
  refine xg_aloadn 32 dX11_store_31 rfl rfl rfl ?_
  refine xg_getP 35 kf_RX11_55 dX11_store_32 rfl h1 r10 ?_
  refine xg_aloadn 36 dX11_store_35 rfl rfl rfl ?_
  refine xg_getP 39 kf_RX11_27 dX11_store_36 rfl h1 r4 ?_
  refine xg_callVe 42 9 [_] _ kv_X9_readInto ⟨_, _, rfl⟩ kl_RX11_85 dX11_store_39 rfl kr (by omega) rfl rfl (Nat.le_of_ble_eq_true rfl) (by omega) ⟨by first | decide | omega, by first | decide | omega⟩ (ct_X9_readInto hScn9 hT he hA9 hSrd9 (by omega) c1.2.2.2.2.1 hS9 hI (c1.far (by decide) sb9) rfl) rfl (fun v9 h9 e9 => ?_)
  rw [hg] at e9
  obtain ⟨rfl, F3, I3, P3, Y3, w1, h53, hg3, hS3, hD3, rfl⟩ := e9
  obtain ⟨K3, g2, g3, g4, g5, g6⟩ := c1.act2 (s0 := 1) (x' := none) (by decide) sb9 hS3.sw (fun u hu => by cases hu) hD3 hg3
  have r93 : P3 o 9 = some (o + 117) := by rw [g2, c2]; exact p9
  refine xg_istoren 43 _ dX11_store_42 rfl rfl rfl (by decide) (Or.inr rfl) ?_
  refine xg_aloadn 44 dX11_store_43 rfl rfl rfl ?_
  refine xg_aloadn 45 dX11_store_44 rfl rfl rfl ?_
  refine xg_getP 48 kf_RX11_46 dX11_store_45 rfl h1 r93 ?_
  refine xg_getI 51 kf_RX11_89 dX11_store_48 rfl hScn.1 ?_
  refine xg_putI 54 kf_RX11_17 dX11_store_51 rfl h1 ?_
  refine xg_iloadn 55 dX11_store_54 rfl rfl rfl ?_
  refine xg_ifne 66 58 dX11_store_55 rfl rfl (by omega) (fun hb55 => ?_) (fun hb55 => ?_)
  · exfalso; omega
  · skip
    subst hX
    exact xg_throw kt_X11_store hTh (by decide) kfit_IAE kn_RX11_92 kini_IAE at_IAE dX11_store_58 dX11_store_61 dX11_store_62 dX11_store_65 (by omega) ⟨by first | decide | omega, by first | decide | omega⟩ (fun z9 hz9 => by
      obtain ⟨K5, M5⟩ := K3.fr (F' := upF F3 o 2 (F3 (o + 117) 5)) (I' := I3) (fun b hb => upF_na _ _ _ _ (by omega)) (fun _ _ => rfl) K3.2.2.2.2.1
      refine ⟨z9, _, _, _, _, rfl, hz9, ?_, g2.trans c2, ⟨?_, ?_, ?_, ?_⟩, g4.trans (c4.trans (hI2 (o + 1) (by omega))), ((M2.tr c5).tr g6).tr M5⟩
      · have e8 : wsU (wsU ws 1 (some w)) 1 none = wsU ws 1 none := by funext j; unfold wsU; by_cases e : j = 1 <;> simp [e]
        rw [← e8]; exact K5
      · rw [upF_nk _ _ _ _ (by decide), g3, c3, upF_at]
      · rw [upF_at, h53]
      · rw [upF_nk _ _ _ _ (by decide), g3, c3, upF_nk _ _ _ _ (by decide), hF2 o (by omega)]
      · rw [upF_nk _ _ _ _ (by decide), g3, c3, upF_nk _ _ _ _ (by decide), hF2 o (by omega)])

set_option maxHeartbeats 4000000 in
set_option maxRecDepth 100000 in
theorem cx_X11_store_2 {E : xE} {z : Nat} {T : Nat → Nat × Int} {F : Nat → Nat → Int} {I : Nat → Int → Int} {P : Nat → Nat → Option Nat} {Y : Nat → Int → Option Nat} {o m : Nat} {ws : Nat → Option wWo} (hL : LK T F I P Y o m z ws) (hT : ∀ j : Int, 0 ≤ j → j < 400 → 0 ≤ I (o + 1) j ∧ I (o + 1) j ≤ 255) (he : 0 ≤ F o 1 ∧ F o 1 ≤ 400) {qS v0 : Nat} (hSt : ∀ u : State, E.2.2.2.2 u → oStr E.2.2.2.1 qS v0 zTx u) {sio : Option Nat} (hZ : ∀ u : State, E.2.2.2.2 u → oSts E.2.2.2.1 sio u) {tx : String} (hR : ∀ u : State, E.2.2.2.2 u → vk_R RX7 52 tx qS u) {a b : Nat} {w : wWo} (h3 : P o 3 = some a) (h4 : P o 4 = some b) (hu : ws 0 = some w) {w' : wWo} (hg : gSto (I (o + 1)) (F o 1) w = .inr w') (hx : w 1 = 12) (hTh : xThr E "java/lang/UnsupportedOperationException") : CtX E 7 mX11_store 1 6 [.ref o] (z, T, F, I, P, Y) "java/lang/UnsupportedOperationException" (fun h' => ∃ (z' : Nat) (F' : Nat → Nat → Int) (I' : Nat → Int → Int) (P' : Nat → Nat → Option Nat) (Y' : Nat → Int → Option Nat), h' = (z', T, F', I', P', Y') ∧ z ≤ z' ∧ LK T F' I' P' Y' o m z (wsU ws 1 none) ∧ P' o = P o ∧ (F' o 1 = 0 ∧ F' o 2 = (-1) ∧ F' o 7 = F o 7 ∧ F' o 8 = F o 8) ∧ I' (o + 1) = I (o + 1) ∧ LF m T F I P Y T F' I' P' Y') := by
  have h1 : (T o).1 = 12 := hL.1.1
  obtain ⟨-, ⟨p0, t01, t02⟩, -, ⟨p9, hScn⟩, ⟨p10, hSrd⟩, ⟨p11, hLrd⟩, -⟩ := id hL.1
  obtain ⟨hS, hI, ka⟩ := hL.liv (s := 0) (by decide) h3 hu
  have kb : (T b).1 = 9 := (hL.2.2.1 1 b (by decide) h4).1.1.1
  have lb := hL.2.1.1 1 b (by decide) h4
  have kr : (T (o + 121)).1 = 10 := hSrd.1
  refine CtX.of [some (.ref o), none, none] kt_X11_store rfl (Nat.le_of_ble_eq_true rfl) rfl (fun d hd => ?_)
  generalize hX : xNX E _ _ _ _ = X
  refine xg_aloadn 1 dX11_store_0 rfl rfl rfl ?_
  refine xg_getP 4 kf_RX11_46 dX11_store_1 rfl h1 p9 ?_
  refine xg_aloadn 5 dX11_store_4 rfl rfl rfl ?_
  refine xg_getP 8 kf_RX11_9 dX11_store_5 rfl h1 p0 ?_
  refine xg_aloadn 9 dX11_store_8 rfl rfl rfl ?_
  refine xg_getI 12 kf_RX11_13 dX11_store_9 rfl h1 ?_
  refine xg_callVe 15 7 [_, _] _ kv_X7_open ⟨_, _, rfl⟩ kl_RX11_77 dX11_store_12 rfl hScn.1 (by omega) rfl rfl (Nat.le_of_ble_eq_true rfl) (by omega) ⟨by first | decide | omega, by first | decide | omega⟩ (ct_X7_open hScn ⟨t01, t02⟩ hT he (by omega) hSt hZ hR) rfl (fun v9 h9 e9 => ?_)
  obtain ⟨rfl, F2, I2, N2, rfl, hk2, ⟨h42, h52⟩, hF2, hI2⟩ := e9
  obtain ⟨K2, M2⟩ := hL.opn hF2 (fun b hb => hI2 b (by omega))
  refine xg_aloadn 16 dX11_store_15 rfl rfl rfl ?_
  refine xg_iconst 17 dX11_store_16 rfl ?_
  refine xg_putI 20 kf_RX11_13 dX11_store_17 rfl h1 ?_
  refine xg_aloadn 21 dX11_store_20 rfl rfl rfl ?_
  refine xg_getP 24 kf_RX11_27 dX11_store_21 rfl h1 h4 ?_
  refine xg_aloadn 25 dX11_store_24 rfl rfl rfl ?_
  refine xg_getP 28 kf_RX11_23 dX11_store_25 rfl h1 h3 ?_
  refine xg_callVe 31 8 [_] _ kv_X8_copyFrom ⟨_, _, rfl⟩ kl_RX11_81 dX11_store_28 rfl kb (by omega) rfl rfl (Nat.le_of_ble_eq_true rfl) (by omega) ⟨by first | decide | omega, by first | decide | omega⟩ ((K2.cpy (s0 := 1) (s1 := 0) (by decide) (by decide) (by decide) h4 h3 hu).1) rfl (fun v9 h9 e9 => ?_)
  obtain ⟨rfl, F9, I9, P9, rfl, hS9, hF9, h169⟩ := e9
  obtain ⟨c1, c2, c3, c4, c5⟩ := K2.copy (s0 := 1) (s1 := 0) (by decide) (by decide) (by decide) h4 h3 hu hS9 hI hF9 h169
  have r4 : P9 o 4 = some b := by rw [c2]; exact h4
  have r10 : P9 o 10 = some (o + 121) := by rw [c2]; exact p10
  obtain ⟨-, -, -, ⟨-, hScn9⟩, ⟨-, hSrd9⟩, -⟩ := id c1.1
  have sb9 : lSl o P9 Y 1 = some b := r4
  have hk9 : zTok (I (o + 1)) (F o 1) F9 I9 (o + 117) N2 := hk2.fw (by rw [(hF9 (o + 117) (by omega)).1, upF_na _ _ _ _ (by omega)]) (fun x x0 x1 => (hF9 x (by omega)).2.1)
  have hA9 : cAt (I (o + 1)) (F o 1) F9 I9 (o + 117) N2 0 (zB (I (o + 1)) (F o 1) 0) := ⟨hk9, by rw [(hF9 (o + 117) (by omega)).1, upF_na _ _ _ _ (by omega)]; exact h42, by rw [(hF9 (o + 117) (by omega)).1, upF_na _ _ _ _ (by omega)]; exact h52, Nat.zero_le _, rfl⟩
  refine xg_aloadn 32 dX11_store_31 rfl rfl rfl ?_
  refine xg_getP 35 kf_RX11_55 dX11_store_32 rfl h1 r10 ?_
  refine xg_aloadn 36 dX11_store_35 rfl rfl rfl ?_
  refine xg_getP 39 kf_RX11_27 dX11_store_36 rfl h1 r4 ?_
  refine xg_callVe 42 9 [_] _ kv_X9_readInto ⟨_, _, rfl⟩ kl_RX11_85 dX11_store_39 rfl kr (by omega) rfl rfl (Nat.le_of_ble_eq_true rfl) (by omega) ⟨by first | decide | omega, by first | decide | omega⟩ (ct_X9_readInto hScn9 hT he hA9 hSrd9 (by omega) c1.2.2.2.2.1 hS9 hI (c1.far (by decide) sb9) rfl) rfl (fun v9 h9 e9 => ?_)
  rw [hg] at e9
  obtain ⟨rfl, F3, I3, P3, Y3, h53, hg3, hS3, hD3, rfl⟩ := e9
  obtain ⟨K3, g2, g3, g4, g5, g6⟩ := c1.act2 (s0 := 1) (x' := none) (by decide) sb9 hS3.sw (fun u hu => by cases hu) hD3 hg3
  have r93 : P3 o 9 = some (o + 117) := by rw [g2, c2]; exact p9
  have r33 : P3 o 3 = some a := by rw [g2, c2]; exact h3
  have hS30 := (K3.liv (s := 0) (by decide) r33 (show wsU (wsU ws 1 (some w)) 1 none 0 = some w from hu)).1
  obtain ⟨-, -, ⟨π0, -, ⟨hSc0, -⟩, -⟩, -⟩ := id hS30
  have a15 : F3 a 15 = w 1 := hSc0.2.2.2.2.2.2.2
  have la := hL.2.1.1 0 a (by decide) h3
  refine xg_istoren 43 _ dX11_store_42 rfl rfl rfl (by decide) (Or.inr rfl) ?_
  refine xg_aloadn 44 dX11_store_43 rfl rfl rfl ?_
  refine xg_aloadn 45 dX11_store_44 rfl rfl rfl ?_
  refine xg_getP 48 kf_RX11_46 dX11_store_45 rfl h1 r93 ?_
  refine xg_getI 51 kf_RX11_89 dX11_store_48 rfl hScn.1 ?_
  refine xg_putI 54 kf_RX11_17 dX11_store_51 rfl h1 ?_
  refine xg_iloadn 55 dX11_store_54 rfl rfl rfl ?_
  refine xg_ifne 66 58 dX11_store_55 rfl rfl (by omega) (fun hb55 => ?_) (fun hb55 => ?_)
  · skip
    refine xg_aloadn 67 dX11_store_66 rfl rfl rfl ?_
    refine xg_getP 70 kf_RX11_23 dX11_store_67 rfl h1 r33 ?_
    refine xg_getI 73 kf_RX11_95 dX11_store_70 rfl ka ?_
    rw [upF_na _ _ _ _ (show a ≠ o by omega), a15]
    refine xg_bipush 75 dX11_store_73 rfl (by decide) ?_
    refine xg_iclt 86 78 dX11_store_75 rfl rfl (by omega) (fun hb75 => ?_) (fun hb75 => ?_)
    · exfalso; omega
    · skip
      subst hX
      exact xg_throw kt_X11_store hTh (by decide) kfit_UOE kn_RX11_98 kini_UOE at_UOE dX11_store_78 dX11_store_81 dX11_store_82 dX11_store_85 (by omega) ⟨by first | decide | omega, by first | decide | omega⟩ (fun z9 hz9 => by
        obtain ⟨K5, M5⟩ := K3.fr (F' := upF F3 o 2 (F3 (o + 117) 5)) (I' := I3) (fun b hb => upF_na _ _ _ _ (by omega)) (fun _ _ => rfl) K3.2.2.2.2.1
        refine ⟨z9, _, _, _, _, rfl, hz9, ?_, g2.trans c2, ⟨?_, ?_, ?_, ?_⟩, g4.trans (c4.trans (hI2 (o + 1) (by omega))), ((M2.tr c5).tr g6).tr M5⟩
        · have e8 : wsU (wsU ws 1 (some w)) 1 none = wsU ws 1 none := by funext j; unfold wsU; by_cases e : j = 1 <;> simp [e]
          rw [← e8]; exact K5
        · rw [upF_nk _ _ _ _ (by decide), g3, c3, upF_at]
        · rw [upF_at, h53]
        · rw [upF_nk _ _ _ _ (by decide), g3, c3, upF_nk _ _ _ _ (by decide), hF2 o (by omega)]
        · rw [upF_nk _ _ _ _ (by decide), g3, c3, upF_nk _ _ _ _ (by decide), hF2 o (by omega)])
  · exfalso; omega

set_option maxHeartbeats 4000000 in
set_option maxRecDepth 100000 in
theorem cx_X11_law_1 {E : xE} {z : Nat} {T : Nat → Nat × Int} {F : Nat → Nat → Int} {I : Nat → Int → Int} {P : Nat → Nat → Option Nat} {Y : Nat → Int → Option Nat} {o m : Nat} {ws : Nat → Option wWo} (hL : LK T F I P Y o m z ws) (hT : ∀ j : Int, 0 ≤ j → j < 400 → 0 ≤ I (o + 1) j ∧ I (o + 1) j ≤ 255) (he : 0 ≤ F o 1 ∧ F o 1 ≤ 400) {qS v0 : Nat} (hSt : ∀ u : State, E.2.2.2.2 u → oStr E.2.2.2.1 qS v0 zTx u) {sio : Option Nat} (hZ : ∀ u : State, E.2.2.2.2 u → oSts E.2.2.2.1 sio u) {tx : String} (hR : ∀ u : State, E.2.2.2.2 u → vk_R RX7 52 tx qS u) {a b : Nat} {w : wWo} (h3 : P o 3 = some a) (h4 : P o 4 = some b) (hu : ws 0 = some w) {f : Int} (hg : gLaw (I (o + 1)) (F o 1) = .inl f) (hTh : xThr E "java/lang/IllegalArgumentException") : CtX E 48 mX11_law 1 6 [.ref o] (z, T, F, I, P, Y) "java/lang/IllegalArgumentException" (fun h' => ∃ (z' : Nat) (F' : Nat → Nat → Int) (I' : Nat → Int → Int) (P' : Nat → Nat → Option Nat) (Y' : Nat → Int → Option Nat), h' = (z', T, F', I', P', Y') ∧ z ≤ z' ∧ LK T F' I' P' Y' o m z ws ∧ P' o = P o ∧ (F' o 1 = 0 ∧ F' o 2 = f ∧ F' o 7 = F o 7 ∧ F' o 8 = F o 8) ∧ I' (o + 1) = I (o + 1) ∧ LF m T F I P Y T F' I' P' Y') := by
  have h1 : (T o).1 = 12 := hL.1.1
  obtain ⟨-, ⟨p0, t01, t02⟩, -, ⟨p9, hScn⟩, ⟨p10, hSrd⟩, ⟨p11, hLrd⟩, -⟩ := id hL.1
  obtain ⟨hS, hI, ka⟩ := hL.liv (s := 0) (by decide) h3 hu
  have kb : (T b).1 = 9 := (hL.2.2.1 1 b (by decide) h4).1.1.1
  have lb := hL.2.1.1 1 b (by decide) h4
  have kr : (T (o + 121)).1 = 10 := hSrd.1
  have hz := hL.2.2.2.2.2.1
  have kl : (T (o + 124)).1 = 5 := hLrd.1
  refine CtX.of [some (.ref o), none] kt_X11_law rfl (Nat.le_of_ble_eq_true rfl) rfl (fun d hd => ?_)
  generalize hX : xNX E _ _ _ _ = X
  refine xg_aloadn 1 dX11_law_0 rfl rfl rfl ?_
  refine xg_getP 4 kf_RX11_46 dX11_law_1 rfl h1 p9 ?_
  refine xg_aloadn 5 dX11_law_4 rfl rfl rfl ?_
  refine xg_getP 8 kf_RX11_9 dX11_law_5 rfl h1 p0 ?_
  refine xg_aloadn 9 dX11_law_8 rfl rfl rfl ?_
  refine xg_getI 12 kf_RX11_13 dX11_law_9 rfl h1 ?_
  refine xg_callVe 15 7 [_, _] _ kv_X7_open ⟨_, _, rfl⟩ kl_RX11_77 dX11_law_12 rfl hScn.1 (by omega) rfl rfl (Nat.le_of_ble_eq_true rfl) (by omega) ⟨by first | decide | omega, by first | decide | omega⟩ (ct_X7_open hScn ⟨t01, t02⟩ hT he (by omega) hSt hZ hR) rfl (fun v9 h9 e9 => ?_)
  obtain ⟨rfl, F2, I2, N2, rfl, hk2, ⟨h42, h52⟩, hF2, hI2⟩ := e9
  obtain ⟨K2, M2⟩ := hL.opn hF2 (fun b hb => hI2 b (by omega))
  refine xg_aloadn 16 dX11_law_15 rfl rfl rfl ?_
  refine xg_iconst 17 dX11_law_16 rfl ?_
  refine xg_putI 20 kf_RX11_13 dX11_law_17 rfl h1 ?_
  refine xg_aloadn 21 dX11_law_20 rfl rfl rfl ?_
  refine xg_getP 24 kf_RX11_62 dX11_law_21 rfl h1 p11 ?_
  refine xg_callVe 27 4 [] _ kv_X4_readAll ⟨_, _, rfl⟩ kl_RX11_104 dX11_law_24 rfl kl (by omega) rfl rfl (Nat.le_of_ble_eq_true rfl) (by omega) ⟨by first | decide | omega, by first | decide | omega⟩ (ct_X4_readAll hScn (hk2.fw (by rw [upF_na _ _ _ _ (by omega)]) (fun _ _ _ => rfl)) hT he (by omega) hLrd (by rw [upF_na _ _ _ _ (by omega)]; exact h42) (by rw [upF_na _ _ _ _ (by omega)]; exact h52)) rfl (fun v9 h9 e9 => ?_)
  rw [hg] at e9
  obtain ⟨rfl, F3, I3, h53, hF3, hI3, rfl⟩ := e9
  refine xg_istoren 28 _ dX11_law_27 rfl rfl rfl (by decide) (Or.inr rfl) ?_
  refine xg_aloadn 29 dX11_law_28 rfl rfl rfl ?_
  refine xg_aloadn 30 dX11_law_29 rfl rfl rfl ?_
  refine xg_getP 33 kf_RX11_46 dX11_law_30 rfl h1 p9 ?_
  refine xg_getI 36 kf_RX11_89 dX11_law_33 rfl hScn.1 ?_
  refine xg_putI 39 kf_RX11_17 dX11_law_36 rfl h1 ?_
  refine xg_iloadn 40 dX11_law_39 rfl rfl rfl ?_
  refine xg_ifne 51 43 dX11_law_40 rfl rfl (by omega) (fun hb40 => ?_) (fun hb40 => ?_)
  · exfalso; omega
  · skip
    subst hX
    exact xg_throw kt_X11_law hTh (by decide) kfit_IAE kn_RX11_92 kini_IAE at_IAE dX11_law_43 dX11_law_46 dX11_law_47 dX11_law_50 (by omega) ⟨by first | decide | omega, by first | decide | omega⟩ (fun z9 hz9 => by
      obtain ⟨K3, M3⟩ := K2.fr (F' := upF F3 o 2 (F3 (o + 117) 5)) (I' := I3) (fun b hb => by rw [upF_na _ _ _ _ (by omega)]; exact hF3 b (by omega) (by omega)) (fun b hb => hI3 b (by omega)) (K2.2.2.2.2.1.fr (hI3 _ (by omega)) (hI3 _ (by omega)))
      refine ⟨z9, _, _, _, _, rfl, hz9, K3, rfl, ⟨?_, ?_, ?_, ?_⟩, (hI3 (o + 1) (by omega)).trans (hI2 (o + 1) (by omega)), M2.tr M3⟩
      · rw [upF_nk _ _ _ _ (by decide), hF3 o (by omega) (by omega), upF_at]
      · rw [upF_at, h53]
      · rw [upF_nk _ _ _ _ (by decide), hF3 o (by omega) (by omega), upF_nk _ _ _ _ (by decide), hF2 o (by omega)]
      · rw [upF_nk _ _ _ _ (by decide), hF3 o (by omega) (by omega), upF_nk _ _ _ _ (by decide), hF2 o (by omega)])

