theorem rLaw_n {T : Nat → Nat × Int} {F : Nat → Nat → Int} {I : Nat → Int → Int} {P : Nat → Nat → Option Nat} {l : Nat} {w : Int → Int} (h : rLaw T F I P l w) : F l 0 = w 1903 := by
  unfold rLaw at h
  simp only [and_assoc] at h
  simp_all
set_option maxHeartbeats 4000000 in
set_option maxRecDepth 100000 in
theorem ct_X2_rowsOf2 {E : xE} {z : Nat} {T : Nat → Nat × Int} {F : Nat → Nat → Int} {I : Nat → Int → Int} {P : Nat → Nat → Option Nat} {Y : Nat → Int → Option Nat} {a : Nat} {x : Int} (hw : wJou T P a) (h4 : 0 ≤ F a 4 ∧ F a 4 < 60) (h5 : 0 ≤ F a 5 ∧ F a 5 ≤ 60) (hI : ∀ k : Int, -2147483648 ≤ sTold5 F I a k 1 ∧ sTold5 F I a k 1 < 2147483648) (hx : -2147483648 ≤ x ∧ x < 2147483648) : Ct E 1 mX2_rowsOf 0 0 [.ref a, J x] (z, T, F, I, P, Y) (xd (some (J (sRws5 F I a x (F a 5).toNat))) (z, T, F, I, P, Y)) := by
  obtain ⟨w0, -⟩ := id hw
  refine Ct.of [some (.ref a), some (J x), none, none] kt_X2_rowsOf rfl (Nat.le_of_ble_eq_true rfl) rfl (fun d hd => ?_)
  generalize hX : xN E _ _ _ = X
  refine xg_iconst 1 dX2_rowsOf_0 rfl ?_
  refine xg_istoren 2 _ dX2_rowsOf_1 rfl rfl rfl (by decide) (Or.inr rfl) ?_
  refine xg_iconst 3 dX2_rowsOf_2 rfl ?_
  refine xg_istoren 4 _ dX2_rowsOf_3 rfl rfl rfl (by decide) (Or.inr rfl) ?_
  have loop4 : ∀ (mm : Nat) (k : Nat) (n : Int), (k : Int) ≤ F a 5 → n = sRws5 F I a x k → F a 5 - (k : Int) < (mm : Int) → xG E mX2_rowsOf (xR d 0 0) X 4 [some (.ref a), some (J x), some (J n), some (J (k : Int))] [] (z, T, F, I, P, Y) 0 0 := by
    intro mm
    induction mm with
    | zero => intro k n hk hn hm; exfalso; omega
    | succ mm ih =>
      intro k n hk hn hm
      have htr := hI (k : Int)
      refine xg_iloadn 5 dX2_rowsOf_4 rfl rfl rfl ?_
      refine xg_aloadn 6 dX2_rowsOf_5 rfl rfl rfl ?_
      refine xg_getI 9 kf_RX2_28 dX2_rowsOf_6 rfl (by assumption) ?_
      refine xg_icge 31 12 dX2_rowsOf_9 rfl rfl (by omega) (fun hb9 => ?_) (fun hb9 => ?_)
      · skip
        refine xg_iloadn 32 dX2_rowsOf_31 rfl rfl rfl ?_
        subst hX
        exact xg_ireturn dX2_rowsOf_32 rfl ⟨Nat.le_refl _, Nat.le_refl _⟩ ⟨by rw [hn, show k = (F a 5).toNat by omega], rfl⟩
      · skip
        refine xg_aloadn 13 dX2_rowsOf_12 rfl rfl rfl ?_
        refine xg_iloadn 14 dX2_rowsOf_13 rfl rfl rfl ?_
        refine xg_iconst 15 dX2_rowsOf_14 rfl ?_
        refine xg_callV 18 2 [_, _] _ kv_X2_told ⟨_, _, rfl⟩ kl_RX2_31 dX2_rowsOf_15 rfl (by assumption) (by omega) rfl rfl (Nat.le_of_ble_eq_true rfl) (by omega) ⟨Nat.le_refl _, Nat.le_refl _⟩ (ct_X2_told hw h4 h5 (by omega) (by omega)) rfl ?_
        refine xg_iloadn 19 dX2_rowsOf_18 rfl rfl rfl ?_
        refine xg_icne 25 22 dX2_rowsOf_19 rfl rfl (by omega) (fun hb19 => ?_) (fun hb19 => ?_)
        · skip
          refine xg_iinc 28 _ dX2_rowsOf_25 rfl rfl rfl rfl (by decide) (Or.inr rfl) ?_
          refine xg_goto 4 dX2_rowsOf_28 rfl ?_
          exact xg_weak _ (xle_s rfl (xle_s rfl (xle_s rfl (xle_s rfl xle_0)))) (ih (k + 1) _ (by omega) (by rw [sRws5, pSum_s, if_neg hb19, hn, sRws5, Int.add_zero]) (by omega))
        · skip
          refine xg_iinc 25 _ dX2_rowsOf_22 rfl rfl rfl rfl (by decide) (Or.inr rfl) ?_
          refine xg_iinc 28 _ dX2_rowsOf_25 rfl rfl rfl rfl (by decide) (Or.inr rfl) ?_
          refine xg_goto 4 dX2_rowsOf_28 rfl ?_
          exact xg_weak _ (xle_s rfl (xle_s rfl (xle_s rfl (xle_s rfl xle_0)))) (ih (k + 1) _ (by omega) (by rw [sRws5, pSum_s, if_pos (by omega), hn, sRws5]) (by omega))
  exact xg_weak _ (xle_s rfl (xle_s rfl (xle_s rfl (xle_s rfl xle_0)))) (loop4 61 0 0 (by omega) rfl (by omega))

set_option maxHeartbeats 4000000 in
set_option maxRecDepth 100000 in
theorem ct_X2_latestTick2 {E : xE} {z : Nat} {T : Nat → Nat × Int} {F : Nat → Nat → Int} {I : Nat → Int → Int} {P : Nat → Nat → Option Nat} {Y : Nat → Int → Option Nat} {a : Nat} {x : Int} (hw : wJou T P a) (h4 : 0 ≤ F a 4 ∧ F a 4 < 60) (h5 : 0 ≤ F a 5 ∧ F a 5 ≤ 60) (hI : ∀ k : Int, -2147483648 ≤ sTold5 F I a k 1 ∧ sTold5 F I a k 1 < 2147483648) (hx : -2147483648 ≤ x ∧ x < 2147483648) : Ct E 1 mX2_latestTick 0 0 [.ref a, J x] (z, T, F, I, P, Y) (xd (some (J (sLat5 F I a x (F a 5).toNat 0))) (z, T, F, I, P, Y)) := by
  obtain ⟨w0, -⟩ := id hw
  refine Ct.of [some (.ref a), some (J x), none] kt_X2_latestTick rfl (Nat.le_of_ble_eq_true rfl) rfl (fun d hd => ?_)
  generalize hX : xN E _ _ _ = X
  refine xg_iconst 1 dX2_latestTick_0 rfl ?_
  refine xg_istoren 2 _ dX2_latestTick_1 rfl rfl rfl (by decide) (Or.inr rfl) ?_
  have loop2 : ∀ (mm : Nat) (k n : Nat), ((k : Int) + n = F a 5 ∧ sLat5 F I a x n k = sLat5 F I a x (F a 5).toNat 0) → F a 5 - (k : Int) < (mm : Int) → xG E mX2_latestTick (xR d 0 0) X 2 [some (.ref a), some (J x), some (J (k : Int))] [] (z, T, F, I, P, Y) 0 0 := by
    intro mm
    induction mm with
    | zero => intro k n hk hm; exfalso; omega
    | succ mm ih =>
      intro k n hk hm
      have htr := hI (k : Int)
      refine xg_iloadn 3 dX2_latestTick_2 rfl rfl rfl ?_
      refine xg_aloadn 4 dX2_latestTick_3 rfl rfl rfl ?_
      refine xg_getI 7 kf_RX2_28 dX2_latestTick_4 rfl (by assumption) ?_
      refine xg_icge 33 10 dX2_latestTick_7 rfl rfl (by omega) (fun hb7 => ?_) (fun hb7 => ?_)
      · skip
        refine xg_iconst 34 dX2_latestTick_33 rfl ?_
        subst hX
        exact xg_ireturn dX2_latestTick_34 rfl ⟨Nat.le_refl _, Nat.le_refl _⟩ ⟨by rw [← hk.2, show n = 0 by omega]; rfl, rfl⟩
      · skip
        refine xg_aloadn 11 dX2_latestTick_10 rfl rfl rfl ?_
        refine xg_iloadn 12 dX2_latestTick_11 rfl rfl rfl ?_
        refine xg_iconst 13 dX2_latestTick_12 rfl ?_
        refine xg_callV 16 2 [_, _] _ kv_X2_told ⟨_, _, rfl⟩ kl_RX2_31 dX2_latestTick_13 rfl (by assumption) (by omega) rfl rfl (Nat.le_of_ble_eq_true rfl) (by omega) ⟨Nat.le_refl _, Nat.le_refl _⟩ (ct_X2_told hw h4 h5 (by omega) (by omega)) rfl ?_
        refine xg_iloadn 17 dX2_latestTick_16 rfl rfl rfl ?_
        refine xg_icne 27 20 dX2_latestTick_17 rfl rfl (by omega) (fun hb17 => ?_) (fun hb17 => ?_)
        · skip
          refine xg_iinc 30 _ dX2_latestTick_27 rfl rfl rfl rfl (by decide) (Or.inr rfl) ?_
          refine xg_goto 2 dX2_latestTick_30 rfl ?_
          obtain ⟨n, rfl⟩ : ∃ n9, n = n9 + 1 := ⟨n - 1, by omega⟩
          exact xg_weak _ (xle_s rfl (xle_s rfl (xle_s rfl xle_0))) (ih (k + 1) n ⟨by omega, by rw [← hk.2, sLat5, if_neg hb17]; rfl⟩ (by omega))
        · skip
          refine xg_aloadn 21 dX2_latestTick_20 rfl rfl rfl ?_
          refine xg_iloadn 22 dX2_latestTick_21 rfl rfl rfl ?_
          refine xg_iconst 23 dX2_latestTick_22 rfl ?_
          refine xg_callV 26 2 [_, _] _ kv_X2_told ⟨_, _, rfl⟩ kl_RX2_31 dX2_latestTick_23 rfl (by assumption) (by omega) rfl rfl (Nat.le_of_ble_eq_true rfl) (by omega) ⟨Nat.le_refl _, Nat.le_refl _⟩ (ct_X2_told hw h4 h5 (by omega) (by omega)) rfl ?_
          subst hX
          refine xg_ireturn dX2_latestTick_26 rfl ⟨Nat.le_refl _, Nat.le_refl _⟩ ?_
          obtain ⟨n, rfl⟩ : ∃ n9, n = n9 + 1 := ⟨n - 1, by omega⟩
          exact ⟨by rw [← hk.2, sLat5, if_pos (by omega)], rfl⟩
  exact xg_weak _ (xle_s rfl (xle_s rfl (xle_s rfl xle_0))) (loop2 61 0 (F a 5).toNat ⟨by omega, rfl⟩ (by omega))

theorem told_r {F : Nat → Nat → Int} {I : Nat → Int → Int} {a : Nat} {w : Int → Int} (h : rJo F I a w) (hR : w32 w) (k : Int) : -2147483648 ≤ sTold5 F I (a + 51) k 1 ∧ sTold5 F I (a + 51) k 1 < 2147483648 := by
  have h1 := told_w h (k := k) (c := 1) (by decide)
  rw [show ((1 : Nat) : Int) = 1 from rfl] at h1
  rw [h1]
  split
  · exact hR _
  · omega
set_option maxHeartbeats 4000000 in
set_option maxRecDepth 100000 in
theorem ct_X11_led2 {E : xE} {z : Nat} {T : Nat → Nat × Int} {F : Nat → Nat → Int} {I : Nat → Int → Int} {P : Nat → Nat → Option Nat} {Y : Nat → Int → Option Nat} {o a : Nat} {w : Int → Int} (h1 : (T o).1 = 12) (h3 : P o 3 = some a) (hS : SR T F I P Y a w) {v : Int} {b : Bool} (hb : 0 ≤ v ∧ v ≤ 3) : Ct E 2 mX11_led 0 0 [.ref o, J v, J (bI b)] (z, T, F, I, P, Y) (xd (some (J (if b = true then (sLed w v (w 14).toNat (w 14).toNat).2 else (sLed w v (w 14).toNat (w 14).toNat).1))) (z, T, F, I, P, Y)) := by
  have hO := hS.1.1
  have o0 := hO.2.1
  obtain ⟨hGd, hLw, ⟨π, ⟨hSt, hPm⟩, ⟨hSc, hTl, hJb⟩, hRun, hTab, hOut, hJo⟩, hLv, hLf⟩ := id hS
  obtain ⟨⟨st9, s0, s01, s02⟩, hRows, ⟨s4, s44⟩, ⟨s5, l9, ⟨l0, l1, l2, l3⟩, ⟨l01, l02⟩, ⟨l11, l12⟩, ⟨l21, l22⟩, l31, l32⟩, ⟨s6, s50⟩, ⟨s7, hJou⟩, -⟩ := id hSt
  have p5 : ∀ j : Nat, j < 14 → π j < 14 := hPm.2.2.2.1
  have hw0 : F a 1 = w 0 := hSc.1
  have hj4 := hJo.2.1
  have hj5 : F (a + 51) 5 = w 14 := hJo.1
  have o14 := hO.2.2.2.2.2.2.2.2.2.2.1
  have hn14 : ((w 14).toNat : Int) = w 14 := by omega
  have hj2 := told_r hJo hO.1
  refine Ct.of [some (.ref o), some (J v), some (J (bI b))] kt_X11_led rfl (Nat.le_of_ble_eq_true rfl) rfl (fun d hd => ?_)
  generalize hX : xN E _ _ _ = X
  refine xg_iloadn 1 dX11_led_0 rfl rfl rfl ?_
  refine xg_iflt 9 4 dX11_led_1 rfl rfl (by omega) (fun hb1 => ?_) (fun hb1 => ?_)
  · exfalso; omega
  · skip
    refine xg_iloadn 5 dX11_led_4 rfl rfl rfl ?_
    refine xg_iconst 6 dX11_led_5 rfl ?_
    refine xg_icle 17 9 dX11_led_6 rfl rfl (by omega) (fun hb6 => ?_) (fun hb6 => ?_)
    · skip
      refine xg_iloadn 18 dX11_led_17 rfl rfl rfl ?_
      refine xg_beq 35 21 dX11_led_18 rfl rfl (fun hb18 => ?_) (fun hb18 => ?_)
      · skip
        refine xg_aloadn 36 dX11_led_35 rfl rfl rfl ?_
        refine xg_getP 39 kf_RX11_23 dX11_led_36 rfl h1 h3 ?_
        refine xg_getP 42 kf_RX11_366 dX11_led_39 rfl st9 s7 ?_
        refine xg_iloadn 43 dX11_led_42 rfl rfl rfl ?_
        refine xg_callV 46 2 [_] _ kv_X2_rowsOf ⟨_, _, rfl⟩ kl_RX11_375 dX11_led_43 rfl hJou.1 (by omega) rfl rfl (Nat.le_of_ble_eq_true rfl) (by omega) ⟨Nat.le_refl _, Nat.le_refl _⟩ (ct_X2_rowsOf2 hJou (by omega) (by omega) hj2 (by omega)) rfl ?_
        subst hX
        exact xg_ireturn dX11_led_46 rfl ⟨Nat.le_refl _, Nat.le_refl _⟩ ⟨by rw [if_neg (by simp_all), led_1 hJo (x := v) hn14 _ (Nat.le_refl _), Nat.sub_self, pSum_0, Int.sub_zero, hj5]; rfl, rfl⟩
      · skip
        refine xg_aloadn 22 dX11_led_21 rfl rfl rfl ?_
        refine xg_getP 25 kf_RX11_23 dX11_led_22 rfl h1 h3 ?_
        refine xg_getP 28 kf_RX11_366 dX11_led_25 rfl st9 s7 ?_
        refine xg_iloadn 29 dX11_led_28 rfl rfl rfl ?_
        refine xg_callV 32 2 [_] _ kv_X2_latestTick ⟨_, _, rfl⟩ kl_RX11_370 dX11_led_29 rfl hJou.1 (by omega) rfl rfl (Nat.le_of_ble_eq_true rfl) (by omega) ⟨Nat.le_refl _, Nat.le_refl _⟩ (ct_X2_latestTick2 hJou (by omega) (by omega) hj2 (by omega)) rfl ?_
        refine xg_goto 46 dX11_led_32 rfl ?_
        subst hX
        exact xg_ireturn dX11_led_46 rfl ⟨Nat.le_refl _, Nat.le_refl _⟩ ⟨by rw [if_pos (by assumption), led_2 hJo (x := v) hn14 _ (Nat.le_refl _), Nat.sub_self, hj5]; rfl, rfl⟩
    · exfalso; omega

theorem dX11_counted_0 : decode cX11_counted 0 = .ok (.iload_n 1, 1) := by decide +kernel
theorem dX11_counted_1 : decode cX11_counted 1 = .ok (.tableswitch 141 8 16 #[51, 62, 73, 84, 95, 106, 117, 125, 136], 51) := by decide +kernel
theorem dX11_counted_52 : decode cX11_counted 52 = .ok (.aload_n 0, 1) := by decide +kernel
theorem dX11_counted_53 : decode cX11_counted 53 = .ok (.getfield 23, 3) := by decide +kernel
theorem dX11_counted_56 : decode cX11_counted 56 = .ok (.getfield 287, 3) := by decide +kernel
theorem dX11_counted_59 : decode cX11_counted 59 = .ok (.getfield 384, 3) := by decide +kernel
theorem dX11_counted_62 : decode cX11_counted 62 = .ok (.ireturn, 1) := by decide +kernel
theorem dX11_counted_63 : decode cX11_counted 63 = .ok (.aload_n 0, 1) := by decide +kernel
theorem dX11_counted_64 : decode cX11_counted 64 = .ok (.getfield 23, 3) := by decide +kernel
theorem dX11_counted_67 : decode cX11_counted 67 = .ok (.getfield 287, 3) := by decide +kernel
theorem dX11_counted_70 : decode cX11_counted 70 = .ok (.getfield 291, 3) := by decide +kernel
theorem dX11_counted_73 : decode cX11_counted 73 = .ok (.ireturn, 1) := by decide +kernel
theorem dX11_counted_74 : decode cX11_counted 74 = .ok (.aload_n 0, 1) := by decide +kernel
theorem dX11_counted_75 : decode cX11_counted 75 = .ok (.getfield 23, 3) := by decide +kernel
theorem dX11_counted_78 : decode cX11_counted 78 = .ok (.getfield 287, 3) := by decide +kernel
theorem dX11_counted_81 : decode cX11_counted 81 = .ok (.getfield 296, 3) := by decide +kernel
theorem dX11_counted_84 : decode cX11_counted 84 = .ok (.ireturn, 1) := by decide +kernel
theorem dX11_counted_85 : decode cX11_counted 85 = .ok (.aload_n 0, 1) := by decide +kernel
theorem dX11_counted_86 : decode cX11_counted 86 = .ok (.getfield 23, 3) := by decide +kernel
theorem dX11_counted_89 : decode cX11_counted 89 = .ok (.getfield 287, 3) := by decide +kernel
theorem dX11_counted_92 : decode cX11_counted 92 = .ok (.getfield 357, 3) := by decide +kernel
theorem dX11_counted_95 : decode cX11_counted 95 = .ok (.ireturn, 1) := by decide +kernel
theorem dX11_counted_96 : decode cX11_counted 96 = .ok (.aload_n 0, 1) := by decide +kernel
theorem dX11_counted_97 : decode cX11_counted 97 = .ok (.getfield 23, 3) := by decide +kernel
theorem dX11_counted_100 : decode cX11_counted 100 = .ok (.getfield 287, 3) := by decide +kernel
theorem dX11_counted_103 : decode cX11_counted 103 = .ok (.getfield 387, 3) := by decide +kernel
theorem dX11_counted_106 : decode cX11_counted 106 = .ok (.ireturn, 1) := by decide +kernel
theorem dX11_counted_107 : decode cX11_counted 107 = .ok (.aload_n 0, 1) := by decide +kernel
theorem dX11_counted_108 : decode cX11_counted 108 = .ok (.getfield 23, 3) := by decide +kernel
theorem dX11_counted_111 : decode cX11_counted 111 = .ok (.getfield 287, 3) := by decide +kernel
theorem dX11_counted_114 : decode cX11_counted 114 = .ok (.getfield 360, 3) := by decide +kernel
theorem dX11_counted_117 : decode cX11_counted 117 = .ok (.ireturn, 1) := by decide +kernel
theorem dX11_counted_118 : decode cX11_counted 118 = .ok (.aload_n 0, 1) := by decide +kernel
theorem dX11_counted_119 : decode cX11_counted 119 = .ok (.getfield 23, 3) := by decide +kernel
theorem dX11_counted_122 : decode cX11_counted 122 = .ok (.getfield 390, 3) := by decide +kernel
theorem dX11_counted_125 : decode cX11_counted 125 = .ok (.ireturn, 1) := by decide +kernel
theorem dX11_counted_126 : decode cX11_counted 126 = .ok (.aload_n 0, 1) := by decide +kernel
theorem dX11_counted_127 : decode cX11_counted 127 = .ok (.getfield 23, 3) := by decide +kernel
theorem dX11_counted_130 : decode cX11_counted 130 = .ok (.getfield 366, 3) := by decide +kernel
theorem dX11_counted_133 : decode cX11_counted 133 = .ok (.getfield 393, 3) := by decide +kernel
theorem dX11_counted_136 : decode cX11_counted 136 = .ok (.ireturn, 1) := by decide +kernel
theorem dX11_counted_137 : decode cX11_counted 137 = .ok (.aload_n 0, 1) := by decide +kernel
theorem dX11_counted_138 : decode cX11_counted 138 = .ok (.getfield 40, 3) := by decide +kernel
theorem dX11_counted_141 : decode cX11_counted 141 = .ok (.ireturn, 1) := by decide +kernel
theorem dX11_counted_142 : decode cX11_counted 142 = .ok (.iconst (-1), 1) := by decide +kernel
theorem dX11_counted_143 : decode cX11_counted 143 = .ok (.ireturn, 1) := by decide +kernel
set_option maxHeartbeats 4000000 in
set_option maxRecDepth 100000 in
theorem ct_X11_counted {E : xE} {z : Nat} {T : Nat → Nat × Int} {F : Nat → Nat → Int} {I : Nat → Int → Int} {P : Nat → Nat → Option Nat} {Y : Nat → Int → Option Nat} {o a : Nat} {w : Int → Int} (h1 : (T o).1 = 12) (h3 : P o 3 = some a) (hS : SR T F I P Y a w) {v : Int} (hv : -2147483648 ≤ v ∧ v < 2147483648) (hv8 : v < 0 ∨ 7 < v) : Ct E 0 mX11_counted 0 0 [.ref o, J v] (z, T, F, I, P, Y) (xd (some (J (sCountA w (F o 8) v))) (z, T, F, I, P, Y)) := by
  have hO := hS.1.1
  have o0 := hO.2.1
  obtain ⟨hGd, hLw, ⟨π, ⟨hSt, hPm⟩, ⟨hSc, hTl, hJb⟩, hRun, hTab, hOut, hJo⟩, hLv, hLf⟩ := id hS
  obtain ⟨⟨st9, s0, s01, s02⟩, hRows, ⟨s4, s44⟩, ⟨s5, l9, ⟨l0, l1, l2, l3⟩, ⟨l01, l02⟩, ⟨l11, l12⟩, ⟨l21, l22⟩, l31, l32⟩, ⟨s6, s50⟩, ⟨s7, hJou⟩, -⟩ := id hSt
  have p5 : ∀ j : Nat, j < 14 → π j < 14 := hPm.2.2.2.1
  have hw0 : F a 1 = w 0 := hSc.1
  have hj4 := hJo.2.1
  have hj5 : F (a + 51) 5 = w 14 := hJo.1
  have o14 := hO.2.2.2.2.2.2.2.2.2.2.1
  refine Ct.of [some (.ref o), some (J v)] kt_X11_counted rfl (Nat.le_of_ble_eq_true rfl) rfl (fun d hd => ?_)
  generalize hX : xN E _ _ _ = X
  refine xg_iloadn 1 dX11_counted_0 rfl rfl rfl ?_
  rcases (show v = 8 ∨ v = 9 ∨ v = 10 ∨ v = 11 ∨ v = 12 ∨ v = 13 ∨ v = 14 ∨ v = 15 ∨ v = 16 ∨ (v < 8 ∨ 16 < v) by omega) with ht | ht | ht | ht | ht | ht | ht | ht | ht | ht
  · refine xg_tin (o := 51) 52 dX11_counted_1 (by omega) ⟨by omega, by omega⟩ (by rw [show (v - 8).toNat = 0 by omega]; rfl) rfl ?_
    refine xg_aloadn 53 dX11_counted_52 rfl rfl rfl ?_
    refine xg_getP 56 kf_RX11_23 dX11_counted_53 rfl h1 h3 ?_
    refine xg_getP 59 kf_RX11_287 dX11_counted_56 rfl st9 s6 ?_
    refine xg_getI 62 kf_RX11_384 dX11_counted_59 rfl s50 ?_
    subst hX
    refine xg_ireturn dX11_counted_62 rfl ⟨Nat.le_refl _, Nat.le_refl _⟩ ?_
    subst ht
    exact ⟨by rw [hTl.1]; rfl, rfl⟩
  · refine xg_tin (o := 62) 63 dX11_counted_1 (by omega) ⟨by omega, by omega⟩ (by rw [show (v - 8).toNat = 1 by omega]; rfl) rfl ?_
    refine xg_aloadn 64 dX11_counted_63 rfl rfl rfl ?_
    refine xg_getP 67 kf_RX11_23 dX11_counted_64 rfl h1 h3 ?_
    refine xg_getP 70 kf_RX11_287 dX11_counted_67 rfl st9 s6 ?_
    refine xg_getI 73 kf_RX11_291 dX11_counted_70 rfl s50 ?_
    subst hX
    refine xg_ireturn dX11_counted_73 rfl ⟨Nat.le_refl _, Nat.le_refl _⟩ ?_
    subst ht
    exact ⟨by rw [hTl.2.1]; rfl, rfl⟩
  · refine xg_tin (o := 73) 74 dX11_counted_1 (by omega) ⟨by omega, by omega⟩ (by rw [show (v - 8).toNat = 2 by omega]; rfl) rfl ?_
    refine xg_aloadn 75 dX11_counted_74 rfl rfl rfl ?_
    refine xg_getP 78 kf_RX11_23 dX11_counted_75 rfl h1 h3 ?_
    refine xg_getP 81 kf_RX11_287 dX11_counted_78 rfl st9 s6 ?_
    refine xg_getI 84 kf_RX11_296 dX11_counted_81 rfl s50 ?_
    subst hX
    refine xg_ireturn dX11_counted_84 rfl ⟨Nat.le_refl _, Nat.le_refl _⟩ ?_
    subst ht
    exact ⟨by rw [hTl.2.2.1]; rfl, rfl⟩
  · refine xg_tin (o := 84) 85 dX11_counted_1 (by omega) ⟨by omega, by omega⟩ (by rw [show (v - 8).toNat = 3 by omega]; rfl) rfl ?_
    refine xg_aloadn 86 dX11_counted_85 rfl rfl rfl ?_
    refine xg_getP 89 kf_RX11_23 dX11_counted_86 rfl h1 h3 ?_
    refine xg_getP 92 kf_RX11_287 dX11_counted_89 rfl st9 s6 ?_
    refine xg_getI 95 kf_RX11_357 dX11_counted_92 rfl s50 ?_
    subst hX
    refine xg_ireturn dX11_counted_95 rfl ⟨Nat.le_refl _, Nat.le_refl _⟩ ?_
    subst ht
    exact ⟨by rw [hTl.2.2.2.1]; rfl, rfl⟩
  · refine xg_tin (o := 95) 96 dX11_counted_1 (by omega) ⟨by omega, by omega⟩ (by rw [show (v - 8).toNat = 4 by omega]; rfl) rfl ?_
    refine xg_aloadn 97 dX11_counted_96 rfl rfl rfl ?_
    refine xg_getP 100 kf_RX11_23 dX11_counted_97 rfl h1 h3 ?_
    refine xg_getP 103 kf_RX11_287 dX11_counted_100 rfl st9 s6 ?_
    refine xg_getI 106 kf_RX11_387 dX11_counted_103 rfl s50 ?_
    subst hX
    refine xg_ireturn dX11_counted_106 rfl ⟨Nat.le_refl _, Nat.le_refl _⟩ ?_
    subst ht
    exact ⟨by rw [hTl.2.2.2.2.1]; rfl, rfl⟩
  · refine xg_tin (o := 106) 107 dX11_counted_1 (by omega) ⟨by omega, by omega⟩ (by rw [show (v - 8).toNat = 5 by omega]; rfl) rfl ?_
    refine xg_aloadn 108 dX11_counted_107 rfl rfl rfl ?_
    refine xg_getP 111 kf_RX11_23 dX11_counted_108 rfl h1 h3 ?_
    refine xg_getP 114 kf_RX11_287 dX11_counted_111 rfl st9 s6 ?_
    refine xg_getI 117 kf_RX11_360 dX11_counted_114 rfl s50 ?_
    subst hX
    refine xg_ireturn dX11_counted_117 rfl ⟨Nat.le_refl _, Nat.le_refl _⟩ ?_
    subst ht
    exact ⟨by rw [hTl.2.2.2.2.2]; rfl, rfl⟩
  · refine xg_tin (o := 117) 118 dX11_counted_1 (by omega) ⟨by omega, by omega⟩ (by rw [show (v - 8).toNat = 6 by omega]; rfl) rfl ?_
    refine xg_aloadn 119 dX11_counted_118 rfl rfl rfl ?_
    refine xg_getP 122 kf_RX11_23 dX11_counted_119 rfl h1 h3 ?_
    refine xg_getI 125 kf_RX11_390 dX11_counted_122 rfl st9 ?_
    subst hX
    refine xg_ireturn dX11_counted_125 rfl ⟨Nat.le_refl _, Nat.le_refl _⟩ ?_
    subst ht
    exact ⟨by rw [hSc.2.2.2.2.2.1]; rfl, rfl⟩
  · refine xg_tin (o := 125) 126 dX11_counted_1 (by omega) ⟨by omega, by omega⟩ (by rw [show (v - 8).toNat = 7 by omega]; rfl) rfl ?_
    refine xg_aloadn 127 dX11_counted_126 rfl rfl rfl ?_
    refine xg_getP 130 kf_RX11_23 dX11_counted_127 rfl h1 h3 ?_
    refine xg_getP 133 kf_RX11_366 dX11_counted_130 rfl st9 s7 ?_
    refine xg_getI 136 kf_RX11_393 dX11_counted_133 rfl hJou.1 ?_
    subst hX
    refine xg_ireturn dX11_counted_136 rfl ⟨Nat.le_refl _, Nat.le_refl _⟩ ?_
    subst ht
    exact ⟨by rw [hj5]; rfl, rfl⟩
  · refine xg_tin (o := 136) 137 dX11_counted_1 (by omega) ⟨by omega, by omega⟩ (by rw [show (v - 8).toNat = 8 by omega]; rfl) rfl ?_
    refine xg_aloadn 138 dX11_counted_137 rfl rfl rfl ?_
    refine xg_getI 141 kf_RX11_40 dX11_counted_138 rfl h1 ?_
    subst hX
    refine xg_ireturn dX11_counted_141 rfl ⟨Nat.le_refl _, Nat.le_refl _⟩ ?_
    subst ht
    exact ⟨rfl, rfl⟩
  · refine xg_tout 142 dX11_counted_1 (by omega) ht rfl ?_
    refine xg_iconst 143 dX11_counted_142 rfl ?_
    subst hX
    exact xg_ireturn dX11_counted_143 rfl ⟨Nat.le_refl _, Nat.le_refl _⟩ ⟨congrArg (fun v => some (J v)) (by unfold sCountA; rw [if_neg (show ¬ v = 0 by omega), if_neg (show ¬ v = 1 by omega), if_neg (show ¬ v = 2 by omega), if_neg (show ¬ v = 3 by omega), if_neg (show ¬ v = 15 by omega), if_neg (show ¬ v = 16 by omega), if_neg (show ¬ (4 ≤ v ∧ v ≤ 14) by omega)]), rfl⟩

theorem dX11_count_0 : decode cX11_count 0 = .ok (.iload_n 1, 1) := by decide +kernel
theorem dX11_count_1 : decode cX11_count 1 = .ok (.tableswitch 139 0 7 #[47, 55, 66, 74, 99, 115, 123, 131], 47) := by decide +kernel
theorem dX11_count_48 : decode cX11_count 48 = .ok (.aload_n 0, 1) := by decide +kernel
theorem dX11_count_49 : decode cX11_count 49 = .ok (.getfield 23, 3) := by decide +kernel
theorem dX11_count_52 : decode cX11_count 52 = .ok (.getfield 314, 3) := by decide +kernel
theorem dX11_count_55 : decode cX11_count 55 = .ok (.ireturn, 1) := by decide +kernel
theorem dX11_count_56 : decode cX11_count 56 = .ok (.aload_n 0, 1) := by decide +kernel
theorem dX11_count_57 : decode cX11_count 57 = .ok (.getfield 23, 3) := by decide +kernel
theorem dX11_count_60 : decode cX11_count 60 = .ok (.getfield 243, 3) := by decide +kernel
theorem dX11_count_63 : decode cX11_count 63 = .ok (.getfield 137, 3) := by decide +kernel
theorem dX11_count_66 : decode cX11_count 66 = .ok (.ireturn, 1) := by decide +kernel
theorem dX11_count_67 : decode cX11_count 67 = .ok (.aload_n 0, 1) := by decide +kernel
theorem dX11_count_68 : decode cX11_count 68 = .ok (.getfield 23, 3) := by decide +kernel
theorem dX11_count_71 : decode cX11_count 71 = .ok (.getfield 95, 3) := by decide +kernel
theorem dX11_count_74 : decode cX11_count 74 = .ok (.ireturn, 1) := by decide +kernel
theorem dX11_count_75 : decode cX11_count 75 = .ok (.aload_n 0, 1) := by decide +kernel
theorem dX11_count_76 : decode cX11_count 76 = .ok (.getfield 23, 3) := by decide +kernel
theorem dX11_count_79 : decode cX11_count 79 = .ok (.getfield 112, 3) := by decide +kernel
theorem dX11_count_82 : decode cX11_count 82 = .ok (.ifnonnull 7, 3) := by decide +kernel
theorem dX11_count_85 : decode cX11_count 85 = .ok (.iconst (-1), 1) := by decide +kernel
theorem dX11_count_86 : decode cX11_count 86 = .ok (.goto 13, 3) := by decide +kernel
theorem dX11_count_89 : decode cX11_count 89 = .ok (.aload_n 0, 1) := by decide +kernel
theorem dX11_count_90 : decode cX11_count 90 = .ok (.getfield 23, 3) := by decide +kernel
theorem dX11_count_93 : decode cX11_count 93 = .ok (.getfield 112, 3) := by decide +kernel
theorem dX11_count_96 : decode cX11_count 96 = .ok (.getfield 116, 3) := by decide +kernel
theorem dX11_count_99 : decode cX11_count 99 = .ok (.ireturn, 1) := by decide +kernel
theorem dX11_count_100 : decode cX11_count 100 = .ok (.aload_n 0, 1) := by decide +kernel
theorem dX11_count_101 : decode cX11_count 101 = .ok (.getfield 23, 3) := by decide +kernel
theorem dX11_count_104 : decode cX11_count 104 = .ok (.getfield 252, 3) := by decide +kernel
theorem dX11_count_107 : decode cX11_count 107 = .ok (.ifCond .eq 7, 3) := by decide +kernel
theorem dX11_count_110 : decode cX11_count 110 = .ok (.iconst 1, 1) := by decide +kernel
theorem dX11_count_111 : decode cX11_count 111 = .ok (.goto 4, 3) := by decide +kernel
theorem dX11_count_114 : decode cX11_count 114 = .ok (.iconst 0, 1) := by decide +kernel
theorem dX11_count_115 : decode cX11_count 115 = .ok (.ireturn, 1) := by decide +kernel
theorem dX11_count_116 : decode cX11_count 116 = .ok (.aload_n 0, 1) := by decide +kernel
theorem dX11_count_117 : decode cX11_count 117 = .ok (.getfield 23, 3) := by decide +kernel
theorem dX11_count_120 : decode cX11_count 120 = .ok (.getfield 263, 3) := by decide +kernel
theorem dX11_count_123 : decode cX11_count 123 = .ok (.ireturn, 1) := by decide +kernel
theorem dX11_count_124 : decode cX11_count 124 = .ok (.aload_n 0, 1) := by decide +kernel
theorem dX11_count_125 : decode cX11_count 125 = .ok (.getfield 23, 3) := by decide +kernel
theorem dX11_count_128 : decode cX11_count 128 = .ok (.getfield 269, 3) := by decide +kernel
theorem dX11_count_131 : decode cX11_count 131 = .ok (.ireturn, 1) := by decide +kernel
theorem dX11_count_132 : decode cX11_count 132 = .ok (.aload_n 0, 1) := by decide +kernel
theorem dX11_count_133 : decode cX11_count 133 = .ok (.getfield 23, 3) := by decide +kernel
theorem dX11_count_136 : decode cX11_count 136 = .ok (.getfield 275, 3) := by decide +kernel
theorem dX11_count_139 : decode cX11_count 139 = .ok (.ireturn, 1) := by decide +kernel
theorem dX11_count_140 : decode cX11_count 140 = .ok (.aload_n 0, 1) := by decide +kernel
theorem dX11_count_141 : decode cX11_count 141 = .ok (.iload_n 1, 1) := by decide +kernel
theorem dX11_count_142 : decode cX11_count 142 = .ok (.invokevirtual 381, 3) := by decide +kernel
theorem dX11_count_145 : decode cX11_count 145 = .ok (.ireturn, 1) := by decide +kernel
set_option maxHeartbeats 4000000 in
set_option maxRecDepth 100000 in
theorem ct_X11_count_n {E : xE} {z : Nat} {T : Nat → Nat × Int} {F : Nat → Nat → Int} {I : Nat → Int → Int} {P : Nat → Nat → Option Nat} {Y : Nat → Int → Option Nat} {o a : Nat} {w : Int → Int} (h1 : (T o).1 = 12) (h3 : P o 3 = some a) (hS : SR T F I P Y a w) {v : Int} (hv : -2147483648 ≤ v ∧ v < 2147483648) (hp9 : P a 16 = none) (hw2 : w 2 = 0) : Ct E 1 mX11_count 0 0 [.ref o, J v] (z, T, F, I, P, Y) (xd (some (J (sCountA w (F o 8) v))) (z, T, F, I, P, Y)) := by
  have hO := hS.1.1
  have o0 := hO.2.1
  obtain ⟨hGd, hLw, ⟨π, ⟨hSt, hPm⟩, ⟨hSc, hTl, hJb⟩, hRun, hTab, hOut, hJo⟩, hLv, hLf⟩ := id hS
  obtain ⟨⟨st9, s0, s01, s02⟩, hRows, ⟨s4, s44⟩, ⟨s5, l9, ⟨l0, l1, l2, l3⟩, ⟨l01, l02⟩, ⟨l11, l12⟩, ⟨l21, l22⟩, l31, l32⟩, ⟨s6, s50⟩, ⟨s7, hJou⟩, -⟩ := id hSt
  have p5 : ∀ j : Nat, j < 14 → π j < 14 := hPm.2.2.2.1
  have hw0 : F a 1 = w 0 := hSc.1
  have o3 := hO.2.2.2.2.1
  refine Ct.of [some (.ref o), some (J v)] kt_X11_count rfl (Nat.le_of_ble_eq_true rfl) rfl (fun d hd => ?_)
  generalize hX : xN E _ _ _ = X
  refine xg_iloadn 1 dX11_count_0 rfl rfl rfl ?_
  rcases (show v = 0 ∨ v = 1 ∨ v = 2 ∨ v = 3 ∨ v = 4 ∨ v = 5 ∨ v = 6 ∨ v = 7 ∨ (v < 0 ∨ 7 < v) by omega) with ht | ht | ht | ht | ht | ht | ht | ht | ht
  · refine xg_tin (o := 47) 48 dX11_count_1 (by omega) ⟨by omega, by omega⟩ (by rw [show (v - 0).toNat = 0 by omega]; rfl) rfl ?_
    refine xg_aloadn 49 dX11_count_48 rfl rfl rfl ?_
    refine xg_getP 52 kf_RX11_23 dX11_count_49 rfl h1 h3 ?_
    refine xg_getI 55 kf_RX11_314 dX11_count_52 rfl st9 ?_
    subst hX
    refine xg_ireturn dX11_count_55 rfl ⟨Nat.le_refl _, Nat.le_refl _⟩ ?_
    subst ht
    exact ⟨by rw [hw0]; rfl, rfl⟩
  · refine xg_tin (o := 55) 56 dX11_count_1 (by omega) ⟨by omega, by omega⟩ (by rw [show (v - 0).toNat = 1 by omega]; rfl) rfl ?_
    refine xg_aloadn 57 dX11_count_56 rfl rfl rfl ?_
    refine xg_getP 60 kf_RX11_23 dX11_count_57 rfl h1 h3 ?_
    refine xg_getP 63 kf_RX11_243 dX11_count_60 rfl st9 hPm.2.1 ?_
    refine xg_getI 66 kf_RX11_137 dX11_count_63 rfl (hRows _ (p5 12 (by omega))).1 ?_
    subst hX
    refine xg_ireturn dX11_count_66 rfl ⟨Nat.le_refl _, Nat.le_refl _⟩ ?_
    subst ht
    exact ⟨by rw [show F (a + 2 + 3 * π 12) 2 = sEnt w 19 from hTab.2.2.1]; rfl, rfl⟩
  · refine xg_tin (o := 66) 67 dX11_count_1 (by omega) ⟨by omega, by omega⟩ (by rw [show (v - 0).toNat = 2 by omega]; rfl) rfl ?_
    refine xg_aloadn 68 dX11_count_67 rfl rfl rfl ?_
    refine xg_getP 71 kf_RX11_23 dX11_count_68 rfl h1 h3 ?_
    refine xg_getI 74 kf_RX11_95 dX11_count_71 rfl st9 ?_
    subst hX
    refine xg_ireturn dX11_count_74 rfl ⟨Nat.le_refl _, Nat.le_refl _⟩ ?_
    subst ht
    exact ⟨by rw [hSc.2.2.2.2.2.2.2]; rfl, rfl⟩
  · refine xg_tin (o := 74) 75 dX11_count_1 (by omega) ⟨by omega, by omega⟩ (by rw [show (v - 0).toNat = 3 by omega]; rfl) rfl ?_
    refine xg_aloadn 76 dX11_count_75 rfl rfl rfl ?_
    refine xg_getP 79 kf_RX11_23 dX11_count_76 rfl h1 h3 ?_
    refine xg_get0 82 kf_RX11_112 dX11_count_79 rfl st9 hp9 ?_
    refine xg_ifnn0 85 dX11_count_82 rfl ?_
    refine xg_iconst 86 dX11_count_85 rfl ?_
    refine xg_goto 99 dX11_count_86 rfl ?_
    subst hX
    refine xg_ireturn dX11_count_99 rfl ⟨Nat.le_refl _, Nat.le_refl _⟩ ?_
    subst ht
    exact ⟨show some (J (-1)) = some (J (if w 2 = 1 then w 1903 else -1)) by rw [if_neg (by omega)], rfl⟩
  · refine xg_tin (o := 99) 100 dX11_count_1 (by omega) ⟨by omega, by omega⟩ (by rw [show (v - 0).toNat = 4 by omega]; rfl) rfl ?_
    refine xg_aloadn 101 dX11_count_100 rfl rfl rfl ?_
    refine xg_getP 104 kf_RX11_23 dX11_count_101 rfl h1 h3 ?_
    refine xg_getI 107 kf_RX11_252 dX11_count_104 rfl st9 ?_
    rw [hSc.2.1]
    refine xg_ifeq 114 110 dX11_count_107 rfl rfl (by omega) (fun hb107 => ?_) (fun hb107 => ?_)
    · skip
      refine xg_iconst 115 dX11_count_114 rfl ?_
      subst hX
      refine xg_ireturn dX11_count_115 rfl ⟨Nat.le_refl _, Nat.le_refl _⟩ ?_
      subst ht
      exact ⟨show some (J 0) = some (J (w 3)) by rw [show w 3 = 0 by omega], rfl⟩
    · skip
      refine xg_iconst 111 dX11_count_110 rfl ?_
      refine xg_goto 115 dX11_count_111 rfl ?_
      subst hX
      refine xg_ireturn dX11_count_115 rfl ⟨Nat.le_refl _, Nat.le_refl _⟩ ?_
      subst ht
      exact ⟨show some (J 1) = some (J (w 3)) by rw [show w 3 = 1 by omega], rfl⟩
  · refine xg_tin (o := 115) 116 dX11_count_1 (by omega) ⟨by omega, by omega⟩ (by rw [show (v - 0).toNat = 5 by omega]; rfl) rfl ?_
    refine xg_aloadn 117 dX11_count_116 rfl rfl rfl ?_
    refine xg_getP 120 kf_RX11_23 dX11_count_117 rfl h1 h3 ?_
    refine xg_getI 123 kf_RX11_263 dX11_count_120 rfl st9 ?_
    subst hX
    refine xg_ireturn dX11_count_123 rfl ⟨Nat.le_refl _, Nat.le_refl _⟩ ?_
    subst ht
    exact ⟨by rw [hSc.2.2.1]; rfl, rfl⟩
  · refine xg_tin (o := 123) 124 dX11_count_1 (by omega) ⟨by omega, by omega⟩ (by rw [show (v - 0).toNat = 6 by omega]; rfl) rfl ?_
    refine xg_aloadn 125 dX11_count_124 rfl rfl rfl ?_
    refine xg_getP 128 kf_RX11_23 dX11_count_125 rfl h1 h3 ?_
    refine xg_getI 131 kf_RX11_269 dX11_count_128 rfl st9 ?_
    subst hX
    refine xg_ireturn dX11_count_131 rfl ⟨Nat.le_refl _, Nat.le_refl _⟩ ?_
    subst ht
    exact ⟨by rw [hSc.2.2.2.1]; rfl, rfl⟩
  · refine xg_tin (o := 131) 132 dX11_count_1 (by omega) ⟨by omega, by omega⟩ (by rw [show (v - 0).toNat = 7 by omega]; rfl) rfl ?_
    refine xg_aloadn 133 dX11_count_132 rfl rfl rfl ?_
    refine xg_getP 136 kf_RX11_23 dX11_count_133 rfl h1 h3 ?_
    refine xg_getI 139 kf_RX11_275 dX11_count_136 rfl st9 ?_
    subst hX
    refine xg_ireturn dX11_count_139 rfl ⟨Nat.le_refl _, Nat.le_refl _⟩ ?_
    subst ht
    exact ⟨by rw [hSc.2.2.2.2.1]; rfl, rfl⟩
  · refine xg_tout 140 dX11_count_1 (by omega) ht rfl ?_
    refine xg_aloadn 141 dX11_count_140 rfl rfl rfl ?_
    refine xg_iloadn 142 dX11_count_141 rfl rfl rfl ?_
    refine xg_callV 145 11 [_] _ kv_X11_counted ⟨_, _, rfl⟩ kl_RX11_381 dX11_count_142 rfl h1 (by omega) rfl rfl (Nat.le_of_ble_eq_true rfl) (by omega) ⟨Nat.le_refl _, Nat.le_refl _⟩ (ct_X11_counted h1 h3 hS hv (by omega)) rfl ?_
    subst hX
    exact xg_ireturn dX11_count_145 rfl ⟨Nat.le_refl _, Nat.le_refl _⟩ ⟨rfl, rfl⟩

set_option maxHeartbeats 4000000 in
set_option maxRecDepth 100000 in
theorem ct_X11_count_r {E : xE} {z : Nat} {T : Nat → Nat × Int} {F : Nat → Nat → Int} {I : Nat → Int → Int} {P : Nat → Nat → Option Nat} {Y : Nat → Int → Option Nat} {o a : Nat} {w : Int → Int} (h1 : (T o).1 = 12) (h3 : P o 3 = some a) (hS : SR T F I P Y a w) {v : Int} (hv : -2147483648 ≤ v ∧ v < 2147483648) {l : Nat} (hp9 : P a 16 = some l) (hlaw : rLaw T F I P l w) : Ct E 1 mX11_count 0 0 [.ref o, J v] (z, T, F, I, P, Y) (xd (some (J (sCountA w (F o 8) v))) (z, T, F, I, P, Y)) := by
  have hO := hS.1.1
  have o0 := hO.2.1
  obtain ⟨hGd, hLw, ⟨π, ⟨hSt, hPm⟩, ⟨hSc, hTl, hJb⟩, hRun, hTab, hOut, hJo⟩, hLv, hLf⟩ := id hS
  obtain ⟨⟨st9, s0, s01, s02⟩, hRows, ⟨s4, s44⟩, ⟨s5, l9, ⟨l0, l1, l2, l3⟩, ⟨l01, l02⟩, ⟨l11, l12⟩, ⟨l21, l22⟩, l31, l32⟩, ⟨s6, s50⟩, ⟨s7, hJou⟩, -⟩ := id hSt
  have p5 : ∀ j : Nat, j < 14 → π j < 14 := hPm.2.2.2.1
  have hw0 : F a 1 = w 0 := hSc.1
  have o3 := hO.2.2.2.2.1
  refine Ct.of [some (.ref o), some (J v)] kt_X11_count rfl (Nat.le_of_ble_eq_true rfl) rfl (fun d hd => ?_)
  generalize hX : xN E _ _ _ = X
  refine xg_iloadn 1 dX11_count_0 rfl rfl rfl ?_
  rcases (show v = 0 ∨ v = 1 ∨ v = 2 ∨ v = 3 ∨ v = 4 ∨ v = 5 ∨ v = 6 ∨ v = 7 ∨ (v < 0 ∨ 7 < v) by omega) with ht | ht | ht | ht | ht | ht | ht | ht | ht
  · refine xg_tin (o := 47) 48 dX11_count_1 (by omega) ⟨by omega, by omega⟩ (by rw [show (v - 0).toNat = 0 by omega]; rfl) rfl ?_
    refine xg_aloadn 49 dX11_count_48 rfl rfl rfl ?_
    refine xg_getP 52 kf_RX11_23 dX11_count_49 rfl h1 h3 ?_
    refine xg_getI 55 kf_RX11_314 dX11_count_52 rfl st9 ?_
    subst hX
    refine xg_ireturn dX11_count_55 rfl ⟨Nat.le_refl _, Nat.le_refl _⟩ ?_
    subst ht
    exact ⟨by rw [hw0]; rfl, rfl⟩
  · refine xg_tin (o := 55) 56 dX11_count_1 (by omega) ⟨by omega, by omega⟩ (by rw [show (v - 0).toNat = 1 by omega]; rfl) rfl ?_
    refine xg_aloadn 57 dX11_count_56 rfl rfl rfl ?_
    refine xg_getP 60 kf_RX11_23 dX11_count_57 rfl h1 h3 ?_
    refine xg_getP 63 kf_RX11_243 dX11_count_60 rfl st9 hPm.2.1 ?_
    refine xg_getI 66 kf_RX11_137 dX11_count_63 rfl (hRows _ (p5 12 (by omega))).1 ?_
    subst hX
    refine xg_ireturn dX11_count_66 rfl ⟨Nat.le_refl _, Nat.le_refl _⟩ ?_
    subst ht
    exact ⟨by rw [show F (a + 2 + 3 * π 12) 2 = sEnt w 19 from hTab.2.2.1]; rfl, rfl⟩
  · refine xg_tin (o := 66) 67 dX11_count_1 (by omega) ⟨by omega, by omega⟩ (by rw [show (v - 0).toNat = 2 by omega]; rfl) rfl ?_
    refine xg_aloadn 68 dX11_count_67 rfl rfl rfl ?_
    refine xg_getP 71 kf_RX11_23 dX11_count_68 rfl h1 h3 ?_
    refine xg_getI 74 kf_RX11_95 dX11_count_71 rfl st9 ?_
    subst hX
    refine xg_ireturn dX11_count_74 rfl ⟨Nat.le_refl _, Nat.le_refl _⟩ ?_
    subst ht
    exact ⟨by rw [hSc.2.2.2.2.2.2.2]; rfl, rfl⟩
  · refine xg_tin (o := 74) 75 dX11_count_1 (by omega) ⟨by omega, by omega⟩ (by rw [show (v - 0).toNat = 3 by omega]; rfl) rfl ?_
    refine xg_aloadn 76 dX11_count_75 rfl rfl rfl ?_
    refine xg_getP 79 kf_RX11_23 dX11_count_76 rfl h1 h3 ?_
    refine xg_getP 82 kf_RX11_112 dX11_count_79 rfl st9 hp9 ?_
    refine xg_ifnn 89 dX11_count_82 rfl ?_
    refine xg_aloadn 90 dX11_count_89 rfl rfl rfl ?_
    refine xg_getP 93 kf_RX11_23 dX11_count_90 rfl h1 h3 ?_
    refine xg_getP 96 kf_RX11_112 dX11_count_93 rfl st9 hp9 ?_
    refine xg_getI 99 kf_RX11_116 dX11_count_96 rfl hlaw.2.1 ?_
    subst hX
    refine xg_ireturn dX11_count_99 rfl ⟨Nat.le_refl _, Nat.le_refl _⟩ ?_
    subst ht
    exact ⟨show some (J (F l 0)) = some (J (if w 2 = 1 then w 1903 else -1)) by rw [if_pos hlaw.1, rLaw_n hlaw], rfl⟩
  · refine xg_tin (o := 99) 100 dX11_count_1 (by omega) ⟨by omega, by omega⟩ (by rw [show (v - 0).toNat = 4 by omega]; rfl) rfl ?_
    refine xg_aloadn 101 dX11_count_100 rfl rfl rfl ?_
    refine xg_getP 104 kf_RX11_23 dX11_count_101 rfl h1 h3 ?_
    refine xg_getI 107 kf_RX11_252 dX11_count_104 rfl st9 ?_
    rw [hSc.2.1]
    refine xg_ifeq 114 110 dX11_count_107 rfl rfl (by omega) (fun hb107 => ?_) (fun hb107 => ?_)
    · skip
      refine xg_iconst 115 dX11_count_114 rfl ?_
      subst hX
      refine xg_ireturn dX11_count_115 rfl ⟨Nat.le_refl _, Nat.le_refl _⟩ ?_
      subst ht
      exact ⟨show some (J 0) = some (J (w 3)) by rw [show w 3 = 0 by omega], rfl⟩
    · skip
      refine xg_iconst 111 dX11_count_110 rfl ?_
      refine xg_goto 115 dX11_count_111 rfl ?_
      subst hX
      refine xg_ireturn dX11_count_115 rfl ⟨Nat.le_refl _, Nat.le_refl _⟩ ?_
      subst ht
      exact ⟨show some (J 1) = some (J (w 3)) by rw [show w 3 = 1 by omega], rfl⟩
  · refine xg_tin (o := 115) 116 dX11_count_1 (by omega) ⟨by omega, by omega⟩ (by rw [show (v - 0).toNat = 5 by omega]; rfl) rfl ?_
    refine xg_aloadn 117 dX11_count_116 rfl rfl rfl ?_
    refine xg_getP 120 kf_RX11_23 dX11_count_117 rfl h1 h3 ?_
    refine xg_getI 123 kf_RX11_263 dX11_count_120 rfl st9 ?_
    subst hX
    refine xg_ireturn dX11_count_123 rfl ⟨Nat.le_refl _, Nat.le_refl _⟩ ?_
    subst ht
    exact ⟨by rw [hSc.2.2.1]; rfl, rfl⟩
  · refine xg_tin (o := 123) 124 dX11_count_1 (by omega) ⟨by omega, by omega⟩ (by rw [show (v - 0).toNat = 6 by omega]; rfl) rfl ?_
    refine xg_aloadn 125 dX11_count_124 rfl rfl rfl ?_
    refine xg_getP 128 kf_RX11_23 dX11_count_125 rfl h1 h3 ?_
    refine xg_getI 131 kf_RX11_269 dX11_count_128 rfl st9 ?_
    subst hX
    refine xg_ireturn dX11_count_131 rfl ⟨Nat.le_refl _, Nat.le_refl _⟩ ?_
    subst ht
    exact ⟨by rw [hSc.2.2.2.1]; rfl, rfl⟩
  · refine xg_tin (o := 131) 132 dX11_count_1 (by omega) ⟨by omega, by omega⟩ (by rw [show (v - 0).toNat = 7 by omega]; rfl) rfl ?_
    refine xg_aloadn 133 dX11_count_132 rfl rfl rfl ?_
    refine xg_getP 136 kf_RX11_23 dX11_count_133 rfl h1 h3 ?_
    refine xg_getI 139 kf_RX11_275 dX11_count_136 rfl st9 ?_
    subst hX
    refine xg_ireturn dX11_count_139 rfl ⟨Nat.le_refl _, Nat.le_refl _⟩ ?_
    subst ht
    exact ⟨by rw [hSc.2.2.2.2.1]; rfl, rfl⟩
  · refine xg_tout 140 dX11_count_1 (by omega) ht rfl ?_
    refine xg_aloadn 141 dX11_count_140 rfl rfl rfl ?_
    refine xg_iloadn 142 dX11_count_141 rfl rfl rfl ?_
    refine xg_callV 145 11 [_] _ kv_X11_counted ⟨_, _, rfl⟩ kl_RX11_381 dX11_count_142 rfl h1 (by omega) rfl rfl (Nat.le_of_ble_eq_true rfl) (by omega) ⟨Nat.le_refl _, Nat.le_refl _⟩ (ct_X11_counted h1 h3 hS hv (by omega)) rfl ?_
    subst hX
    exact xg_ireturn dX11_count_145 rfl ⟨Nat.le_refl _, Nat.le_refl _⟩ ⟨rfl, rfl⟩

theorem ct_X11_count {E : xE} {z : Nat} {T : Nat → Nat × Int} {F : Nat → Nat → Int} {I : Nat → Int → Int} {P : Nat → Nat → Option Nat} {Y : Nat → Int → Option Nat} {o a : Nat} {w : Int → Int} (h1 : (T o).1 = 12) (h3 : P o 3 = some a) (hS : SR T F I P Y a w) {v : Int} (hv : -2147483648 ≤ v ∧ v < 2147483648) : Ct E 1 mX11_count 0 0 [.ref o, J v] (z, T, F, I, P, Y) (xd (some (J (sCountA w (F o 8) v))) (z, T, F, I, P, Y)) := by
  rcases hS.2.1 with ⟨hn, hw2⟩ | ⟨l, hl, hlaw, -⟩
  · exact ct_X11_count_n h1 h3 hS hv hn hw2
  · exact ct_X11_count_r h1 h3 hS hv hl hlaw
