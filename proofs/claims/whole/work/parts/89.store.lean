theorem dX8_init_0 : decode cX8_init 0 = .ok (.aload_n 0, 1) := by decide +kernel
theorem dX8_init_1 : decode cX8_init 1 = .ok (.invokespecial 3, 3) := by decide +kernel
theorem dX8_init_4 : decode cX8_init 4 = .ok (.aload_n 0, 1) := by decide +kernel
theorem dX8_init_5 : decode cX8_init 5 = .ok (.bipush 12, 2) := by decide +kernel
theorem dX8_init_7 : decode cX8_init 7 = .ok (.anewarray 9, 3) := by decide +kernel
theorem dX8_init_10 : decode cX8_init 10 = .ok (.putfield 11, 3) := by decide +kernel
theorem dX8_init_13 : decode cX8_init 13 = .ok (.iconst 0, 1) := by decide +kernel
theorem dX8_init_14 : decode cX8_init 14 = .ok (.istore_n 1, 1) := by decide +kernel
theorem dX8_init_15 : decode cX8_init 15 = .ok (.iload_n 1, 1) := by decide +kernel
theorem dX8_init_16 : decode cX8_init 16 = .ok (.bipush 12, 2) := by decide +kernel
theorem dX8_init_18 : decode cX8_init 18 = .ok (.if_icmp .ge 22, 3) := by decide +kernel
theorem dX8_init_21 : decode cX8_init 21 = .ok (.aload_n 0, 1) := by decide +kernel
theorem dX8_init_22 : decode cX8_init 22 = .ok (.getfield 11, 3) := by decide +kernel
theorem dX8_init_25 : decode cX8_init 25 = .ok (.iload_n 1, 1) := by decide +kernel
theorem dX8_init_26 : decode cX8_init 26 = .ok (.new 9, 3) := by decide +kernel
theorem dX8_init_29 : decode cX8_init 29 = .ok (.dup, 1) := by decide +kernel
theorem dX8_init_30 : decode cX8_init 30 = .ok (.invokespecial 17, 3) := by decide +kernel
theorem dX8_init_33 : decode cX8_init 33 = .ok (.aastore, 1) := by decide +kernel
theorem dX8_init_34 : decode cX8_init 34 = .ok (.iinc 1 1, 3) := by decide +kernel
theorem dX8_init_37 : decode cX8_init 37 = .ok (.goto (-22), 3) := by decide +kernel
theorem dX8_init_40 : decode cX8_init 40 = .ok (.aload_n 0, 1) := by decide +kernel
theorem dX8_init_41 : decode cX8_init 41 = .ok (.new 9, 3) := by decide +kernel
theorem dX8_init_44 : decode cX8_init 44 = .ok (.dup, 1) := by decide +kernel
theorem dX8_init_45 : decode cX8_init 45 = .ok (.invokespecial 17, 3) := by decide +kernel
theorem dX8_init_48 : decode cX8_init 48 = .ok (.putfield 18, 3) := by decide +kernel
theorem dX8_init_51 : decode cX8_init 51 = .ok (.aload_n 0, 1) := by decide +kernel
theorem dX8_init_52 : decode cX8_init 52 = .ok (.new 9, 3) := by decide +kernel
theorem dX8_init_55 : decode cX8_init 55 = .ok (.dup, 1) := by decide +kernel
theorem dX8_init_56 : decode cX8_init 56 = .ok (.invokespecial 17, 3) := by decide +kernel
theorem dX8_init_59 : decode cX8_init 59 = .ok (.putfield 22, 3) := by decide +kernel
theorem dX8_init_62 : decode cX8_init 62 = .ok (.aload_n 0, 1) := by decide +kernel
theorem dX8_init_63 : decode cX8_init 63 = .ok (.new 25, 3) := by decide +kernel
theorem dX8_init_66 : decode cX8_init 66 = .ok (.dup, 1) := by decide +kernel
theorem dX8_init_67 : decode cX8_init 67 = .ok (.invokespecial 27, 3) := by decide +kernel
theorem dX8_init_70 : decode cX8_init 70 = .ok (.putfield 28, 3) := by decide +kernel
theorem dX8_init_73 : decode cX8_init 73 = .ok (.aload_n 0, 1) := by decide +kernel
theorem dX8_init_74 : decode cX8_init 74 = .ok (.new 32, 3) := by decide +kernel
theorem dX8_init_77 : decode cX8_init 77 = .ok (.dup, 1) := by decide +kernel
theorem dX8_init_78 : decode cX8_init 78 = .ok (.invokespecial 34, 3) := by decide +kernel
theorem dX8_init_81 : decode cX8_init 81 = .ok (.putfield 35, 3) := by decide +kernel
theorem dX8_init_84 : decode cX8_init 84 = .ok (.aload_n 0, 1) := by decide +kernel
theorem dX8_init_85 : decode cX8_init 85 = .ok (.new 39, 3) := by decide +kernel
theorem dX8_init_88 : decode cX8_init 88 = .ok (.dup, 1) := by decide +kernel
theorem dX8_init_89 : decode cX8_init 89 = .ok (.invokespecial 41, 3) := by decide +kernel
theorem dX8_init_92 : decode cX8_init 92 = .ok (.putfield 42, 3) := by decide +kernel
theorem dX8_init_95 : decode cX8_init 95 = .ok (.aload_n 0, 1) := by decide +kernel
theorem dX8_init_96 : decode cX8_init 96 = .ok (.new 46, 3) := by decide +kernel
theorem dX8_init_99 : decode cX8_init 99 = .ok (.dup, 1) := by decide +kernel
theorem dX8_init_100 : decode cX8_init 100 = .ok (.invokespecial 48, 3) := by decide +kernel
theorem dX8_init_103 : decode cX8_init 103 = .ok (.putfield 49, 3) := by decide +kernel
theorem dX8_init_106 : decode cX8_init 106 = .ok (.aload_n 0, 1) := by decide +kernel
theorem dX8_init_107 : decode cX8_init 107 = .ok (.bipush 10, 2) := by decide +kernel
theorem dX8_init_109 : decode cX8_init 109 = .ok (.newarray .int, 2) := by decide +kernel
theorem dX8_init_111 : decode cX8_init 111 = .ok (.putfield 53, 3) := by decide +kernel
theorem dX8_init_114 : decode cX8_init 114 = .ok (.aload_n 0, 1) := by decide +kernel
theorem dX8_init_115 : decode cX8_init 115 = .ok (.iconst 3, 1) := by decide +kernel
theorem dX8_init_116 : decode cX8_init 116 = .ok (.putfield 57, 3) := by decide +kernel
theorem dX8_init_119 : decode cX8_init 119 = .ok (.aload_n 0, 1) := by decide +kernel
theorem dX8_init_120 : decode cX8_init 120 = .ok (.iconst 4, 1) := by decide +kernel
theorem dX8_init_121 : decode cX8_init 121 = .ok (.putfield 61, 3) := by decide +kernel
theorem dX8_init_124 : decode cX8_init 124 = .ok (.aload_n 0, 1) := by decide +kernel
theorem dX8_init_125 : decode cX8_init 125 = .ok (.iconst 2, 1) := by decide +kernel
theorem dX8_init_126 : decode cX8_init 126 = .ok (.putfield 64, 3) := by decide +kernel
theorem dX8_init_129 : decode cX8_init 129 = .ok (.aload_n 0, 1) := by decide +kernel
theorem dX8_init_130 : decode cX8_init 130 = .ok (.iconst 1, 1) := by decide +kernel
theorem dX8_init_131 : decode cX8_init 131 = .ok (.putfield 67, 3) := by decide +kernel
theorem dX8_init_134 : decode cX8_init 134 = .ok (.return_, 1) := by decide +kernel
/-- the store at a is new -/
def SNew (T : Nat → Nat × Int) (F : Nat → Nat → Int) (I : Nat → Int → Int) (P : Nat → Nat → Option Nat) (Y : Nat → Int → Option Nat) (a : Nat) : Prop := wSt T P a ∧ wPm P Y a (fun j => j) ∧ NR T F I P a 14 ∧ (∀ j : Nat, F a j = if j = 10 then 3 else if j = 11 then 4 else if j = 12 then 2 else if j = 14 then 1 else 0) ∧ P a 16 = none ∧ (∀ j : Nat, F (a + 44) j = 0 ∧ F (a + 45) j = 0 ∧ F (a + 50) j = 0 ∧ F (a + 51) j = 0) ∧ ∀ j : Int, (I (a + 46) j = 0 ∧ I (a + 47) j = 0 ∧ I (a + 48) j = 0 ∧ I (a + 49) j = 0) ∧ (I (a + 52) j = 0 ∧ I (a + 53) j = 0 ∧ I (a + 54) j = 0 ∧ I (a + 55) j = 0) ∧ I (a + 56) j = 0
def xNew (a : Nat) (T : Nat → Nat × Int) (F : Nat → Nat → Int) (I : Nat → Int → Int) (P : Nat → Nat → Option Nat) (Y : Nat → Int → Option Nat) : Option Value → xH → Prop := fun v h' => v = none ∧ ∃ (T' : Nat → Nat × Int) (F' : Nat → Nat → Int) (I' : Nat → Int → Int) (P' : Nat → Nat → Option Nat) (Y' : Nat → Int → Option Nat), h' = (a + 57, T', F', I', P', Y') ∧ SNew T' F' I' P' Y' a ∧ Lo a T F I P Y T' F' I' P' Y'
theorem SNew.of {T : Nat → Nat × Int} {F : Nat → Nat → Int} {I : Nat → Int → Int} {P : Nat → Nat → Option Nat} {Y : Nat → Int → Option Nat} {a : Nat} (hR : NR T F I P a 14) (w1 : (T a).1 = 9 ∧ P a 0 = some (a + 1) ∧ (T (a + 1)).1 = 17 ∧ (T (a + 1)).2 = 12) (w2 : P a 4 = some (a + 44) ∧ (T (a + 44)).1 = 2) (w3 : P a 5 = some (a + 45) ∧ wLev T P (a + 45)) (w4 : P a 6 = some (a + 50) ∧ (T (a + 50)).1 = 11) (w5 : P a 7 = some (a + 51) ∧ wJou T P (a + 51)) (w6 : P a 8 = some (a + 56) ∧ (T (a + 56)).1 = 14 ∧ (T (a + 56)).2 = 10)
    (hY : ∀ j : Nat, j < 12 → Y (a + 1) (j : Int) = some (a + 2 + 3 * j)) (p2 : P a 2 = some (a + 2 + 3 * 12)) (p3 : P a 3 = some (a + 2 + 3 * 13)) (hF : ∀ j : Nat, F a j = if j = 10 then 3 else if j = 11 then 4 else if j = 12 then 2 else if j = 14 then 1 else 0) (p16 : P a 16 = none) (h1 : ∀ j : Nat, F (a + 44) j = 0 ∧ F (a + 45) j = 0 ∧ F (a + 50) j = 0 ∧ F (a + 51) j = 0) (h2 : ∀ j : Int, (I (a + 46) j = 0 ∧ I (a + 47) j = 0 ∧ I (a + 48) j = 0 ∧ I (a + 49) j = 0) ∧ (I (a + 52) j = 0 ∧ I (a + 53) j = 0 ∧ I (a + 54) j = 0 ∧ I (a + 55) j = 0) ∧ I (a + 56) j = 0) : SNew T F I P Y a :=
  ⟨⟨w1, fun i hi => (hR i hi).1, w2, w3, w4, w5, w6⟩, ⟨hY, p2, p3, fun j hj => hj, fun i j _ _ h => h⟩, hR, hF, p16, h1, h2⟩
set_option maxHeartbeats 4000000 in
set_option maxRecDepth 100000 in
theorem ct_X8_init {E : xE} {z : Nat} {T : Nat → Nat × Int} {F : Nat → Nat → Int} {I : Nat → Int → Int} {P : Nat → Nat → Option Nat} {Y : Nat → Int → Option Nat} {a : Nat} (hE : ∀ u : State, E.2.2.2.2 u → xOld u) (hk : (T a).1 = 9) (hz : z = a + 1) (hF0 : ∀ j : Nat, F a j = 0) (hP16 : P a 16 = none) : Ct E 2 mX8_init 56 2050 [.ref a] (z, T, F, I, P, Y) (xNew a T F I P Y) := by
  refine Ct.of [some (.ref a), none] kt_X8_init rfl (Nat.le_of_ble_eq_true rfl) rfl (fun d hd => ?_)
  generalize hX : xN E _ _ _ = X
  refine xg_aloadn 1 dX8_init_0 rfl rfl rfl ?_
  refine xg_oi 4 kl_RX8_3 dX8_init_1 rfl (Nat.le_of_ble_eq_true rfl) (by omega) ?_
  refine xg_aloadn 5 dX8_init_4 rfl rfl rfl ?_
  refine xg_bipush 7 dX8_init_5 rfl (by decide) ?_
  refine xg_ana (k := 17) 10 kn_RX8_9 (fun u hu => (hE u hu).1) (by omega) rfl dX8_init_7 rfl (by omega) ⟨by first | decide | omega, by first | decide | omega⟩ ?_
  refine xg_putAF 13 kf_RX8_11 rfl (fun C T N h => by cases h.1; rfl) dX8_init_10 rfl (by simp (disch := omega) only [upT_at, upT_na, hk]) (show _ = va_rf (some _) from rfl) ?_
  refine xg_iconst 14 dX8_init_13 rfl ?_
  refine xg_istoren 15 _ dX8_init_14 rfl rfl rfl (by decide) (Or.inr rfl) ?_
  have loop15 : ∀ (mm : Nat) (k zz c0 n0 : Nat) (T1 : Nat → Nat × Int) (F1 : Nat → Nat → Int) (I1 : Nat → Int → Int) (P1 : Nat → Nat → Option Nat) (Y1 : Nat → Int → Option Nat), zz = a + 2 + 3 * k → c0 = 1 + 3 * k → n0 = 12 + 125 * k → k ≤ 12 → SN0 T1 F1 I1 P1 Y1 a k → Lo a T F I P Y T1 F1 I1 P1 Y1 → (12 : Int) - k < (mm : Int) → xG E mX8_init (xR d 56 2050) X 15 [some (.ref a), some (J (k : Int))] [] (zz, T1, F1, I1, P1, Y1) c0 n0 := by
    intro mm
    induction mm with
    | zero => intro k zz c0 n0 T1 F1 I1 P1 Y1 hzz hc0 hn0 hk12 hS hLo hm; exfalso; omega
    | succ mm ih =>
      intro k zz c0 n0 T1 F1 I1 P1 Y1 hzz hc0 hn0 hk12 hS hLo hm
      obtain ⟨⟨k1, k2, k3, k4⟩, kR, kY, kF, k16⟩ := id hS
      refine xg_iloadn 16 dX8_init_15 rfl rfl rfl ?_
      refine xg_bipush 18 dX8_init_16 rfl (by decide) ?_
      refine xg_icge 40 21 dX8_init_18 rfl rfl (by omega) (fun hb18 => ?_) (fun hb18 => ?_)
      · skip
        obtain rfl : k = 12 := by omega
        subst hzz hc0 hn0
        refine xg_aloadn 41 dX8_init_40 rfl rfl rfl ?_
        refine xg_new 44 kc_6 kd_6 kn_RX8_9 kw_RX6 dX8_init_41 rfl ⟨by first | decide | omega, by first | decide | omega⟩ ?_
        refine xg_dup 45 dX8_init_44 rfl rfl ?_
        refine xg_callI 48 [] _ ki_X6_init kl_RX8_17 dX8_init_45 rfl rfl rfl (Nat.le_of_ble_eq_true rfl) (by omega) ⟨by first | decide | omega, by first | decide | omega⟩ (ct_X6_init (by rw [upT_at]) (by omega)) ?_
        refine xg_putO 51 kf_RX8_18 dX8_init_48 rfl (by simp (disch := omega) only [upT_at, upT_na, k1, k3, k4]) (show _ = va_rf (some _) from rfl) ?_
        refine xg_aloadn 52 dX8_init_51 rfl rfl rfl ?_
        refine xg_new 55 kc_6 kd_6 kn_RX8_9 kw_RX6 dX8_init_52 rfl ⟨by first | decide | omega, by first | decide | omega⟩ ?_
        refine xg_dup 56 dX8_init_55 rfl rfl ?_
        refine xg_callI 59 [] _ ki_X6_init kl_RX8_17 dX8_init_56 rfl rfl rfl (Nat.le_of_ble_eq_true rfl) (by omega) ⟨by first | decide | omega, by first | decide | omega⟩ (ct_X6_init (by rw [upT_at]) (by omega)) ?_
        refine xg_putO 62 kf_RX8_22 dX8_init_59 rfl (by simp (disch := omega) only [upT_at, upT_na, k1, k3, k4]) (show _ = va_rf (some _) from rfl) ?_
        refine xg_aloadn 63 dX8_init_62 rfl rfl rfl ?_
        refine xg_new 66 kc_1 kd_1 kn_RX8_25 kw_RX1 dX8_init_63 rfl ⟨by first | decide | omega, by first | decide | omega⟩ ?_
        refine xg_dup 67 dX8_init_66 rfl rfl ?_
        refine xg_callN 70 [] _ ki_X1_init (fun u hu => (hE u hu).2.2.1) dX8_init_67 rfl rfl rfl (Nat.le_of_ble_eq_true rfl) (by omega) ⟨by first | decide | omega, by first | decide | omega⟩ (ct_X1_init) ?_
        refine xg_putOF 73 kf_RX8_28 rfl (fun C T N h => by cases h.1; rfl) dX8_init_70 rfl (by simp (disch := omega) only [upT_at, upT_na, k1, k3, k4]) (show _ = va_rf (some _) from rfl) ?_
        refine xg_aloadn 74 dX8_init_73 rfl rfl rfl ?_
        refine xg_new 77 kc_5 kd_5 kn_RX8_32 kw_RX5 dX8_init_74 rfl ⟨by first | decide | omega, by first | decide | omega⟩ ?_
        refine xg_dup 78 dX8_init_77 rfl rfl ?_
        refine xg_callI 81 [] _ ki_X5_init kl_RX8_34 dX8_init_78 rfl rfl rfl (Nat.le_of_ble_eq_true rfl) (by omega) ⟨by first | decide | omega, by first | decide | omega⟩ (ct_X5_init (by rw [upT_at]) (by omega)) ?_
        refine xg_putOF 84 kf_RX8_35 rfl (fun C T N h => by cases h.1; rfl) dX8_init_81 rfl (by simp (disch := omega) only [upT_at, upT_na, k1, k3, k4]) (show _ = va_rf (some _) from rfl) ?_
        refine xg_aloadn 85 dX8_init_84 rfl rfl rfl ?_
        refine xg_new 88 kc_10 kd_10 kn_RX8_39 kw_RX10 dX8_init_85 rfl ⟨by first | decide | omega, by first | decide | omega⟩ ?_
        refine xg_dup 89 dX8_init_88 rfl rfl ?_
        refine xg_callN 92 [] _ ki_X10_init (fun u hu => (hE u hu).2.2.2) dX8_init_89 rfl rfl rfl (Nat.le_of_ble_eq_true rfl) (by omega) ⟨by first | decide | omega, by first | decide | omega⟩ (ct_X10_init) ?_
        refine xg_putOF 95 kf_RX8_42 rfl (fun C T N h => by cases h.1; rfl) dX8_init_92 rfl (by simp (disch := omega) only [upT_at, upT_na, k1, k3, k4]) (show _ = va_rf (some _) from rfl) ?_
        refine xg_aloadn 96 dX8_init_95 rfl rfl rfl ?_
        refine xg_new 99 kc_2 kd_2 kn_RX8_46 kw_RX2 dX8_init_96 rfl ⟨by first | decide | omega, by first | decide | omega⟩ ?_
        refine xg_dup 100 dX8_init_99 rfl rfl ?_
        refine xg_callI 103 [] _ ki_X2_init kl_RX8_48 dX8_init_100 rfl rfl rfl (Nat.le_of_ble_eq_true rfl) (by omega) ⟨by first | decide | omega, by first | decide | omega⟩ (ct_X2_init (by rw [upT_at]) (by omega)) ?_
        refine xg_putOF 106 kf_RX8_49 rfl (fun C T N h => by cases h.1; rfl) dX8_init_103 rfl (by simp (disch := omega) only [upT_at, upT_na, k1, k3, k4]) (show _ = va_rf (some _) from rfl) ?_
        refine xg_aloadn 107 dX8_init_106 rfl rfl rfl ?_
        refine xg_bipush 109 dX8_init_107 rfl (by decide) ?_
        refine xg_nai 111 dX8_init_109 rfl (by omega) ⟨by first | decide | omega, by first | decide | omega⟩ ?_
        refine xg_putAF 114 kf_RX8_53 rfl (fun C T N h => by cases h.1; rfl) dX8_init_111 rfl (by simp (disch := omega) only [upT_at, upT_na, k1, k3, k4]) (show _ = va_rf (some _) from rfl) ?_
        refine xg_aloadn 115 dX8_init_114 rfl rfl rfl ?_
        refine xg_iconst 116 dX8_init_115 rfl ?_
        refine xg_putI 119 kf_RX8_57 dX8_init_116 rfl (by simp (disch := omega) only [upT_at, upT_na, k1, k3, k4]) ?_
        refine xg_aloadn 120 dX8_init_119 rfl rfl rfl ?_
        refine xg_iconst 121 dX8_init_120 rfl ?_
        refine xg_putI 124 kf_RX8_61 dX8_init_121 rfl (by simp (disch := omega) only [upT_at, upT_na, k1, k3, k4]) ?_
        refine xg_aloadn 125 dX8_init_124 rfl rfl rfl ?_
        refine xg_iconst 126 dX8_init_125 rfl ?_
        refine xg_putI 129 kf_RX8_64 dX8_init_126 rfl (by simp (disch := omega) only [upT_at, upT_na, k1, k3, k4]) ?_
        refine xg_aloadn 130 dX8_init_129 rfl rfl rfl ?_
        refine xg_iconst 131 dX8_init_130 rfl ?_
        refine xg_putI 134 kf_RX8_67 dX8_init_131 rfl (by simp (disch := omega) only [upT_at, upT_na, k1, k3, k4]) ?_
        subst hX
        refine xg_return dX8_init_134 rfl ⟨by first | decide | omega, by first | decide | omega⟩ ?_
        have hN13 := kR.row (zz := a + 2 + 3 * 12) rfl
        have hN13b := NR.mv (P' := upP (upP (upP (up0 P1 (a + 2 + 3 * 12) none) (a + 2 + 3 * 12) 0 (some (a + 2 + 3 * 12 + 1))) (a + 2 + 3 * 12) 1 (some (a + 2 + 3 * 12 + 1 + 1))) a 2 (some (a + 2 + 3 * 12))) hN13 (fun b b0 b1 => ⟨rfl, rfl, rfl, upP_na _ _ _ _ (by omega)⟩)
        have hN14 := hN13b.row (zz := a + 2 + 3 * 12 + 1 + 1 + 1) (by omega)
        unfold xNew
        have kY2 : ∀ j : Nat, j < 12 → Y1 (a + 1) (j : Int) = some (a + 2 + 3 * j) := kY
        refine ⟨rfl, _, _, _, _, _, rfl, ?_, ?_⟩
        · refine SNew.of (NR.mv hN14 (fun b b0 b1 => ⟨?_, ?_, ?_, ?_⟩)) ⟨?_, ?_, ?_, ?_⟩ ⟨?_, ?_⟩ ⟨?_, ?_⟩ ⟨?_, ?_⟩ ⟨?_, ?_⟩ ⟨?_, ?_, ?_⟩ kY2 ?_ ?_ (fun j => ?_) ?_ (fun j => ⟨?_, ?_, ?_, ?_⟩) (fun j => ⟨⟨?_, ?_, ?_, ?_⟩, ⟨?_, ?_, ?_, ?_⟩, ?_⟩)
          all_goals first
            | (simp (disch := omega) only [Nat.add_assoc, Nat.reduceAdd, Nat.reduceMul, upT_at, upT_na, upP_at, upP_nk, upP_na, up0_at, up0_na, upF_na, k1, k2, k3, k4, k16]; done)
            | (unfold wLev; simp (disch := omega) only [Nat.add_assoc, Nat.reduceAdd, Nat.reduceMul, upT_at, upT_na, upP_at, upP_nk, upP_na, up0_at, up0_na, upF_na, k1, k2, k3, k4, k16, and_true, true_and]; done)
            | (unfold wJou; simp (disch := omega) only [Nat.add_assoc, Nat.reduceAdd, Nat.reduceMul, upT_at, upT_na, upP_at, upP_nk, upP_na, up0_at, up0_na, upF_na, k1, k2, k3, k4, k16, and_true, true_and]; done)
            | skip
          have hf : ∀ G : Nat → Nat → Int, G a j = 0 → upF (upF (upF (upF G a 10 3) a 11 4) a 12 2) a 14 1 a j = if j = 10 then 3 else if j = 11 then 4 else if j = 12 then 2 else if j = 14 then 1 else 0 := by
            intro G hG
            unfold upF
            by_cases c14 : j = 14
            · subst c14; simp
            by_cases c12 : j = 12
            · subst c12; simp
            by_cases c11 : j = 11
            · subst c11; simp
            by_cases c10 : j = 10
            · subst c10; simp
            simp [c14, c12, c11, c10, hG]
          exact hf _ (by simp (disch := omega) only [up0_na]; exact kF j)
        · intro b hb
          obtain ⟨l1, l2, l3, l4, l5⟩ := hLo b hb
          refine ⟨?_, ?_, ?_, ?_, l5⟩
          · simp (disch := omega) only [upT_na]; exact l1
          · simp (disch := omega) only [upF_na, up0_na]; exact l2
          · simp (disch := omega) only [iNew_na, up0_na]; exact l3
          · simp (disch := omega) only [upP_na, up0_na]; exact l4
      · skip
        refine xg_aloadn 22 dX8_init_21 rfl rfl rfl ?_
        refine xg_getP 25 kf_RX8_11 dX8_init_22 rfl (by simp (disch := omega) only [upT_at, upT_na, k1, k3, k4]) (show _ = some (a + 1) from k2) ?_
        refine xg_iloadn 26 dX8_init_25 rfl rfl rfl ?_
        refine xg_new 29 kc_6 kd_6 kn_RX8_9 kw_RX6 dX8_init_26 rfl ⟨by first | decide | omega, by first | decide | omega⟩ ?_
        refine xg_dup 30 dX8_init_29 rfl rfl ?_
        refine xg_callI 33 [] _ ki_X6_init kl_RX8_17 dX8_init_30 rfl rfl rfl (Nat.le_of_ble_eq_true rfl) (by omega) ⟨by first | decide | omega, by first | decide | omega⟩ (ct_X6_init (by rw [upT_at]) (by omega)) ?_
        refine xg_rast 34 dX8_init_33 rfl (by simp (disch := omega) only [upT_at, upT_na, k1, k3, k4]) (by simp (disch := omega) only [upT_at, upT_na]) (by simp (disch := omega) only [upT_at, upT_na, k4]; omega) ?_
        refine xg_iinc 37 _ dX8_init_34 rfl rfl rfl rfl (by decide) (Or.inr rfl) ?_
        refine xg_goto 15 dX8_init_37 rfl ?_
        have e9 : ((k : Int) + 1) = ((k + 1 : Nat) : Int) := by omega
        rw [e9]
        exact ih (k + 1) _ _ _ _ _ _ _ _ (by omega) (by omega) (by omega) (by omega) (hS.row hzz) (hLo.row hzz) (by omega)
  refine loop15 13 0 _ _ _ _ _ _ _ _ (by omega) (by omega) (by decide) (by omega) ⟨⟨?_, ?_, ?_, ?_⟩, fun i hi => absurd hi (Nat.not_lt_zero i), fun i hi => absurd hi (Nat.not_lt_zero i), hF0, ?_⟩ (fun b hb => ⟨?_, rfl, rfl, ?_, ?_⟩) (by omega)
  · simp (disch := omega) only [upT_at, upT_na, hk]
  · rw [upP_at, hz]
  · rw [hz, upT_at]
  · rw [hz, upT_at]
  · rw [upP_nk _ _ _ _ (by omega)]; exact hP16
  · simp (disch := omega) only [upT_na]
  · rw [upP_na _ _ _ _ (by omega)]
  · rw [up0_na _ _ _ (by omega)]

