theorem dX11_init_0 : decode cX11_init 0 = .ok (.aload_n 0, 1) := by decide +kernel
theorem dX11_init_1 : decode cX11_init 1 = .ok (.invokespecial 1, 3) := by decide +kernel
theorem dX11_init_4 : decode cX11_init 4 = .ok (.aload_n 0, 1) := by decide +kernel
theorem dX11_init_5 : decode cX11_init 5 = .ok (.sipush 400, 3) := by decide +kernel
theorem dX11_init_8 : decode cX11_init 8 = .ok (.newarray .int, 2) := by decide +kernel
theorem dX11_init_10 : decode cX11_init 10 = .ok (.putfield 9, 3) := by decide +kernel
theorem dX11_init_13 : decode cX11_init 13 = .ok (.aload_n 0, 1) := by decide +kernel
theorem dX11_init_14 : decode cX11_init 14 = .ok (.iconst 0, 1) := by decide +kernel
theorem dX11_init_15 : decode cX11_init 15 = .ok (.putfield 13, 3) := by decide +kernel
theorem dX11_init_18 : decode cX11_init 18 = .ok (.aload_n 0, 1) := by decide +kernel
theorem dX11_init_19 : decode cX11_init 19 = .ok (.iconst (-1), 1) := by decide +kernel
theorem dX11_init_20 : decode cX11_init 20 = .ok (.putfield 17, 3) := by decide +kernel
theorem dX11_init_23 : decode cX11_init 23 = .ok (.aload_n 0, 1) := by decide +kernel
theorem dX11_init_24 : decode cX11_init 24 = .ok (.new 20, 3) := by decide +kernel
theorem dX11_init_27 : decode cX11_init 27 = .ok (.dup, 1) := by decide +kernel
theorem dX11_init_28 : decode cX11_init 28 = .ok (.invokespecial 22, 3) := by decide +kernel
theorem dX11_init_31 : decode cX11_init 31 = .ok (.putfield 23, 3) := by decide +kernel
theorem dX11_init_34 : decode cX11_init 34 = .ok (.aload_n 0, 1) := by decide +kernel
theorem dX11_init_35 : decode cX11_init 35 = .ok (.new 20, 3) := by decide +kernel
theorem dX11_init_38 : decode cX11_init 38 = .ok (.dup, 1) := by decide +kernel
theorem dX11_init_39 : decode cX11_init 39 = .ok (.invokespecial 22, 3) := by decide +kernel
theorem dX11_init_42 : decode cX11_init 42 = .ok (.putfield 27, 3) := by decide +kernel
theorem dX11_init_45 : decode cX11_init 45 = .ok (.aload_n 0, 1) := by decide +kernel
theorem dX11_init_46 : decode cX11_init 46 = .ok (.aconst_null, 1) := by decide +kernel
theorem dX11_init_47 : decode cX11_init 47 = .ok (.putfield 30, 3) := by decide +kernel
theorem dX11_init_50 : decode cX11_init 50 = .ok (.aload_n 0, 1) := by decide +kernel
theorem dX11_init_51 : decode cX11_init 51 = .ok (.bipush 12, 2) := by decide +kernel
theorem dX11_init_53 : decode cX11_init 53 = .ok (.anewarray 20, 3) := by decide +kernel
theorem dX11_init_56 : decode cX11_init 56 = .ok (.putfield 33, 3) := by decide +kernel
theorem dX11_init_59 : decode cX11_init 59 = .ok (.aload_n 0, 1) := by decide +kernel
theorem dX11_init_60 : decode cX11_init 60 = .ok (.iconst 0, 1) := by decide +kernel
theorem dX11_init_61 : decode cX11_init 61 = .ok (.putfield 37, 3) := by decide +kernel
theorem dX11_init_64 : decode cX11_init 64 = .ok (.aload_n 0, 1) := by decide +kernel
theorem dX11_init_65 : decode cX11_init 65 = .ok (.iconst 0, 1) := by decide +kernel
theorem dX11_init_66 : decode cX11_init 66 = .ok (.putfield 40, 3) := by decide +kernel
theorem dX11_init_69 : decode cX11_init 69 = .ok (.aload_n 0, 1) := by decide +kernel
theorem dX11_init_70 : decode cX11_init 70 = .ok (.new 43, 3) := by decide +kernel
theorem dX11_init_73 : decode cX11_init 73 = .ok (.dup, 1) := by decide +kernel
theorem dX11_init_74 : decode cX11_init 74 = .ok (.invokespecial 45, 3) := by decide +kernel
theorem dX11_init_77 : decode cX11_init 77 = .ok (.putfield 46, 3) := by decide +kernel
theorem dX11_init_80 : decode cX11_init 80 = .ok (.aload_n 0, 1) := by decide +kernel
theorem dX11_init_81 : decode cX11_init 81 = .ok (.new 50, 3) := by decide +kernel
theorem dX11_init_84 : decode cX11_init 84 = .ok (.dup, 1) := by decide +kernel
theorem dX11_init_85 : decode cX11_init 85 = .ok (.aload_n 0, 1) := by decide +kernel
theorem dX11_init_86 : decode cX11_init 86 = .ok (.getfield 46, 3) := by decide +kernel
theorem dX11_init_89 : decode cX11_init 89 = .ok (.invokespecial 52, 3) := by decide +kernel
theorem dX11_init_92 : decode cX11_init 92 = .ok (.putfield 55, 3) := by decide +kernel
theorem dX11_init_95 : decode cX11_init 95 = .ok (.aload_n 0, 1) := by decide +kernel
theorem dX11_init_96 : decode cX11_init 96 = .ok (.new 59, 3) := by decide +kernel
theorem dX11_init_99 : decode cX11_init 99 = .ok (.dup, 1) := by decide +kernel
theorem dX11_init_100 : decode cX11_init 100 = .ok (.aload_n 0, 1) := by decide +kernel
theorem dX11_init_101 : decode cX11_init 101 = .ok (.getfield 46, 3) := by decide +kernel
theorem dX11_init_104 : decode cX11_init 104 = .ok (.invokespecial 61, 3) := by decide +kernel
theorem dX11_init_107 : decode cX11_init 107 = .ok (.putfield 62, 3) := by decide +kernel
theorem dX11_init_110 : decode cX11_init 110 = .ok (.aload_n 0, 1) := by decide +kernel
theorem dX11_init_111 : decode cX11_init 111 = .ok (.new 66, 3) := by decide +kernel
theorem dX11_init_114 : decode cX11_init 114 = .ok (.dup, 1) := by decide +kernel
theorem dX11_init_115 : decode cX11_init 115 = .ok (.invokespecial 68, 3) := by decide +kernel
theorem dX11_init_118 : decode cX11_init 118 = .ok (.putfield 69, 3) := by decide +kernel
theorem dX11_init_121 : decode cX11_init 121 = .ok (.return_, 1) := by decide +kernel
/-- the ledger at o is new -/
def LNew (T : Nat → Nat × Int) (F : Nat → Nat → Int) (I : Nat → Int → Int) (P : Nat → Nat → Option Nat) (Y : Nat → Int → Option Nat) (o : Nat) : Prop := ((T o).1 = 12 ∧ P o 0 = some (o + 1) ∧ (T (o + 1)).1 = 14 ∧ (T (o + 1)).2 = 400) ∧ (F o 1 = 0 ∧ F o 2 = -1 ∧ F o 7 = 0 ∧ F o 8 = 0) ∧ (P o 3 = some (o + 2) ∧ SNew T F I P Y (o + 2)) ∧ (P o 4 = some (o + 59) ∧ SNew T F I P Y (o + 59)) ∧ P o 5 = none ∧ (P o 6 = some (o + 116) ∧ (T (o + 116)).1 = 18 ∧ (T (o + 116)).2 = 12 ∧ ∀ j : Int, Y (o + 116) j = none) ∧ (P o 9 = some (o + 117) ∧ wScn T P (o + 117) ∧ F (o + 117) 5 = -1) ∧ (P o 10 = some (o + 121) ∧ wSrd T P (o + 121) (o + 117)) ∧ (P o 11 = some (o + 124) ∧ wLrd T P (o + 124) (o + 117)) ∧ P o 12 = some (o + 129) ∧ wCho T P Y (o + 129)
def xNewL (o : Nat) (T : Nat → Nat × Int) (F : Nat → Nat → Int) (I : Nat → Int → Int) (P : Nat → Nat → Option Nat) (Y : Nat → Int → Option Nat) : Option Value → xH → Prop := fun v h' => v = none ∧ ∃ (T' : Nat → Nat × Int) (F' : Nat → Nat → Int) (I' : Nat → Int → Int) (P' : Nat → Nat → Option Nat) (Y' : Nat → Int → Option Nat), h' = (o + 168, T', F', I', P', Y') ∧ LNew T' F' I' P' Y' o ∧ Lo o T F I P Y T' F' I' P' Y'
set_option maxHeartbeats 4000000 in
set_option maxRecDepth 100000 in
theorem ct_X11_init {E : xE} {z : Nat} {T : Nat → Nat × Int} {F : Nat → Nat → Int} {I : Nat → Int → Int} {P : Nat → Nat → Option Nat} {Y : Nat → Int → Option Nat} {o : Nat} (hE : ∀ u : State, E.2.2.2.2 u → xOld u) (hE2 : ∀ u : State, E.2.2.2.2 u → (Cond.arrayOver (.array .int)).before #[] u = true) (hk : (T o).1 = 12) (hz : z = o + 1) : Ct E 3 mX11_init 167 6911 [.ref o] (z, T, F, I, P, Y) (xNewL o T F I P Y) := by
  subst hz
  refine Ct.of [some (.ref o)] kt_X11_init rfl (Nat.le_of_ble_eq_true rfl) rfl (fun d hd => ?_)
  generalize hX : xN E _ _ _ = X
  refine xg_aloadn 1 dX11_init_0 rfl rfl rfl ?_
  refine xg_oi 4 kl_RX11_1 dX11_init_1 rfl (Nat.le_of_ble_eq_true rfl) (by omega) ?_
  refine xg_aloadn 5 dX11_init_4 rfl rfl rfl ?_
  refine xg_sipush 8 dX11_init_5 rfl (by decide) ?_
  refine xg_nai 10 dX11_init_8 rfl (by omega) ⟨by first | decide | omega, by first | decide | omega⟩ ?_
  refine xg_putAF 13 kf_RX11_9 rfl (fun C T N h => by cases h.1; rfl) dX11_init_10 rfl (by simp (disch := omega) only [upT_na, hk]) (show _ = va_rf (some _) from rfl) ?_
  refine xg_aloadn 14 dX11_init_13 rfl rfl rfl ?_
  refine xg_iconst 15 dX11_init_14 rfl ?_
  refine xg_putI 18 kf_RX11_13 dX11_init_15 rfl (by simp (disch := omega) only [upT_na, hk]) ?_
  refine xg_aloadn 19 dX11_init_18 rfl rfl rfl ?_
  refine xg_iconst 20 dX11_init_19 rfl ?_
  refine xg_putI 23 kf_RX11_17 dX11_init_20 rfl (by simp (disch := omega) only [upT_na, hk]) ?_
  refine xg_aloadn 24 dX11_init_23 rfl rfl rfl ?_
  refine xg_new 27 kc_8 kd_8 kn_RX11_20 kw_RX8 dX11_init_24 rfl ⟨by first | decide | omega, by first | decide | omega⟩ ?_
  refine xg_dup 28 dX11_init_27 rfl rfl ?_
  refine xg_callIs 31 [] _ ki_X8_init kl_RX11_22 dX11_init_28 rfl rfl rfl (Nat.le_of_ble_eq_true rfl) (by omega) ⟨by first | decide | omega, by first | decide | omega⟩ (ct_X8_init hE (by rw [upT_at]) rfl (fun j => by rw [up0_at]) (by rw [up0_at])) (fun T1 F1 I1 P1 Y1 hN1 hL1 => ?_)
  have k1 : (T1 o).1 = 12 := by
    rw [(hL1 o (by omega)).1]
    simp (disch := omega) only [upT_na, hk]
  refine xg_putO 34 kf_RX11_23 dX11_init_31 rfl (by simp (disch := omega) only [upT_na, k1]) (show _ = va_rf (some _) from rfl) ?_
  refine xg_aloadn 35 dX11_init_34 rfl rfl rfl ?_
  refine xg_new 38 kc_8 kd_8 kn_RX11_20 kw_RX8 dX11_init_35 rfl ⟨by first | decide | omega, by first | decide | omega⟩ ?_
  refine xg_dup 39 dX11_init_38 rfl rfl ?_
  refine xg_callIs 42 [] _ ki_X8_init kl_RX11_22 dX11_init_39 rfl rfl rfl (Nat.le_of_ble_eq_true rfl) (by omega) ⟨by first | decide | omega, by first | decide | omega⟩ (ct_X8_init hE (by rw [upT_at]) rfl (fun j => by rw [up0_at]) (by rw [up0_at])) (fun T2 F2 I2 P2 Y2 hN2 hL2 => ?_)
  have k2 : (T2 o).1 = 12 := by
    rw [(hL2 o (by omega)).1]
    simp (disch := omega) only [upT_na, k1]
  refine xg_putO 45 kf_RX11_27 dX11_init_42 rfl (by simp (disch := omega) only [upT_na, k2]) (show _ = va_rf (some _) from rfl) ?_
  refine xg_aloadn 46 dX11_init_45 rfl rfl rfl ?_
  refine xg_null 47 dX11_init_46 rfl ?_
  refine xg_putO 50 kf_RX11_30 dX11_init_47 rfl (by simp (disch := omega) only [upT_na, k2]) (show _ = va_rf none from rfl) ?_
  refine xg_aloadn 51 dX11_init_50 rfl rfl rfl ?_
  refine xg_bipush 53 dX11_init_51 rfl (by decide) ?_
  refine xg_ana (k := 18) 56 kn_RX11_20 (fun u hu => (hE u hu).2.1) (by omega) rfl dX11_init_53 rfl (by omega) ⟨by first | decide | omega, by first | decide | omega⟩ ?_
  refine xg_putAF 59 kf_RX11_33 rfl (fun C T N h => by cases h.1; rfl) dX11_init_56 rfl (by simp (disch := omega) only [upT_na, k2]) (show _ = va_rf (some _) from rfl) ?_
  refine xg_aloadn 60 dX11_init_59 rfl rfl rfl ?_
  refine xg_iconst 61 dX11_init_60 rfl ?_
  refine xg_putI 64 kf_RX11_37 dX11_init_61 rfl (by simp (disch := omega) only [upT_na, k2]) ?_
  refine xg_aloadn 65 dX11_init_64 rfl rfl rfl ?_
  refine xg_iconst 66 dX11_init_65 rfl ?_
  refine xg_putI 69 kf_RX11_40 dX11_init_66 rfl (by simp (disch := omega) only [upT_na, k2]) ?_
  refine xg_aloadn 70 dX11_init_69 rfl rfl rfl ?_
  refine xg_new 73 kc_7 kd_7 kn_RX11_43 kw_RX7 dX11_init_70 rfl ⟨by first | decide | omega, by first | decide | omega⟩ ?_
  refine xg_dup 74 dX11_init_73 rfl rfl ?_
  refine xg_callI 77 [] _ ki_X7_init kl_RX11_45 dX11_init_74 rfl rfl rfl (Nat.le_of_ble_eq_true rfl) (by omega) ⟨by first | decide | omega, by first | decide | omega⟩ (ct_X7_init (by rw [upT_at]) (by omega)) ?_
  refine xg_putOF 80 kf_RX11_46 rfl (fun C T N h => by cases h.1; rfl) dX11_init_77 rfl (by simp (disch := omega) only [upT_na, k2]) (show _ = va_rf (some _) from rfl) ?_
  refine xg_aloadn 81 dX11_init_80 rfl rfl rfl ?_
  refine xg_new 84 kc_9 kd_9 kn_RX11_50 kw_RX9 dX11_init_81 rfl ⟨by first | decide | omega, by first | decide | omega⟩ ?_
  refine xg_dup 85 dX11_init_84 rfl rfl ?_
  refine xg_aloadn 86 dX11_init_85 rfl rfl rfl ?_
  refine xg_getP 89 kf_RX11_46 dX11_init_86 rfl (by simp (disch := omega) only [upT_na, k2]) (show _ = some (o + 1 + 1 + 57 + 57 + 1) by simp (disch := omega) only [up0_na, upP_at, upP_nk, upP_na]) ?_
  refine xg_callI 92 [_] _ ki_X9_init kl_RX11_52 dX11_init_89 rfl rfl rfl (Nat.le_of_ble_eq_true rfl) (by omega) ⟨by first | decide | omega, by first | decide | omega⟩ (ct_X9_init (by rw [upT_at]) (by omega)) ?_
  refine xg_putOF 95 kf_RX11_55 rfl (fun C T N h => by cases h.1; rfl) dX11_init_92 rfl (by simp (disch := omega) only [upT_na, k2]) (show _ = va_rf (some _) from rfl) ?_
  refine xg_aloadn 96 dX11_init_95 rfl rfl rfl ?_
  refine xg_new 99 kc_4 kd_4 kn_RX11_59 kw_RX4 dX11_init_96 rfl ⟨by first | decide | omega, by first | decide | omega⟩ ?_
  refine xg_dup 100 dX11_init_99 rfl rfl ?_
  refine xg_aloadn 101 dX11_init_100 rfl rfl rfl ?_
  refine xg_getP 104 kf_RX11_46 dX11_init_101 rfl (by simp (disch := omega) only [upT_na, k2]) (show _ = some (o + 1 + 1 + 57 + 57 + 1) by simp (disch := omega) only [up0_na, upP_at, upP_nk, upP_na]) ?_
  refine xg_callI 107 [_] _ ki_X4_init kl_RX11_61 dX11_init_104 rfl rfl rfl (Nat.le_of_ble_eq_true rfl) (by omega) ⟨by first | decide | omega, by first | decide | omega⟩ (ct_X4_init (by rw [upT_at]) (by omega)) ?_
  refine xg_putOF 110 kf_RX11_62 rfl (fun C T N h => by cases h.1; rfl) dX11_init_107 rfl (by simp (disch := omega) only [upT_na, k2]) (show _ = va_rf (some _) from rfl) ?_
  refine xg_aloadn 111 dX11_init_110 rfl rfl rfl ?_
  refine xg_new 114 kc_0 kd_0 kn_RX11_66 kw_RX0 dX11_init_111 rfl ⟨by first | decide | omega, by first | decide | omega⟩ ?_
  refine xg_dup 115 dX11_init_114 rfl rfl ?_
  refine xg_callIc 118 [] _ ki_X0_init kl_RX11_68 dX11_init_115 rfl rfl rfl (Nat.le_of_ble_eq_true rfl) (by omega) ⟨by first | decide | omega, by first | decide | omega⟩ (ct_X0_init hE2 (by rw [upT_at]) rfl) (fun T3 I3 P3 Y3 hC3 hL3 => ?_)
  have k3 : (T3 o).1 = 12 := by
    rw [(hL3 o (by omega)).1]
    simp (disch := omega) only [upT_na, k2]
  refine xg_putOF 121 kf_RX11_69 rfl (fun C T N h => by cases h.1; rfl) dX11_init_118 rfl (by simp (disch := omega) only [upT_na, k3]) (show _ = va_rf (some _) from rfl) ?_
  subst hX
  refine xg_return dX11_init_121 rfl ⟨by first | decide | omega, by first | decide | omega⟩ ?_
  unfold xNewL
  have l1T := fun (b : Nat) hb => (hL1 b hb).1
  have l1F := fun (b : Nat) hb => (hL1 b hb).2.1
  have l1I := fun (b : Nat) hb => (hL1 b hb).2.2.1
  have l1P := fun (b : Nat) hb => (hL1 b hb).2.2.2.1
  have l1Y := fun (b : Nat) hb => (hL1 b hb).2.2.2.2
  have l2T := fun (b : Nat) hb => (hL2 b hb).1
  have l2F := fun (b : Nat) hb => (hL2 b hb).2.1
  have l2I := fun (b : Nat) hb => (hL2 b hb).2.2.1
  have l2P := fun (b : Nat) hb => (hL2 b hb).2.2.2.1
  have l2Y := fun (b : Nat) hb => (hL2 b hb).2.2.2.2
  have l3T := fun (b : Nat) hb => (hL3 b hb).1
  have l3I := fun (b : Nat) hb => (hL3 b hb).2.2.1
  have l3P := fun (b : Nat) hb => (hL3 b hb).2.2.2.1
  have l3Y := fun (b : Nat) hb => (hL3 b hb).2.2.2.2
  refine ⟨rfl, _, _, _, _, _, rfl, ⟨⟨?_, ?_, ?_, ?_⟩, ⟨?_, ?_, ?_, ?_⟩, ⟨?_, hN1.mv (fun b b0 b1 => ⟨?_, ?_, ?_, ?_, ?_⟩)⟩, ⟨?_, hN2.mv (fun b b0 b1 => ⟨?_, ?_, ?_, ?_, ?_⟩)⟩, ?_, ⟨?_, ?_, ?_, fun j => ?_⟩, ⟨?_, ?_, ?_⟩, ⟨?_, ?_⟩, ⟨?_, ?_⟩, ?_, ?_⟩, fun b hb => ⟨?_, ?_, ?_, ?_, ?_⟩⟩
  all_goals first
    | (simp (disch := omega) only [Nat.add_assoc, Nat.reduceAdd, upT_at, upT_na, upP_at, upP_nk, upP_na, up0_at, up0_na, upF_at, upF_nk, upF_na, l1T, l1F, l1I, l1P, l1Y, l2T, l2F, l2I, l2P, l2Y, l3T, l3I, l3P, l3Y, hk]; done)
    | (unfold wScn; simp (disch := omega) only [Nat.add_assoc, Nat.reduceAdd, upT_at, upT_na, upP_at, upP_nk, upP_na, up0_at, up0_na, upF_at, upF_nk, upF_na, l1T, l1F, l1I, l1P, l1Y, l2T, l2F, l2I, l2P, l2Y, l3T, l3I, l3P, l3Y, true_and, and_true]; done)
    | (unfold wSrd; simp (disch := omega) only [Nat.add_assoc, Nat.reduceAdd, upT_at, upT_na, upP_at, upP_nk, upP_na, up0_at, up0_na, upF_at, upF_nk, upF_na, l1T, l1F, l1I, l1P, l1Y, l2T, l2F, l2I, l2P, l2Y, l3T, l3I, l3P, l3Y, true_and, and_true]; done)
    | (unfold wLrd; simp (disch := omega) only [Nat.add_assoc, Nat.reduceAdd, upT_at, upT_na, upP_at, upP_nk, upP_na, up0_at, up0_na, upF_at, upF_nk, upF_na, l1T, l1F, l1I, l1P, l1Y, l2T, l2F, l2I, l2P, l2Y, l3T, l3I, l3P, l3Y, true_and, and_true]; done)
    | (unfold wCho at hC3 ⊢; simp (disch := omega) only [upP_na]; exact hC3)
    | skip

