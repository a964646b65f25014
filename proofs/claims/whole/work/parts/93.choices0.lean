theorem dX0_init_0 : decode cX0_init 0 = .ok (.aload_n 0, 1) := by decide +kernel
theorem dX0_init_1 : decode cX0_init 1 = .ok (.invokespecial 3, 3) := by decide +kernel
theorem dX0_init_4 : decode cX0_init 4 = .ok (.aload_n 0, 1) := by decide +kernel
theorem dX0_init_5 : decode cX0_init 5 = .ok (.bipush 12, 2) := by decide +kernel
theorem dX0_init_7 : decode cX0_init 7 = .ok (.bipush 12, 2) := by decide +kernel
theorem dX0_init_9 : decode cX0_init 9 = .ok (.multianewarray 9 2, 4) := by decide +kernel
theorem dX0_init_13 : decode cX0_init 13 = .ok (.putfield 11, 3) := by decide +kernel
theorem dX0_init_16 : decode cX0_init 16 = .ok (.aload_n 0, 1) := by decide +kernel
theorem dX0_init_17 : decode cX0_init 17 = .ok (.bipush 12, 2) := by decide +kernel
theorem dX0_init_19 : decode cX0_init 19 = .ok (.bipush 12, 2) := by decide +kernel
theorem dX0_init_21 : decode cX0_init 21 = .ok (.multianewarray 9 2, 4) := by decide +kernel
theorem dX0_init_25 : decode cX0_init 25 = .ok (.putfield 16, 3) := by decide +kernel
theorem dX0_init_28 : decode cX0_init 28 = .ok (.aload_n 0, 1) := by decide +kernel
theorem dX0_init_29 : decode cX0_init 29 = .ok (.bipush 13, 2) := by decide +kernel
theorem dX0_init_31 : decode cX0_init 31 = .ok (.newarray .int, 2) := by decide +kernel
theorem dX0_init_33 : decode cX0_init 33 = .ok (.putfield 19, 3) := by decide +kernel
theorem dX0_init_36 : decode cX0_init 36 = .ok (.aload_n 0, 1) := by decide +kernel
theorem dX0_init_37 : decode cX0_init 37 = .ok (.bipush 8, 2) := by decide +kernel
theorem dX0_init_39 : decode cX0_init 39 = .ok (.bipush 8, 2) := by decide +kernel
theorem dX0_init_41 : decode cX0_init 41 = .ok (.multianewarray 9 2, 4) := by decide +kernel
theorem dX0_init_45 : decode cX0_init 45 = .ok (.putfield 23, 3) := by decide +kernel
theorem dX0_init_48 : decode cX0_init 48 = .ok (.aload_n 0, 1) := by decide +kernel
theorem dX0_init_49 : decode cX0_init 49 = .ok (.sipush 256, 3) := by decide +kernel
theorem dX0_init_52 : decode cX0_init 52 = .ok (.newarray .int, 2) := by decide +kernel
theorem dX0_init_54 : decode cX0_init 54 = .ok (.putfield 26, 3) := by decide +kernel
theorem dX0_init_57 : decode cX0_init 57 = .ok (.aload_n 0, 1) := by decide +kernel
theorem dX0_init_58 : decode cX0_init 58 = .ok (.bipush 8, 2) := by decide +kernel
theorem dX0_init_60 : decode cX0_init 60 = .ok (.newarray .int, 2) := by decide +kernel
theorem dX0_init_62 : decode cX0_init 62 = .ok (.putfield 29, 3) := by decide +kernel
theorem dX0_init_65 : decode cX0_init 65 = .ok (.return_, 1) := by decide +kernel
/-- a matrix of n rows of k -/
def wMat (T : Nat → Nat × Int) (Y : Nat → Int → Option Nat) (b n : Nat) (k : Int) : Prop := ((T b).1 = 19 ∧ (T b).2 = n) ∧ ∀ i : Nat, i < n → Y b (i : Int) = some (b + 1 + i) ∧ (T (b + 1 + i)).1 = 14 ∧ (T (b + 1 + i)).2 = k
/-- the choices at a -/
def wCho (T : Nat → Nat × Int) (P : Nat → Nat → Option Nat) (Y : Nat → Int → Option Nat) (a : Nat) : Prop := (T a).1 = 1 ∧ (P a 0 = some (a + 1) ∧ wMat T Y (a + 1) 12 12) ∧ (P a 1 = some (a + 14) ∧ wMat T Y (a + 14) 12 12) ∧ (P a 2 = some (a + 27) ∧ (T (a + 27)).1 = 14 ∧ (T (a + 27)).2 = 13) ∧ (P a 3 = some (a + 28) ∧ wMat T Y (a + 28) 8 8) ∧ (P a 4 = some (a + 37) ∧ (T (a + 37)).1 = 14 ∧ (T (a + 37)).2 = 256) ∧ P a 5 = some (a + 38) ∧ (T (a + 38)).1 = 14 ∧ (T (a + 38)).2 = 8
def xNewC (a : Nat) (T : Nat → Nat × Int) (F : Nat → Nat → Int) (I : Nat → Int → Int) (P : Nat → Nat → Option Nat) (Y : Nat → Int → Option Nat) : Option Value → xH → Prop := fun v h' => v = none ∧ ∃ (T' : Nat → Nat × Int) (I' : Nat → Int → Int) (P' : Nat → Nat → Option Nat) (Y' : Nat → Int → Option Nat), h' = (a + 39, T', F, I', P', Y') ∧ wCho T' P' Y' a ∧ Lo a T F I P Y T' F I' P' Y'
set_option maxHeartbeats 4000000 in
set_option maxRecDepth 100000 in
theorem ct_X0_init {E : xE} {z : Nat} {T : Nat → Nat × Int} {F : Nat → Nat → Int} {I : Nat → Int → Int} {P : Nat → Nat → Option Nat} {Y : Nat → Int → Option Nat} {a : Nat} (hE : ∀ u : State, E.2.2.2.2 u → (Cond.arrayOver (.array .int)).before #[] u = true) (hk : (T a).1 = 1) (hz : z = a + 1) : Ct E 1 mX0_init 38 661 [.ref a] (z, T, F, I, P, Y) (xNewC a T F I P Y) := by
  subst hz
  refine Ct.of [some (.ref a)] kt_X0_init rfl (Nat.le_of_ble_eq_true rfl) rfl (fun d hd => ?_)
  generalize hX : xN E _ _ _ = X
  refine xg_aloadn 1 dX0_init_0 rfl rfl rfl ?_
  refine xg_oi 4 kl_RX0_3 dX0_init_1 rfl (Nat.le_of_ble_eq_true rfl) (by omega) ?_
  refine xg_aloadn 5 dX0_init_4 rfl rfl rfl ?_
  refine xg_bipush 7 dX0_init_5 rfl (by decide) ?_
  refine xg_bipush 9 dX0_init_7 rfl (by decide) ?_
  refine xg_mna 13 kn_RX0_9 hE dX0_init_9 rfl (by omega) (by omega) ⟨by first | decide | omega, by first | decide | omega⟩ ?_
  refine xg_putAF 16 kf_RX0_11 rfl (fun C T N h => by cases h.1; rfl) dX0_init_13 rfl (by simp (disch := omega) only [upT_na, mnT_lo, hk]) (show _ = va_rf (some _) from rfl) ?_
  refine xg_aloadn 17 dX0_init_16 rfl rfl rfl ?_
  refine xg_bipush 19 dX0_init_17 rfl (by decide) ?_
  refine xg_bipush 21 dX0_init_19 rfl (by decide) ?_
  refine xg_mna 25 kn_RX0_9 hE dX0_init_21 rfl (by omega) (by omega) ⟨by first | decide | omega, by first | decide | omega⟩ ?_
  refine xg_putAF 28 kf_RX0_16 rfl (fun C T N h => by cases h.1; rfl) dX0_init_25 rfl (by simp (disch := omega) only [upT_na, mnT_lo, hk]) (show _ = va_rf (some _) from rfl) ?_
  refine xg_aloadn 29 dX0_init_28 rfl rfl rfl ?_
  refine xg_bipush 31 dX0_init_29 rfl (by decide) ?_
  refine xg_nai 33 dX0_init_31 rfl (by omega) ⟨by first | decide | omega, by first | decide | omega⟩ ?_
  refine xg_putAF 36 kf_RX0_19 rfl (fun C T N h => by cases h.1; rfl) dX0_init_33 rfl (by simp (disch := omega) only [upT_na, mnT_lo, hk]) (show _ = va_rf (some _) from rfl) ?_
  refine xg_aloadn 37 dX0_init_36 rfl rfl rfl ?_
  refine xg_bipush 39 dX0_init_37 rfl (by decide) ?_
  refine xg_bipush 41 dX0_init_39 rfl (by decide) ?_
  refine xg_mna 45 kn_RX0_9 hE dX0_init_41 rfl (by omega) (by omega) ⟨by first | decide | omega, by first | decide | omega⟩ ?_
  refine xg_putAF 48 kf_RX0_23 rfl (fun C T N h => by cases h.1; rfl) dX0_init_45 rfl (by simp (disch := omega) only [upT_na, mnT_lo, hk]) (show _ = va_rf (some _) from rfl) ?_
  refine xg_aloadn 49 dX0_init_48 rfl rfl rfl ?_
  refine xg_sipush 52 dX0_init_49 rfl (by decide) ?_
  refine xg_nai 54 dX0_init_52 rfl (by omega) ⟨by first | decide | omega, by first | decide | omega⟩ ?_
  refine xg_putAF 57 kf_RX0_26 rfl (fun C T N h => by cases h.1; rfl) dX0_init_54 rfl (by simp (disch := omega) only [upT_na, mnT_lo, hk]) (show _ = va_rf (some _) from rfl) ?_
  refine xg_aloadn 58 dX0_init_57 rfl rfl rfl ?_
  refine xg_bipush 60 dX0_init_58 rfl (by decide) ?_
  refine xg_nai 62 dX0_init_60 rfl (by omega) ⟨by first | decide | omega, by first | decide | omega⟩ ?_
  refine xg_putAF 65 kf_RX0_29 rfl (fun C T N h => by cases h.1; rfl) dX0_init_62 rfl (by simp (disch := omega) only [upT_na, mnT_lo, hk]) (show _ = va_rf (some _) from rfl) ?_
  subst hX
  refine xg_return dX0_init_65 rfl ⟨by first | decide | omega, by first | decide | omega⟩ ?_
  unfold xNewC
  refine ⟨rfl, _, _, _, _, rfl, ⟨?_, ⟨?_, ⟨?_, ?_⟩, fun i hi => ⟨?_, ?_, ?_⟩⟩, ⟨?_, ⟨?_, ?_⟩, fun i hi => ⟨?_, ?_, ?_⟩⟩, ⟨?_, ?_, ?_⟩, ⟨?_, ⟨?_, ?_⟩, fun i hi => ⟨?_, ?_, ?_⟩⟩, ⟨?_, ?_, ?_⟩, ?_, ?_, ?_⟩, fun b hb => ⟨?_, rfl, ?_, ?_, ?_⟩⟩
  all_goals first
    | (simp (disch := omega) only [Nat.add_assoc, Nat.reduceAdd, Int.reduceToNat, upT_at, upT_na, upP_at, upP_nk, upP_na, up0_at, up0_na, mnT_at, mnT_lo, mnT_in, mnT_hi, mnI_lo, mnY_in, mnY_lo, hk]; done)
    | (simp (disch := omega) only [Nat.add_assoc, Nat.reduceAdd, Int.reduceToNat, upT_at, upT_na, upP_at, upP_nk, upP_na, up0_at, up0_na, mnT_at, mnT_lo, mnT_in, mnT_hi, mnI_lo, mnY_in, mnY_lo, hk]; rfl)
    | skip

