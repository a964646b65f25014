theorem dX9_init_0 : decode cX9_init 0 = .ok (.aload_n 0, 1) := by decide +kernel
theorem dX9_init_1 : decode cX9_init 1 = .ok (.invokespecial 3, 3) := by decide +kernel
theorem dX9_init_4 : decode cX9_init 4 = .ok (.aload_n 0, 1) := by decide +kernel
theorem dX9_init_5 : decode cX9_init 5 = .ok (.aload_n 1, 1) := by decide +kernel
theorem dX9_init_6 : decode cX9_init 6 = .ok (.putfield 9, 3) := by decide +kernel
theorem dX9_init_9 : decode cX9_init 9 = .ok (.aload_n 0, 1) := by decide +kernel
theorem dX9_init_10 : decode cX9_init 10 = .ok (.bipush 20, 2) := by decide +kernel
theorem dX9_init_12 : decode cX9_init 12 = .ok (.newarray .int, 2) := by decide +kernel
theorem dX9_init_14 : decode cX9_init 14 = .ok (.putfield 15, 3) := by decide +kernel
theorem dX9_init_17 : decode cX9_init 17 = .ok (.aload_n 0, 1) := by decide +kernel
theorem dX9_init_18 : decode cX9_init 18 = .ok (.bipush 20, 2) := by decide +kernel
theorem dX9_init_20 : decode cX9_init 20 = .ok (.newarray .int, 2) := by decide +kernel
theorem dX9_init_22 : decode cX9_init 22 = .ok (.putfield 19, 3) := by decide +kernel
theorem dX9_init_25 : decode cX9_init 25 = .ok (.return_, 1) := by decide +kernel
theorem dX4_init_0 : decode cX4_init 0 = .ok (.aload_n 0, 1) := by decide +kernel
theorem dX4_init_1 : decode cX4_init 1 = .ok (.invokespecial 3, 3) := by decide +kernel
theorem dX4_init_4 : decode cX4_init 4 = .ok (.aload_n 0, 1) := by decide +kernel
theorem dX4_init_5 : decode cX4_init 5 = .ok (.aload_n 1, 1) := by decide +kernel
theorem dX4_init_6 : decode cX4_init 6 = .ok (.putfield 9, 3) := by decide +kernel
theorem dX4_init_9 : decode cX4_init 9 = .ok (.aload_n 0, 1) := by decide +kernel
theorem dX4_init_10 : decode cX4_init 10 = .ok (.bipush 12, 2) := by decide +kernel
theorem dX4_init_12 : decode cX4_init 12 = .ok (.newarray .int, 2) := by decide +kernel
theorem dX4_init_14 : decode cX4_init 14 = .ok (.putfield 15, 3) := by decide +kernel
theorem dX4_init_17 : decode cX4_init 17 = .ok (.aload_n 0, 1) := by decide +kernel
theorem dX4_init_18 : decode cX4_init 18 = .ok (.bipush 12, 2) := by decide +kernel
theorem dX4_init_20 : decode cX4_init 20 = .ok (.newarray .int, 2) := by decide +kernel
theorem dX4_init_22 : decode cX4_init 22 = .ok (.putfield 19, 3) := by decide +kernel
theorem dX4_init_25 : decode cX4_init 25 = .ok (.aload_n 0, 1) := by decide +kernel
theorem dX4_init_26 : decode cX4_init 26 = .ok (.bipush 13, 2) := by decide +kernel
theorem dX4_init_28 : decode cX4_init 28 = .ok (.newarray .int, 2) := by decide +kernel
theorem dX4_init_30 : decode cX4_init 30 = .ok (.putfield 22, 3) := by decide +kernel
theorem dX4_init_33 : decode cX4_init 33 = .ok (.aload_n 0, 1) := by decide +kernel
theorem dX4_init_34 : decode cX4_init 34 = .ok (.sipush 400, 3) := by decide +kernel
theorem dX4_init_37 : decode cX4_init 37 = .ok (.newarray .int, 2) := by decide +kernel
theorem dX4_init_39 : decode cX4_init 39 = .ok (.putfield 25, 3) := by decide +kernel
theorem dX4_init_42 : decode cX4_init 42 = .ok (.return_, 1) := by decide +kernel
theorem dX12_init_0 : decode cX12_init 0 = .ok (.aload_n 0, 1) := by decide +kernel
theorem dX12_init_1 : decode cX12_init 1 = .ok (.invokespecial 7, 3) := by decide +kernel
theorem dX12_init_4 : decode cX12_init 4 = .ok (.aload_n 0, 1) := by decide +kernel
theorem dX12_init_5 : decode cX12_init 5 = .ok (.sipush 3601, 3) := by decide +kernel
theorem dX12_init_8 : decode cX12_init 8 = .ok (.newarray .int, 2) := by decide +kernel
theorem dX12_init_10 : decode cX12_init 10 = .ok (.putfield 13, 3) := by decide +kernel
theorem dX12_init_13 : decode cX12_init 13 = .ok (.aload_n 0, 1) := by decide +kernel
theorem dX12_init_14 : decode cX12_init 14 = .ok (.sipush 2752, 3) := by decide +kernel
theorem dX12_init_17 : decode cX12_init 17 = .ok (.newarray .int, 2) := by decide +kernel
theorem dX12_init_19 : decode cX12_init 19 = .ok (.putfield 17, 3) := by decide +kernel
theorem dX12_init_22 : decode cX12_init 22 = .ok (.aload_n 0, 1) := by decide +kernel
theorem dX12_init_23 : decode cX12_init 23 = .ok (.sipush 2752, 3) := by decide +kernel
theorem dX12_init_26 : decode cX12_init 26 = .ok (.newarray .int, 2) := by decide +kernel
theorem dX12_init_28 : decode cX12_init 28 = .ok (.putfield 20, 3) := by decide +kernel
theorem dX12_init_31 : decode cX12_init 31 = .ok (.aload_n 0, 1) := by decide +kernel
theorem dX12_init_32 : decode cX12_init 32 = .ok (.sipush 1903, 3) := by decide +kernel
theorem dX12_init_35 : decode cX12_init 35 = .ok (.newarray .int, 2) := by decide +kernel
theorem dX12_init_37 : decode cX12_init 37 = .ok (.putfield 23, 3) := by decide +kernel
theorem dX12_init_40 : decode cX12_init 40 = .ok (.aload_n 0, 1) := by decide +kernel
theorem dX12_init_41 : decode cX12_init 41 = .ok (.sipush 22836, 3) := by decide +kernel
theorem dX12_init_44 : decode cX12_init 44 = .ok (.newarray .int, 2) := by decide +kernel
theorem dX12_init_46 : decode cX12_init 46 = .ok (.putfield 26, 3) := by decide +kernel
theorem dX12_init_49 : decode cX12_init 49 = .ok (.aload_n 0, 1) := by decide +kernel
theorem dX12_init_50 : decode cX12_init 50 = .ok (.sipush 400, 3) := by decide +kernel
theorem dX12_init_53 : decode cX12_init 53 = .ok (.newarray .byte, 2) := by decide +kernel
theorem dX12_init_55 : decode cX12_init 55 = .ok (.putfield 29, 3) := by decide +kernel
theorem dX12_init_58 : decode cX12_init 58 = .ok (.aload_n 0, 1) := by decide +kernel
theorem dX12_init_59 : decode cX12_init 59 = .ok (.iconst (-1), 1) := by decide +kernel
theorem dX12_init_60 : decode cX12_init 60 = .ok (.putfield 33, 3) := by decide +kernel
theorem dX12_init_63 : decode cX12_init 63 = .ok (.aload_n 0, 1) := by decide +kernel
theorem dX12_init_64 : decode cX12_init 64 = .ok (.iconst 5, 1) := by decide +kernel
theorem dX12_init_65 : decode cX12_init 65 = .ok (.newarray .int, 2) := by decide +kernel
theorem dX12_init_67 : decode cX12_init 67 = .ok (.putfield 36, 3) := by decide +kernel
theorem dX12_init_70 : decode cX12_init 70 = .ok (.aload_n 0, 1) := by decide +kernel
theorem dX12_init_71 : decode cX12_init 71 = .ok (.sipush 400, 3) := by decide +kernel
theorem dX12_init_74 : decode cX12_init 74 = .ok (.newarray .int, 2) := by decide +kernel
theorem dX12_init_76 : decode cX12_init 76 = .ok (.putfield 39, 3) := by decide +kernel
theorem dX12_init_79 : decode cX12_init 79 = .ok (.aload_n 0, 1) := by decide +kernel
theorem dX12_init_80 : decode cX12_init 80 = .ok (.sipush 144, 3) := by decide +kernel
theorem dX12_init_83 : decode cX12_init 83 = .ok (.newarray .int, 2) := by decide +kernel
theorem dX12_init_85 : decode cX12_init 85 = .ok (.putfield 42, 3) := by decide +kernel
theorem dX12_init_88 : decode cX12_init 88 = .ok (.aload_n 0, 1) := by decide +kernel
theorem dX12_init_89 : decode cX12_init 89 = .ok (.sipush 169, 3) := by decide +kernel
theorem dX12_init_92 : decode cX12_init 92 = .ok (.newarray .int, 2) := by decide +kernel
theorem dX12_init_94 : decode cX12_init 94 = .ok (.putfield 45, 3) := by decide +kernel
theorem dX12_init_97 : decode cX12_init 97 = .ok (.aload_n 0, 1) := by decide +kernel
theorem dX12_init_98 : decode cX12_init 98 = .ok (.sipush 256, 3) := by decide +kernel
theorem dX12_init_101 : decode cX12_init 101 = .ok (.newarray .int, 2) := by decide +kernel
theorem dX12_init_103 : decode cX12_init 103 = .ok (.putfield 48, 3) := by decide +kernel
theorem dX12_init_106 : decode cX12_init 106 = .ok (.aload_n 0, 1) := by decide +kernel
theorem dX12_init_107 : decode cX12_init 107 = .ok (.getfield 13, 3) := by decide +kernel
theorem dX12_init_110 : decode cX12_init 110 = .ok (.bipush 15, 2) := by decide +kernel
theorem dX12_init_112 : decode cX12_init 112 = .ok (.iconst 1, 1) := by decide +kernel
theorem dX12_init_113 : decode cX12_init 113 = .ok (.iastore, 1) := by decide +kernel
theorem dX12_init_114 : decode cX12_init 114 = .ok (.aload_n 0, 1) := by decide +kernel
theorem dX12_init_115 : decode cX12_init 115 = .ok (.getfield 13, 3) := by decide +kernel
theorem dX12_init_118 : decode cX12_init 118 = .ok (.iconst 4, 1) := by decide +kernel
theorem dX12_init_119 : decode cX12_init 119 = .ok (.iconst 3, 1) := by decide +kernel
theorem dX12_init_120 : decode cX12_init 120 = .ok (.iastore, 1) := by decide +kernel
theorem dX12_init_121 : decode cX12_init 121 = .ok (.aload_n 0, 1) := by decide +kernel
theorem dX12_init_122 : decode cX12_init 122 = .ok (.getfield 13, 3) := by decide +kernel
theorem dX12_init_125 : decode cX12_init 125 = .ok (.iconst 5, 1) := by decide +kernel
theorem dX12_init_126 : decode cX12_init 126 = .ok (.iconst 4, 1) := by decide +kernel
theorem dX12_init_127 : decode cX12_init 127 = .ok (.iastore, 1) := by decide +kernel
theorem dX12_init_128 : decode cX12_init 128 = .ok (.aload_n 0, 1) := by decide +kernel
theorem dX12_init_129 : decode cX12_init 129 = .ok (.getfield 13, 3) := by decide +kernel
theorem dX12_init_132 : decode cX12_init 132 = .ok (.bipush 6, 2) := by decide +kernel
theorem dX12_init_134 : decode cX12_init 134 = .ok (.iconst 2, 1) := by decide +kernel
theorem dX12_init_135 : decode cX12_init 135 = .ok (.iastore, 1) := by decide +kernel
theorem dX12_init_136 : decode cX12_init 136 = .ok (.aload_n 0, 1) := by decide +kernel
theorem dX12_init_137 : decode cX12_init 137 = .ok (.bipush 19, 2) := by decide +kernel
theorem dX12_init_139 : decode cX12_init 139 = .ok (.invokevirtual 51, 3) := by decide +kernel
theorem dX12_init_142 : decode cX12_init 142 = .ok (.aload_n 0, 1) := by decide +kernel
theorem dX12_init_143 : decode cX12_init 143 = .ok (.bipush 79, 2) := by decide +kernel
theorem dX12_init_145 : decode cX12_init 145 = .ok (.invokevirtual 51, 3) := by decide +kernel
theorem dX12_init_148 : decode cX12_init 148 = .ok (.return_, 1) := by decide +kernel
set_option maxHeartbeats 4000000 in
set_option maxRecDepth 100000 in
theorem ct_X9_init {E : xE} {z : Nat} {T : Nat → Nat × Int} {F : Nat → Nat → Int} {I : Nat → Int → Int} {P : Nat → Nat → Option Nat} {Y : Nat → Int → Option Nat} {a : Nat} {s : Nat} (hk : (T a).1 = 10) (ha : a < z) : Ct E 1 mX9_init 2 40 [.ref a, .ref s] (z, T, F, I, P, Y) (xd none ((z + 1 + 1), (upT (upT T z 14 20) (z + 1) 14 20), F, (up0 (up0 I z 0) (z + 1) 0), (upP (upP (upP P a 0 (some s)) a 1 (some z)) a 2 (some (z + 1))), Y)) := by
  refine Ct.of [some (.ref a), some (.ref s)] kt_X9_init rfl (Nat.le_of_ble_eq_true rfl) rfl (fun d hd => ?_)
  generalize hX : xN E _ _ _ = X
  refine xg_aloadn 1 dX9_init_0 rfl rfl rfl ?_
  refine xg_oi 4 kl_RX9_3 dX9_init_1 rfl (Nat.le_of_ble_eq_true rfl) (by omega) ?_
  refine xg_aloadn 5 dX9_init_4 rfl rfl rfl ?_
  refine xg_aloadn 6 dX9_init_5 rfl rfl rfl ?_
  refine xg_putOF 9 kf_RX9_9 rfl (fun C T N h => by cases h.1; rfl) dX9_init_6 rfl (by simp (disch := omega) only [upT_at, upT_na, hk]) (show _ = va_rf (some _) from rfl) ?_
  refine xg_aloadn 10 dX9_init_9 rfl rfl rfl ?_
  refine xg_bipush 12 dX9_init_10 rfl (by decide) ?_
  refine xg_nai 14 dX9_init_12 rfl (by omega) ⟨by first | decide | omega, by first | decide | omega⟩ ?_
  refine xg_putAF 17 kf_RX9_15 rfl (fun C T N h => by cases h.1; rfl) dX9_init_14 rfl (by simp (disch := omega) only [upT_at, upT_na, hk]) (show _ = va_rf (some _) from rfl) ?_
  refine xg_aloadn 18 dX9_init_17 rfl rfl rfl ?_
  refine xg_bipush 20 dX9_init_18 rfl (by decide) ?_
  refine xg_nai 22 dX9_init_20 rfl (by omega) ⟨by first | decide | omega, by first | decide | omega⟩ ?_
  refine xg_putAF 25 kf_RX9_19 rfl (fun C T N h => by cases h.1; rfl) dX9_init_22 rfl (by simp (disch := omega) only [upT_at, upT_na, hk]) (show _ = va_rf (some _) from rfl) ?_
  subst hX
  exact xg_return dX9_init_25 rfl ⟨by first | decide | omega, by first | decide | omega⟩ ⟨rfl, rfl⟩

set_option maxHeartbeats 4000000 in
set_option maxRecDepth 100000 in
theorem ct_X4_init {E : xE} {z : Nat} {T : Nat → Nat × Int} {F : Nat → Nat → Int} {I : Nat → Int → Int} {P : Nat → Nat → Option Nat} {Y : Nat → Int → Option Nat} {a : Nat} {s : Nat} (hk : (T a).1 = 5) (ha : a < z) : Ct E 1 mX4_init 4 437 [.ref a, .ref s] (z, T, F, I, P, Y) (xd none ((z + 1 + 1 + 1 + 1), (upT (upT (upT (upT T z 14 12) (z + 1) 14 12) (z + 1 + 1) 14 13) (z + 1 + 1 + 1) 14 400), F, (up0 (up0 (up0 (up0 I z 0) (z + 1) 0) (z + 1 + 1) 0) (z + 1 + 1 + 1) 0), (upP (upP (upP (upP (upP P a 0 (some s)) a 1 (some z)) a 2 (some (z + 1))) a 3 (some (z + 1 + 1))) a 4 (some (z + 1 + 1 + 1))), Y)) := by
  refine Ct.of [some (.ref a), some (.ref s)] kt_X4_init rfl (Nat.le_of_ble_eq_true rfl) rfl (fun d hd => ?_)
  generalize hX : xN E _ _ _ = X
  refine xg_aloadn 1 dX4_init_0 rfl rfl rfl ?_
  refine xg_oi 4 kl_RX4_3 dX4_init_1 rfl (Nat.le_of_ble_eq_true rfl) (by omega) ?_
  refine xg_aloadn 5 dX4_init_4 rfl rfl rfl ?_
  refine xg_aloadn 6 dX4_init_5 rfl rfl rfl ?_
  refine xg_putOF 9 kf_RX4_9 rfl (fun C T N h => by cases h.1; rfl) dX4_init_6 rfl (by simp (disch := omega) only [upT_at, upT_na, hk]) (show _ = va_rf (some _) from rfl) ?_
  refine xg_aloadn 10 dX4_init_9 rfl rfl rfl ?_
  refine xg_bipush 12 dX4_init_10 rfl (by decide) ?_
  refine xg_nai 14 dX4_init_12 rfl (by omega) ⟨by first | decide | omega, by first | decide | omega⟩ ?_
  refine xg_putAF 17 kf_RX4_15 rfl (fun C T N h => by cases h.1; rfl) dX4_init_14 rfl (by simp (disch := omega) only [upT_at, upT_na, hk]) (show _ = va_rf (some _) from rfl) ?_
  refine xg_aloadn 18 dX4_init_17 rfl rfl rfl ?_
  refine xg_bipush 20 dX4_init_18 rfl (by decide) ?_
  refine xg_nai 22 dX4_init_20 rfl (by omega) ⟨by first | decide | omega, by first | decide | omega⟩ ?_
  refine xg_putAF 25 kf_RX4_19 rfl (fun C T N h => by cases h.1; rfl) dX4_init_22 rfl (by simp (disch := omega) only [upT_at, upT_na, hk]) (show _ = va_rf (some _) from rfl) ?_
  refine xg_aloadn 26 dX4_init_25 rfl rfl rfl ?_
  refine xg_bipush 28 dX4_init_26 rfl (by decide) ?_
  refine xg_nai 30 dX4_init_28 rfl (by omega) ⟨by first | decide | omega, by first | decide | omega⟩ ?_
  refine xg_putAF 33 kf_RX4_22 rfl (fun C T N h => by cases h.1; rfl) dX4_init_30 rfl (by simp (disch := omega) only [upT_at, upT_na, hk]) (show _ = va_rf (some _) from rfl) ?_
  refine xg_aloadn 34 dX4_init_33 rfl rfl rfl ?_
  refine xg_sipush 37 dX4_init_34 rfl (by decide) ?_
  refine xg_nai 39 dX4_init_37 rfl (by omega) ⟨by first | decide | omega, by first | decide | omega⟩ ?_
  refine xg_putAF 42 kf_RX4_25 rfl (fun C T N h => by cases h.1; rfl) dX4_init_39 rfl (by simp (disch := omega) only [upT_at, upT_na, hk]) (show _ = va_rf (some _) from rfl) ?_
  subst hX
  exact xg_return dX4_init_42 rfl ⟨by first | decide | omega, by first | decide | omega⟩ ⟨rfl, rfl⟩

/-- the reference's object at m is new -/
def xNewM (m : Nat) (T : Nat → Nat × Int) (F : Nat → Nat → Int) (I : Nat → Int → Int) (P : Nat → Nat → Option Nat) (Y : Nat → Int → Option Nat) : Option Value → xH → Prop := fun v h' => v = none ∧ ∃ (T' : Nat → Nat × Int) (F' : Nat → Nat → Int) (I' : Nat → Int → Int) (P' : Nat → Nat → Option Nat), h' = (m + 12, T', F', upA I' (m + 1) wNew, P', Y) ∧ wM T' P' m ∧ (∀ j : Nat, F' m j = if j = 14 then -1 else 0) ∧ (∀ k : Nat, 2 ≤ k → k ≤ 11 → ∀ j : Int, I' (m + k) j = 0) ∧ ∀ b : Nat, b < m → T' b = T b ∧ F' b = F b ∧ I' b = I b ∧ P' b = P b
theorem wNew_m : wE (wE (wS (wS (wS (wS (fun _ => 0) 15 1) 4 3) 5 4) 6 2) 19 60) 79 60 = wNew := by
  funext j
  unfold wE wS
  by_cases h5 : 19 ≤ j ∧ j < 139
  · rw [wNew_e h5]
    by_cases h6 : 79 ≤ j ∧ j < 79 + 60
    · rw [if_pos h6]
    · rw [if_neg h6, if_pos (by omega)]
  · unfold wNew
    rw [if_neg (show ¬ (79 ≤ j ∧ j < 79 + 60) by omega), if_neg (show ¬ (19 ≤ j ∧ j < 19 + 60) by omega)]
    by_cases h6 : j = 6
    · subst h6; rfl
    rw [if_neg h6]
    by_cases h7 : j = 5
    · subst h7; rfl
    rw [if_neg h7]
    by_cases h8 : j = 4
    · subst h8; rfl
    rw [if_neg h8]
    by_cases h9 : j = 15
    · subst h9; rfl
    rw [if_neg h9, if_neg h9, if_neg h8, if_neg h7, if_neg h6, if_neg h5]
set_option maxHeartbeats 4000000 in
set_option maxRecDepth 100000 in
theorem ct_X12_init {E : xE} {z : Nat} {T : Nat → Nat × Int} {F : Nat → Nat → Int} {I : Nat → Int → Int} {P : Nat → Nat → Option Nat} {Y : Nat → Int → Option Nat} {m : Nat} (hk : (T m).1 = 13) (hz : z = m + 1) (hF0 : ∀ j : Nat, F m j = 0) : Ct E 1 mX12_init 11 35218 [.ref m] (z, T, F, I, P, Y) (xNewM m T F I P Y) := by
  subst hz
  refine Ct.of [some (.ref m)] kt_X12_init rfl (Nat.le_of_ble_eq_true rfl) rfl (fun d hd => ?_)
  generalize hX : xN E _ _ _ = X
  refine xg_aloadn 1 dX12_init_0 rfl rfl rfl ?_
  refine xg_oi 4 kl_RX12_7 dX12_init_1 rfl (Nat.le_of_ble_eq_true rfl) (by omega) ?_
  refine xg_aloadn 5 dX12_init_4 rfl rfl rfl ?_
  refine xg_sipush 8 dX12_init_5 rfl (by decide) ?_
  refine xg_nai 10 dX12_init_8 rfl (by omega) ⟨by first | decide | omega, by first | decide | omega⟩ ?_
  refine xg_putAF 13 kf_RX12_13 rfl (fun C T N h => by cases h.1; rfl) dX12_init_10 rfl (by simp (disch := omega) only [upT_at, upT_na, hk]) (show _ = va_rf (some _) from rfl) ?_
  refine xg_aloadn 14 dX12_init_13 rfl rfl rfl ?_
  refine xg_sipush 17 dX12_init_14 rfl (by decide) ?_
  refine xg_nai 19 dX12_init_17 rfl (by omega) ⟨by first | decide | omega, by first | decide | omega⟩ ?_
  refine xg_putAF 22 kf_RX12_17 rfl (fun C T N h => by cases h.1; rfl) dX12_init_19 rfl (by simp (disch := omega) only [upT_at, upT_na, hk]) (show _ = va_rf (some _) from rfl) ?_
  refine xg_aloadn 23 dX12_init_22 rfl rfl rfl ?_
  refine xg_sipush 26 dX12_init_23 rfl (by decide) ?_
  refine xg_nai 28 dX12_init_26 rfl (by omega) ⟨by first | decide | omega, by first | decide | omega⟩ ?_
  refine xg_putAF 31 kf_RX12_20 rfl (fun C T N h => by cases h.1; rfl) dX12_init_28 rfl (by simp (disch := omega) only [upT_at, upT_na, hk]) (show _ = va_rf (some _) from rfl) ?_
  refine xg_aloadn 32 dX12_init_31 rfl rfl rfl ?_
  refine xg_sipush 35 dX12_init_32 rfl (by decide) ?_
  refine xg_nai 37 dX12_init_35 rfl (by omega) ⟨by first | decide | omega, by first | decide | omega⟩ ?_
  refine xg_putAF 40 kf_RX12_23 rfl (fun C T N h => by cases h.1; rfl) dX12_init_37 rfl (by simp (disch := omega) only [upT_at, upT_na, hk]) (show _ = va_rf (some _) from rfl) ?_
  refine xg_aloadn 41 dX12_init_40 rfl rfl rfl ?_
  refine xg_sipush 44 dX12_init_41 rfl (by decide) ?_
  refine xg_nai 46 dX12_init_44 rfl (by omega) ⟨by first | decide | omega, by first | decide | omega⟩ ?_
  refine xg_putAF 49 kf_RX12_26 rfl (fun C T N h => by cases h.1; rfl) dX12_init_46 rfl (by simp (disch := omega) only [upT_at, upT_na, hk]) (show _ = va_rf (some _) from rfl) ?_
  refine xg_aloadn 50 dX12_init_49 rfl rfl rfl ?_
  refine xg_sipush 53 dX12_init_50 rfl (by decide) ?_
  refine xg_nab 55 dX12_init_53 rfl (by omega) ⟨by first | decide | omega, by first | decide | omega⟩ ?_
  refine xg_putAF 58 kf_RX12_29 rfl (fun C T N h => by cases h.1; rfl) dX12_init_55 rfl (by simp (disch := omega) only [upT_at, upT_na, hk]) (show _ = va_rf (some _) from rfl) ?_
  refine xg_aloadn 59 dX12_init_58 rfl rfl rfl ?_
  refine xg_iconst 60 dX12_init_59 rfl ?_
  refine xg_putI 63 kf_RX12_33 dX12_init_60 rfl (by simp (disch := omega) only [upT_at, upT_na, hk]) ?_
  refine xg_aloadn 64 dX12_init_63 rfl rfl rfl ?_
  refine xg_iconst 65 dX12_init_64 rfl ?_
  refine xg_nai 67 dX12_init_65 rfl (by omega) ⟨by first | decide | omega, by first | decide | omega⟩ ?_
  refine xg_putAF 70 kf_RX12_36 rfl (fun C T N h => by cases h.1; rfl) dX12_init_67 rfl (by simp (disch := omega) only [upT_at, upT_na, hk]) (show _ = va_rf (some _) from rfl) ?_
  refine xg_aloadn 71 dX12_init_70 rfl rfl rfl ?_
  refine xg_sipush 74 dX12_init_71 rfl (by decide) ?_
  refine xg_nai 76 dX12_init_74 rfl (by omega) ⟨by first | decide | omega, by first | decide | omega⟩ ?_
  refine xg_putAF 79 kf_RX12_39 rfl (fun C T N h => by cases h.1; rfl) dX12_init_76 rfl (by simp (disch := omega) only [upT_at, upT_na, hk]) (show _ = va_rf (some _) from rfl) ?_
  refine xg_aloadn 80 dX12_init_79 rfl rfl rfl ?_
  refine xg_sipush 83 dX12_init_80 rfl (by decide) ?_
  refine xg_nai 85 dX12_init_83 rfl (by omega) ⟨by first | decide | omega, by first | decide | omega⟩ ?_
  refine xg_putAF 88 kf_RX12_42 rfl (fun C T N h => by cases h.1; rfl) dX12_init_85 rfl (by simp (disch := omega) only [upT_at, upT_na, hk]) (show _ = va_rf (some _) from rfl) ?_
  refine xg_aloadn 89 dX12_init_88 rfl rfl rfl ?_
  refine xg_sipush 92 dX12_init_89 rfl (by decide) ?_
  refine xg_nai 94 dX12_init_92 rfl (by omega) ⟨by first | decide | omega, by first | decide | omega⟩ ?_
  refine xg_putAF 97 kf_RX12_45 rfl (fun C T N h => by cases h.1; rfl) dX12_init_94 rfl (by simp (disch := omega) only [upT_at, upT_na, hk]) (show _ = va_rf (some _) from rfl) ?_
  refine xg_aloadn 98 dX12_init_97 rfl rfl rfl ?_
  refine xg_sipush 101 dX12_init_98 rfl (by decide) ?_
  refine xg_nai 103 dX12_init_101 rfl (by omega) ⟨by first | decide | omega, by first | decide | omega⟩ ?_
  refine xg_putAF 106 kf_RX12_48 rfl (fun C T N h => by cases h.1; rfl) dX12_init_103 rfl (by simp (disch := omega) only [upT_at, upT_na, hk]) (show _ = va_rf (some _) from rfl) ?_
  have hw : wM (upT (upT (upT (upT (upT (upT (upT (upT (upT (upT (upT T (m + 1) 14 3601) ((m + 1) + 1) 14 2752) ((m + 1) + 1 + 1) 14 2752) ((m + 1) + 1 + 1 + 1) 14 1903) ((m + 1) + 1 + 1 + 1 + 1) 14 22836) ((m + 1) + 1 + 1 + 1 + 1 + 1) 15 400) ((m + 1) + 1 + 1 + 1 + 1 + 1 + 1) 14 5) ((m + 1) + 1 + 1 + 1 + 1 + 1 + 1 + 1) 14 400) ((m + 1) + 1 + 1 + 1 + 1 + 1 + 1 + 1 + 1) 14 144) ((m + 1) + 1 + 1 + 1 + 1 + 1 + 1 + 1 + 1 + 1) 14 169) ((m + 1) + 1 + 1 + 1 + 1 + 1 + 1 + 1 + 1 + 1 + 1) 14 256) (upP (upP (upP (upP (upP (upP (upP (upP (upP (upP (upP P m 1 (some (m + 1))) m 2 (some ((m + 1) + 1))) m 3 (some ((m + 1) + 1 + 1))) m 4 (some ((m + 1) + 1 + 1 + 1))) m 5 (some ((m + 1) + 1 + 1 + 1 + 1))) m 8 (some ((m + 1) + 1 + 1 + 1 + 1 + 1))) m 15 (some ((m + 1) + 1 + 1 + 1 + 1 + 1 + 1))) m 17 (some ((m + 1) + 1 + 1 + 1 + 1 + 1 + 1 + 1))) m 18 (some ((m + 1) + 1 + 1 + 1 + 1 + 1 + 1 + 1 + 1))) m 19 (some ((m + 1) + 1 + 1 + 1 + 1 + 1 + 1 + 1 + 1 + 1))) m 20 (some ((m + 1) + 1 + 1 + 1 + 1 + 1 + 1 + 1 + 1 + 1 + 1))) m := by
    unfold wM
    simp (disch := omega) only [Nat.add_assoc, Nat.reduceAdd, upT_at, upT_na, upP_at, upP_nk, upP_na, up0_at, up0_na, upF_na, hk, true_and, and_true]
  have hIe : (up0 (up0 (up0 (up0 (up0 (up0 (up0 (up0 (up0 (up0 (up0 I (m + 1) 0) ((m + 1) + 1) 0) ((m + 1) + 1 + 1) 0) ((m + 1) + 1 + 1 + 1) 0) ((m + 1) + 1 + 1 + 1 + 1) 0) ((m + 1) + 1 + 1 + 1 + 1 + 1) 0) ((m + 1) + 1 + 1 + 1 + 1 + 1 + 1) 0) ((m + 1) + 1 + 1 + 1 + 1 + 1 + 1 + 1) 0) ((m + 1) + 1 + 1 + 1 + 1 + 1 + 1 + 1 + 1) 0) ((m + 1) + 1 + 1 + 1 + 1 + 1 + 1 + 1 + 1 + 1) 0) ((m + 1) + 1 + 1 + 1 + 1 + 1 + 1 + 1 + 1 + 1 + 1) 0) = upA (up0 (up0 (up0 (up0 (up0 (up0 (up0 (up0 (up0 (up0 (up0 I (m + 1) 0) ((m + 1) + 1) 0) ((m + 1) + 1 + 1) 0) ((m + 1) + 1 + 1 + 1) 0) ((m + 1) + 1 + 1 + 1 + 1) 0) ((m + 1) + 1 + 1 + 1 + 1 + 1) 0) ((m + 1) + 1 + 1 + 1 + 1 + 1 + 1) 0) ((m + 1) + 1 + 1 + 1 + 1 + 1 + 1 + 1) 0) ((m + 1) + 1 + 1 + 1 + 1 + 1 + 1 + 1 + 1) 0) ((m + 1) + 1 + 1 + 1 + 1 + 1 + 1 + 1 + 1 + 1) 0) ((m + 1) + 1 + 1 + 1 + 1 + 1 + 1 + 1 + 1 + 1 + 1) 0) (m + 1) (fun _ => 0) := by
    have e : (up0 (up0 (up0 (up0 (up0 (up0 (up0 (up0 (up0 (up0 (up0 I (m + 1) 0) ((m + 1) + 1) 0) ((m + 1) + 1 + 1) 0) ((m + 1) + 1 + 1 + 1) 0) ((m + 1) + 1 + 1 + 1 + 1) 0) ((m + 1) + 1 + 1 + 1 + 1 + 1) 0) ((m + 1) + 1 + 1 + 1 + 1 + 1 + 1) 0) ((m + 1) + 1 + 1 + 1 + 1 + 1 + 1 + 1) 0) ((m + 1) + 1 + 1 + 1 + 1 + 1 + 1 + 1 + 1) 0) ((m + 1) + 1 + 1 + 1 + 1 + 1 + 1 + 1 + 1 + 1) 0) ((m + 1) + 1 + 1 + 1 + 1 + 1 + 1 + 1 + 1 + 1 + 1) 0) (m + 1) = (fun _ => 0) := by
      funext j
      simp (disch := omega) only [Nat.add_assoc, Nat.reduceAdd, upT_at, upT_na, upP_at, upP_nk, upP_na, up0_at, up0_na, upF_na, hk]
    rw [← e, upA_id]
  rw [hIe]
  refine xg_aloadn 107 dX12_init_106 rfl rfl rfl ?_
  refine xg_getP 110 kf_RX12_13 dX12_init_107 rfl hw.1.1 hw.1.2.1 ?_
  refine xg_bipush 112 dX12_init_110 rfl (by decide) ?_
  refine xg_iconst 113 dX12_init_112 rfl ?_
  refine xg_iastW 114 dX12_init_113 rfl hw.1.2.2.1 (by rw [hw.1.2.2.2]; omega) ?_
  refine xg_aloadn 115 dX12_init_114 rfl rfl rfl ?_
  refine xg_getP 118 kf_RX12_13 dX12_init_115 rfl hw.1.1 hw.1.2.1 ?_
  refine xg_iconst 119 dX12_init_118 rfl ?_
  refine xg_iconst 120 dX12_init_119 rfl ?_
  refine xg_iastW 121 dX12_init_120 rfl hw.1.2.2.1 (by rw [hw.1.2.2.2]; omega) ?_
  refine xg_aloadn 122 dX12_init_121 rfl rfl rfl ?_
  refine xg_getP 125 kf_RX12_13 dX12_init_122 rfl hw.1.1 hw.1.2.1 ?_
  refine xg_iconst 126 dX12_init_125 rfl ?_
  refine xg_iconst 127 dX12_init_126 rfl ?_
  refine xg_iastW 128 dX12_init_127 rfl hw.1.2.2.1 (by rw [hw.1.2.2.2]; omega) ?_
  refine xg_aloadn 129 dX12_init_128 rfl rfl rfl ?_
  refine xg_getP 132 kf_RX12_13 dX12_init_129 rfl hw.1.1 hw.1.2.1 ?_
  refine xg_bipush 134 dX12_init_132 rfl (by decide) ?_
  refine xg_iconst 135 dX12_init_134 rfl ?_
  refine xg_iastW 136 dX12_init_135 rfl hw.1.2.2.1 (by rw [hw.1.2.2.2]; omega) ?_
  refine xg_aloadn 137 dX12_init_136 rfl rfl rfl ?_
  refine xg_bipush 139 dX12_init_137 rfl (by decide) ?_
  refine xg_callV 142 12 [_] _ kv_X12_empties ⟨_, _, rfl⟩ kl_RX12_51 dX12_init_139 rfl hw.1.1 (by omega) rfl rfl (Nat.le_of_ble_eq_true rfl) (by omega) ⟨by first | decide | omega, by first | decide | omega⟩ (ct_X12_empties hw (by omega)) rfl ?_
  refine xg_aloadn 143 dX12_init_142 rfl rfl rfl ?_
  refine xg_bipush 145 dX12_init_143 rfl (by decide) ?_
  refine xg_callV 148 12 [_] _ kv_X12_empties ⟨_, _, rfl⟩ kl_RX12_51 dX12_init_145 rfl hw.1.1 (by omega) rfl rfl (Nat.le_of_ble_eq_true rfl) (by omega) ⟨by first | decide | omega, by first | decide | omega⟩ (ct_X12_empties hw (by omega)) rfl ?_
  subst hX
  refine xg_return dX12_init_148 rfl ⟨by first | decide | omega, by first | decide | omega⟩ ?_
  unfold xNewM
  rw [wNew_m]
  refine ⟨rfl, _, _, _, _, rfl, hw, fun j => ?_, fun k k2 k11 j => ?_, fun b hb => ⟨?_, ?_, ?_, ?_⟩⟩
  · unfold upF
    by_cases c : j = 14
    · subst c; simp
    · simp [c, hF0]
  · obtain rfl | rfl | rfl | rfl | rfl | rfl | rfl | rfl | rfl | rfl : k = 2 ∨ k = 3 ∨ k = 4 ∨ k = 5 ∨ k = 6 ∨ k = 7 ∨ k = 8 ∨ k = 9 ∨ k = 10 ∨ k = 11 := by omega
    all_goals simp (disch := omega) only [Nat.add_assoc, Nat.reduceAdd, upT_at, upT_na, upP_at, upP_nk, upP_na, up0_at, up0_na, upF_na, hk]
  · simp (disch := omega) only [upT_na]
  · simp (disch := omega) only [upF_na]
  · simp (disch := omega) only [up0_na]
  · simp (disch := omega) only [upP_na]

