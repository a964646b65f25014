theorem dX3_init_0 : decode cX3_init 0 = .ok (.aload_n 0, 1) := by decide +kernel
theorem dX3_init_1 : decode cX3_init 1 = .ok (.invokespecial 1, 3) := by decide +kernel
theorem dX3_init_4 : decode cX3_init 4 = .ok (.aload_n 0, 1) := by decide +kernel
theorem dX3_init_5 : decode cX3_init 5 = .ok (.iconst 0, 1) := by decide +kernel
theorem dX3_init_6 : decode cX3_init 6 = .ok (.iload 4, 2) := by decide +kernel
theorem dX3_init_8 : decode cX3_init 8 = .ok (.aload_n 1, 1) := by decide +kernel
theorem dX3_init_9 : decode cX3_init 9 = .ok (.arraylength, 1) := by decide +kernel
theorem dX3_init_10 : decode cX3_init 10 = .ok (.invokestatic 7, 3) := by decide +kernel
theorem dX3_init_13 : decode cX3_init 13 = .ok (.invokestatic 13, 3) := by decide +kernel
theorem dX3_init_16 : decode cX3_init 16 = .ok (.putfield 16, 3) := by decide +kernel
theorem dX3_init_19 : decode cX3_init 19 = .ok (.aload_n 0, 1) := by decide +kernel
theorem dX3_init_20 : decode cX3_init 20 = .ok (.aload_n 0, 1) := by decide +kernel
theorem dX3_init_21 : decode cX3_init 21 = .ok (.getfield 16, 3) := by decide +kernel
theorem dX3_init_24 : decode cX3_init 24 = .ok (.newarray .int, 2) := by decide +kernel
theorem dX3_init_26 : decode cX3_init 26 = .ok (.putfield 22, 3) := by decide +kernel
theorem dX3_init_29 : decode cX3_init 29 = .ok (.aload_n 0, 1) := by decide +kernel
theorem dX3_init_30 : decode cX3_init 30 = .ok (.aload_n 0, 1) := by decide +kernel
theorem dX3_init_31 : decode cX3_init 31 = .ok (.getfield 16, 3) := by decide +kernel
theorem dX3_init_34 : decode cX3_init 34 = .ok (.newarray .int, 2) := by decide +kernel
theorem dX3_init_36 : decode cX3_init 36 = .ok (.putfield 26, 3) := by decide +kernel
theorem dX3_init_39 : decode cX3_init 39 = .ok (.aload_n 0, 1) := by decide +kernel
theorem dX3_init_40 : decode cX3_init 40 = .ok (.aload_n 0, 1) := by decide +kernel
theorem dX3_init_41 : decode cX3_init 41 = .ok (.getfield 16, 3) := by decide +kernel
theorem dX3_init_44 : decode cX3_init 44 = .ok (.iconst 1, 1) := by decide +kernel
theorem dX3_init_45 : decode cX3_init 45 = .ok (.iadd, 1) := by decide +kernel
theorem dX3_init_46 : decode cX3_init 46 = .ok (.newarray .int, 2) := by decide +kernel
theorem dX3_init_48 : decode cX3_init 48 = .ok (.putfield 29, 3) := by decide +kernel
theorem dX3_init_51 : decode cX3_init 51 = .ok (.aload_n 1, 1) := by decide +kernel
theorem dX3_init_52 : decode cX3_init 52 = .ok (.iconst 0, 1) := by decide +kernel
theorem dX3_init_53 : decode cX3_init 53 = .ok (.aload_n 0, 1) := by decide +kernel
theorem dX3_init_54 : decode cX3_init 54 = .ok (.getfield 22, 3) := by decide +kernel
theorem dX3_init_57 : decode cX3_init 57 = .ok (.iconst 0, 1) := by decide +kernel
theorem dX3_init_58 : decode cX3_init 58 = .ok (.aload_n 0, 1) := by decide +kernel
theorem dX3_init_59 : decode cX3_init 59 = .ok (.getfield 16, 3) := by decide +kernel
theorem dX3_init_62 : decode cX3_init 62 = .ok (.invokestatic 32, 3) := by decide +kernel
theorem dX3_init_65 : decode cX3_init 65 = .ok (.aload_n 2, 1) := by decide +kernel
theorem dX3_init_66 : decode cX3_init 66 = .ok (.iconst 0, 1) := by decide +kernel
theorem dX3_init_67 : decode cX3_init 67 = .ok (.aload_n 0, 1) := by decide +kernel
theorem dX3_init_68 : decode cX3_init 68 = .ok (.getfield 26, 3) := by decide +kernel
theorem dX3_init_71 : decode cX3_init 71 = .ok (.iconst 0, 1) := by decide +kernel
theorem dX3_init_72 : decode cX3_init 72 = .ok (.aload_n 0, 1) := by decide +kernel
theorem dX3_init_73 : decode cX3_init 73 = .ok (.getfield 16, 3) := by decide +kernel
theorem dX3_init_76 : decode cX3_init 76 = .ok (.invokestatic 32, 3) := by decide +kernel
theorem dX3_init_79 : decode cX3_init 79 = .ok (.aload_n 3, 1) := by decide +kernel
theorem dX3_init_80 : decode cX3_init 80 = .ok (.iconst 0, 1) := by decide +kernel
theorem dX3_init_81 : decode cX3_init 81 = .ok (.aload_n 0, 1) := by decide +kernel
theorem dX3_init_82 : decode cX3_init 82 = .ok (.getfield 29, 3) := by decide +kernel
theorem dX3_init_85 : decode cX3_init 85 = .ok (.iconst 0, 1) := by decide +kernel
theorem dX3_init_86 : decode cX3_init 86 = .ok (.aload_n 0, 1) := by decide +kernel
theorem dX3_init_87 : decode cX3_init 87 = .ok (.getfield 16, 3) := by decide +kernel
theorem dX3_init_90 : decode cX3_init 90 = .ok (.iconst 1, 1) := by decide +kernel
theorem dX3_init_91 : decode cX3_init 91 = .ok (.iadd, 1) := by decide +kernel
theorem dX3_init_92 : decode cX3_init 92 = .ok (.invokestatic 32, 3) := by decide +kernel
theorem dX3_init_95 : decode cX3_init 95 = .ok (.iconst 0, 1) := by decide +kernel
theorem dX3_init_96 : decode cX3_init 96 = .ok (.aload_n 3, 1) := by decide +kernel
theorem dX3_init_97 : decode cX3_init 97 = .ok (.aload_n 0, 1) := by decide +kernel
theorem dX3_init_98 : decode cX3_init 98 = .ok (.getfield 16, 3) := by decide +kernel
theorem dX3_init_101 : decode cX3_init 101 = .ok (.iaload, 1) := by decide +kernel
theorem dX3_init_102 : decode cX3_init 102 = .ok (.aload 5, 2) := by decide +kernel
theorem dX3_init_104 : decode cX3_init 104 = .ok (.arraylength, 1) := by decide +kernel
theorem dX3_init_105 : decode cX3_init 105 = .ok (.invokestatic 7, 3) := by decide +kernel
theorem dX3_init_108 : decode cX3_init 108 = .ok (.invokestatic 13, 3) := by decide +kernel
theorem dX3_init_111 : decode cX3_init 111 = .ok (.istore 6, 2) := by decide +kernel
theorem dX3_init_113 : decode cX3_init 113 = .ok (.aload_n 0, 1) := by decide +kernel
theorem dX3_init_114 : decode cX3_init 114 = .ok (.iload 6, 2) := by decide +kernel
theorem dX3_init_116 : decode cX3_init 116 = .ok (.newarray .int, 2) := by decide +kernel
theorem dX3_init_118 : decode cX3_init 118 = .ok (.putfield 38, 3) := by decide +kernel
theorem dX3_init_121 : decode cX3_init 121 = .ok (.aload 5, 2) := by decide +kernel
theorem dX3_init_123 : decode cX3_init 123 = .ok (.iconst 0, 1) := by decide +kernel
theorem dX3_init_124 : decode cX3_init 124 = .ok (.aload_n 0, 1) := by decide +kernel
theorem dX3_init_125 : decode cX3_init 125 = .ok (.getfield 38, 3) := by decide +kernel
theorem dX3_init_128 : decode cX3_init 128 = .ok (.iconst 0, 1) := by decide +kernel
theorem dX3_init_129 : decode cX3_init 129 = .ok (.iload 6, 2) := by decide +kernel
theorem dX3_init_131 : decode cX3_init 131 = .ok (.invokestatic 32, 3) := by decide +kernel
theorem dX3_init_134 : decode cX3_init 134 = .ok (.aload_n 0, 1) := by decide +kernel
theorem dX3_init_135 : decode cX3_init 135 = .ok (.bipush 32, 2) := by decide +kernel
theorem dX3_init_137 : decode cX3_init 137 = .ok (.newarray .int, 2) := by decide +kernel
theorem dX3_init_139 : decode cX3_init 139 = .ok (.putfield 41, 3) := by decide +kernel
theorem dX3_init_142 : decode cX3_init 142 = .ok (.return_, 1) := by decide +kernel
/-- the law at l is new: n lines, m codes, from the rows x1, x2, x3, x5 -/
def WNew (T : Nat → Nat × Int) (F : Nat → Nat → Int) (I : Nat → Int → Int) (P : Nat → Nat → Option Nat) (J0 : Nat → Int → Int) (l x1 x2 x3 x5 : Nat) (n m : Int) : Prop := ((T l).1 = 4 ∧ F l 0 = n) ∧ (P l 1 = some (l + 1) ∧ (T (l + 1)).1 = 14 ∧ (T (l + 1)).2 = n ∧ ∀ j : Int, 0 ≤ j → j < n → I (l + 1) j = J0 x1 j) ∧ (P l 2 = some (l + 2) ∧ (T (l + 2)).1 = 14 ∧ (T (l + 2)).2 = n ∧ ∀ j : Int, 0 ≤ j → j < n → I (l + 2) j = J0 x2 j) ∧ (P l 3 = some (l + 3) ∧ (T (l + 3)).1 = 14 ∧ (T (l + 3)).2 = n + 1 ∧ ∀ j : Int, 0 ≤ j → j < n + 1 → I (l + 3) j = J0 x3 j) ∧ (P l 4 = some (l + 4) ∧ (T (l + 4)).1 = 14 ∧ (T (l + 4)).2 = m ∧ ∀ j : Int, 0 ≤ j → j < m → I (l + 4) j = J0 x5 j) ∧ P l 5 = some (l + 5) ∧ (T (l + 5)).1 = 14 ∧ (T (l + 5)).2 = 32
def xNewW (l x1 x2 x3 x5 : Nat) (n m : Int) (T : Nat → Nat × Int) (F : Nat → Nat → Int) (I : Nat → Int → Int) (P : Nat → Nat → Option Nat) (Y : Nat → Int → Option Nat) : Option Value → xH → Prop := fun v h' => v = none ∧ ∃ (T' : Nat → Nat × Int) (F' : Nat → Nat → Int) (I' : Nat → Int → Int) (P' : Nat → Nat → Option Nat), h' = (l + 6, T', F', I', P', Y) ∧ WNew T' F' I' P' I l x1 x2 x3 x5 n m ∧ Lo l T F I P Y T' F' I' P' Y
set_option maxHeartbeats 4000000 in
set_option maxRecDepth 100000 in
theorem ct_X3_init {E : xE} {z : Nat} {T : Nat → Nat × Int} {F : Nat → Nat → Int} {I : Nat → Int → Int} {P : Nat → Nat → Option Nat} {Y : Nat → Int → Option Nat} {l x1 x2 x3 x5 : Nat} {n m : Int} (hk : (T l).1 = 4) (hz : z = l + 1) (hn : 0 ≤ n ∧ n ≤ 12) (hm9 : 0 ≤ m ∧ m ≤ 400) (h1 : (T x1).1 = 14 ∧ (T x1).2 = 12) (h2 : (T x2).1 = 14 ∧ (T x2).2 = 12) (h3 : (T x3).1 = 14 ∧ (T x3).2 = 13) (h5 : (T x5).1 = 14 ∧ (T x5).2 = 400) (hx : x1 < l ∧ x2 < l ∧ x3 < l ∧ x5 < l) (hm : I x3 n = m) : Ct E 1 mX3_init 5 469 [.ref l, .ref x1, .ref x2, .ref x3, J n, .ref x5] (z, T, F, I, P, Y) (xNewW l x1 x2 x3 x5 n m T F I P Y) := by
  subst hz
  obtain ⟨hx1, hx2, hx3, hx5⟩ := hx
  refine Ct.of [some (.ref l), some (.ref x1), some (.ref x2), some (.ref x3), some (J n), some (.ref x5), none] kt_X3_init rfl (Nat.le_of_ble_eq_true rfl) rfl (fun d hd => ?_)
  generalize hX : xN E _ _ _ = X
  refine xg_aloadn 1 dX3_init_0 rfl rfl rfl ?_
  refine xg_oi 4 kl_RX3_1 dX3_init_1 rfl (Nat.le_of_ble_eq_true rfl) (by omega) ?_
  refine xg_aloadn 5 dX3_init_4 rfl rfl rfl ?_
  refine xg_iconst 6 dX3_init_5 rfl ?_
  refine xg_iload 8 dX3_init_6 rfl rfl ?_
  refine xg_aloadn 9 dX3_init_8 rfl rfl rfl ?_
  refine xg_alen 10 dX3_init_9 rfl h1.1 h1.2 ?_
  refine xg_mmin 13 kl_RX3_7 dX3_init_10 rfl (by omega) (Nat.le_of_ble_eq_true rfl) (by omega) ⟨by first | decide | omega, by first | decide | omega⟩ ?_
  rw [show min n (12 : Int) = n by omega]
  refine xg_mmax 16 kl_RX3_13 dX3_init_13 rfl (by omega) (Nat.le_of_ble_eq_true rfl) (by omega) ⟨by first | decide | omega, by first | decide | omega⟩ ?_
  rw [show max (0 : Int) n = n by omega]
  refine xg_putIF 19 kf_RX3_16 rfl (fun C T N h => by cases h.1; rfl) dX3_init_16 rfl (by simp (disch := omega) only [upT_at, upT_na, hk, h1, h2, h3, h5]) ?_
  refine xg_aloadn 20 dX3_init_19 rfl rfl rfl ?_
  refine xg_aloadn 21 dX3_init_20 rfl rfl rfl ?_
  refine xg_getI 24 kf_RX3_16 dX3_init_21 rfl (by simp (disch := omega) only [upT_at, upT_na, hk, h1, h2, h3, h5]) ?_
  rw [upF_at]
  refine xg_nai 26 dX3_init_24 rfl (by omega) ⟨by first | decide | omega, by first | decide | omega⟩ ?_
  refine xg_putAF 29 kf_RX3_22 rfl (fun C T N h => by cases h.1; rfl) dX3_init_26 rfl (by simp (disch := omega) only [upT_at, upT_na, hk, h1, h2, h3, h5]) (show _ = va_rf (some _) from rfl) ?_
  refine xg_aloadn 30 dX3_init_29 rfl rfl rfl ?_
  refine xg_aloadn 31 dX3_init_30 rfl rfl rfl ?_
  refine xg_getI 34 kf_RX3_16 dX3_init_31 rfl (by simp (disch := omega) only [upT_at, upT_na, hk, h1, h2, h3, h5]) ?_
  rw [upF_at]
  refine xg_nai 36 dX3_init_34 rfl (by omega) ⟨by first | decide | omega, by first | decide | omega⟩ ?_
  refine xg_putAF 39 kf_RX3_26 rfl (fun C T N h => by cases h.1; rfl) dX3_init_36 rfl (by simp (disch := omega) only [upT_at, upT_na, hk, h1, h2, h3, h5]) (show _ = va_rf (some _) from rfl) ?_
  refine xg_aloadn 40 dX3_init_39 rfl rfl rfl ?_
  refine xg_aloadn 41 dX3_init_40 rfl rfl rfl ?_
  refine xg_getI 44 kf_RX3_16 dX3_init_41 rfl (by simp (disch := omega) only [upT_at, upT_na, hk, h1, h2, h3, h5]) ?_
  rw [upF_at]
  refine xg_iconst 45 dX3_init_44 rfl ?_
  refine xg_iadd 46 dX3_init_45 rfl ?_
  refine xg_nai 48 dX3_init_46 rfl (by omega) ⟨by first | decide | omega, by first | decide | omega⟩ ?_
  refine xg_putAF 51 kf_RX3_29 rfl (fun C T N h => by cases h.1; rfl) dX3_init_48 rfl (by simp (disch := omega) only [upT_at, upT_na, hk, h1, h2, h3, h5]) (show _ = va_rf (some _) from rfl) ?_
  refine xg_aloadn 52 dX3_init_51 rfl rfl rfl ?_
  refine xg_iconst 53 dX3_init_52 rfl ?_
  refine xg_aloadn 54 dX3_init_53 rfl rfl rfl ?_
  refine xg_getP 57 kf_RX3_22 dX3_init_54 rfl (by simp (disch := omega) only [upT_at, upT_na, hk, h1, h2, h3, h5]) (show _ = some (l + 1) by simp (disch := omega) only [upP_at, upP_nk]) ?_
  refine xg_iconst 58 dX3_init_57 rfl ?_
  refine xg_aloadn 59 dX3_init_58 rfl rfl rfl ?_
  refine xg_getI 62 kf_RX3_16 dX3_init_59 rfl (by simp (disch := omega) only [upT_at, upT_na, hk, h1, h2, h3, h5]) ?_
  rw [upF_at]
  refine xg_acp 65 kl_RX3_32 dX3_init_62 rfl (by simp (disch := omega) only [upT_at, upT_na, hk, h1, h2, h3, h5]) (by simp (disch := omega) only [upT_at, upT_na, hk, h1, h2, h3, h5]) (by omega) (by simp (disch := omega) only [upT_at, upT_na, h1, h2, h3, h5]; omega) (Nat.le_of_ble_eq_true rfl) (by omega) ?_
  refine xg_aloadn 66 dX3_init_65 rfl rfl rfl ?_
  refine xg_iconst 67 dX3_init_66 rfl ?_
  refine xg_aloadn 68 dX3_init_67 rfl rfl rfl ?_
  refine xg_getP 71 kf_RX3_26 dX3_init_68 rfl (by simp (disch := omega) only [upT_at, upT_na, hk, h1, h2, h3, h5]) (show _ = some (l + 1 + 1) by simp (disch := omega) only [upP_at, upP_nk]) ?_
  refine xg_iconst 72 dX3_init_71 rfl ?_
  refine xg_aloadn 73 dX3_init_72 rfl rfl rfl ?_
  refine xg_getI 76 kf_RX3_16 dX3_init_73 rfl (by simp (disch := omega) only [upT_at, upT_na, hk, h1, h2, h3, h5]) ?_
  rw [upF_at]
  refine xg_acp 79 kl_RX3_32 dX3_init_76 rfl (by simp (disch := omega) only [upT_at, upT_na, hk, h1, h2, h3, h5]) (by simp (disch := omega) only [upT_at, upT_na, hk, h1, h2, h3, h5]) (by omega) (by simp (disch := omega) only [upT_at, upT_na, h1, h2, h3, h5]; omega) (Nat.le_of_ble_eq_true rfl) (by omega) ?_
  refine xg_aloadn 80 dX3_init_79 rfl rfl rfl ?_
  refine xg_iconst 81 dX3_init_80 rfl ?_
  refine xg_aloadn 82 dX3_init_81 rfl rfl rfl ?_
  refine xg_getP 85 kf_RX3_29 dX3_init_82 rfl (by simp (disch := omega) only [upT_at, upT_na, hk, h1, h2, h3, h5]) (show _ = some (l + 1 + 1 + 1) by simp (disch := omega) only [upP_at, upP_nk]) ?_
  refine xg_iconst 86 dX3_init_85 rfl ?_
  refine xg_aloadn 87 dX3_init_86 rfl rfl rfl ?_
  refine xg_getI 90 kf_RX3_16 dX3_init_87 rfl (by simp (disch := omega) only [upT_at, upT_na, hk, h1, h2, h3, h5]) ?_
  rw [upF_at]
  refine xg_iconst 91 dX3_init_90 rfl ?_
  refine xg_iadd 92 dX3_init_91 rfl ?_
  refine xg_acp 95 kl_RX3_32 dX3_init_92 rfl (by simp (disch := omega) only [upT_at, upT_na, hk, h1, h2, h3, h5]) (by simp (disch := omega) only [upT_at, upT_na, hk, h1, h2, h3, h5]) (by omega) (by simp (disch := omega) only [upT_at, upT_na, h1, h2, h3, h5]; omega) (Nat.le_of_ble_eq_true rfl) (by omega) ?_
  refine xg_iconst 96 dX3_init_95 rfl ?_
  refine xg_aloadn 97 dX3_init_96 rfl rfl rfl ?_
  refine xg_aloadn 98 dX3_init_97 rfl rfl rfl ?_
  refine xg_getI 101 kf_RX3_16 dX3_init_98 rfl (by simp (disch := omega) only [upT_at, upT_na, hk, h1, h2, h3, h5]) ?_
  rw [upF_at]
  refine xg_iald 102 dX3_init_101 rfl (by simp (disch := omega) only [upT_at, upT_na, hk, h1, h2, h3, h5]) (by simp (disch := omega) only [upT_at, upT_na, h3]; omega) ?_
  simp (disch := omega) only [upA_na, upA_at, up0_na, up0_at, hm]
  refine xg_aload 104 dX3_init_102 rfl rfl ?_
  refine xg_alen 105 dX3_init_104 rfl (by simp (disch := omega) only [upT_at, upT_na, hk, h1, h2, h3, h5]) (show _ = (400 : Int) by simp (disch := omega) only [upT_na, h5]) ?_
  refine xg_mmin 108 kl_RX3_7 dX3_init_105 rfl (by omega) (Nat.le_of_ble_eq_true rfl) (by omega) ⟨by first | decide | omega, by first | decide | omega⟩ ?_
  rw [show min m (400 : Int) = m by omega]
  refine xg_mmax 111 kl_RX3_13 dX3_init_108 rfl (by omega) (Nat.le_of_ble_eq_true rfl) (by omega) ⟨by first | decide | omega, by first | decide | omega⟩ ?_
  rw [show max (0 : Int) m = m by omega]
  refine xg_istore 113 _ dX3_init_111 rfl rfl (by decide) (Or.inr rfl) ?_
  refine xg_aloadn 114 dX3_init_113 rfl rfl rfl ?_
  refine xg_iload 116 dX3_init_114 rfl rfl ?_
  refine xg_nai 118 dX3_init_116 rfl (by omega) ⟨by first | decide | omega, by first | decide | omega⟩ ?_
  refine xg_putAF 121 kf_RX3_38 rfl (fun C T N h => by cases h.1; rfl) dX3_init_118 rfl (by simp (disch := omega) only [upT_at, upT_na, hk, h1, h2, h3, h5]) (show _ = va_rf (some _) from rfl) ?_
  refine xg_aload 123 dX3_init_121 rfl rfl ?_
  refine xg_iconst 124 dX3_init_123 rfl ?_
  refine xg_aloadn 125 dX3_init_124 rfl rfl rfl ?_
  refine xg_getP 128 kf_RX3_38 dX3_init_125 rfl (by simp (disch := omega) only [upT_at, upT_na, hk, h1, h2, h3, h5]) (show _ = some (l + 1 + 1 + 1 + 1) by simp (disch := omega) only [upP_at, upP_nk]) ?_
  refine xg_iconst 129 dX3_init_128 rfl ?_
  refine xg_iload 131 dX3_init_129 rfl rfl ?_
  refine xg_acp 134 kl_RX3_32 dX3_init_131 rfl (by simp (disch := omega) only [upT_at, upT_na, hk, h1, h2, h3, h5]) (by simp (disch := omega) only [upT_at, upT_na, hk, h1, h2, h3, h5]) (by omega) (by simp (disch := omega) only [upT_at, upT_na, h1, h2, h3, h5]; omega) (Nat.le_of_ble_eq_true rfl) (by omega) ?_
  refine xg_aloadn 135 dX3_init_134 rfl rfl rfl ?_
  refine xg_bipush 137 dX3_init_135 rfl (by decide) ?_
  refine xg_nai 139 dX3_init_137 rfl (by omega) ⟨by first | decide | omega, by first | decide | omega⟩ ?_
  refine xg_putAF 142 kf_RX3_41 rfl (fun C T N h => by cases h.1; rfl) dX3_init_139 rfl (by simp (disch := omega) only [upT_at, upT_na, hk, h1, h2, h3, h5]) (show _ = va_rf (some _) from rfl) ?_
  subst hX
  refine xg_return dX3_init_142 rfl ⟨by first | decide | omega, by first | decide | omega⟩ ?_
  unfold xNewW
  refine ⟨rfl, _, _, _, _, rfl, ⟨⟨?_, ?_⟩, ⟨?_, ?_, ?_, fun j j0 j1 => ?_⟩, ⟨?_, ?_, ?_, fun j j0 j1 => ?_⟩, ⟨?_, ?_, ?_, fun j j0 j1 => ?_⟩, ⟨?_, ?_, ?_, fun j j0 j1 => ?_⟩, ?_, ?_, ?_⟩, fun b hb => ⟨?_, ?_, ?_, ?_, rfl⟩⟩
  all_goals first
    | (simp (disch := omega) only [Nat.add_assoc, Nat.reduceAdd, upT_at, upT_na, upP_at, upP_nk, upP_na, up0_at, up0_na, upF_at, upF_na, upA_at, upA_na, hk]; done)
    | (simp (disch := omega) only [Nat.add_assoc, Nat.reduceAdd, upT_at, upT_na, upP_at, upP_nk, upP_na, up0_at, up0_na, upF_at, upF_na, upA_at, upA_na, hk, wCq_in]; done)
    | skip

