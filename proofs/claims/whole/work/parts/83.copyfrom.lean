theorem dX8_copyFrom_0 : decode cX8_copyFrom 0 = .ok (.iconst 0, 1) := by decide +kernel
theorem dX8_copyFrom_1 : decode cX8_copyFrom 1 = .ok (.istore_n 2, 1) := by decide +kernel
theorem dX8_copyFrom_2 : decode cX8_copyFrom 2 = .ok (.iload_n 2, 1) := by decide +kernel
theorem dX8_copyFrom_3 : decode cX8_copyFrom 3 = .ok (.bipush 12, 2) := by decide +kernel
theorem dX8_copyFrom_5 : decode cX8_copyFrom 5 = .ok (.if_icmp .ge 40, 3) := by decide +kernel
theorem dX8_copyFrom_8 : decode cX8_copyFrom 8 = .ok (.iload_n 2, 1) := by decide +kernel
theorem dX8_copyFrom_9 : decode cX8_copyFrom 9 = .ok (.aload_n 0, 1) := by decide +kernel
theorem dX8_copyFrom_10 : decode cX8_copyFrom 10 = .ok (.getfield 70, 3) := by decide +kernel
theorem dX8_copyFrom_13 : decode cX8_copyFrom 13 = .ok (.if_icmp .lt 11, 3) := by decide +kernel
theorem dX8_copyFrom_16 : decode cX8_copyFrom 16 = .ok (.iload_n 2, 1) := by decide +kernel
theorem dX8_copyFrom_17 : decode cX8_copyFrom 17 = .ok (.aload_n 1, 1) := by decide +kernel
theorem dX8_copyFrom_18 : decode cX8_copyFrom 18 = .ok (.getfield 70, 3) := by decide +kernel
theorem dX8_copyFrom_21 : decode cX8_copyFrom 21 = .ok (.if_icmp .ge 18, 3) := by decide +kernel
theorem dX8_copyFrom_24 : decode cX8_copyFrom 24 = .ok (.aload_n 0, 1) := by decide +kernel
theorem dX8_copyFrom_25 : decode cX8_copyFrom 25 = .ok (.getfield 11, 3) := by decide +kernel
theorem dX8_copyFrom_28 : decode cX8_copyFrom 28 = .ok (.iload_n 2, 1) := by decide +kernel
theorem dX8_copyFrom_29 : decode cX8_copyFrom 29 = .ok (.aaload, 1) := by decide +kernel
theorem dX8_copyFrom_30 : decode cX8_copyFrom 30 = .ok (.aload_n 1, 1) := by decide +kernel
theorem dX8_copyFrom_31 : decode cX8_copyFrom 31 = .ok (.getfield 11, 3) := by decide +kernel
theorem dX8_copyFrom_34 : decode cX8_copyFrom 34 = .ok (.iload_n 2, 1) := by decide +kernel
theorem dX8_copyFrom_35 : decode cX8_copyFrom 35 = .ok (.aaload, 1) := by decide +kernel
theorem dX8_copyFrom_36 : decode cX8_copyFrom 36 = .ok (.invokevirtual 73, 3) := by decide +kernel
theorem dX8_copyFrom_39 : decode cX8_copyFrom 39 = .ok (.iinc 2 1, 3) := by decide +kernel
theorem dX8_copyFrom_42 : decode cX8_copyFrom 42 = .ok (.goto (-40), 3) := by decide +kernel
theorem dX8_copyFrom_45 : decode cX8_copyFrom 45 = .ok (.aload_n 0, 1) := by decide +kernel
theorem dX8_copyFrom_46 : decode cX8_copyFrom 46 = .ok (.aload_n 1, 1) := by decide +kernel
theorem dX8_copyFrom_47 : decode cX8_copyFrom 47 = .ok (.getfield 70, 3) := by decide +kernel
theorem dX8_copyFrom_50 : decode cX8_copyFrom 50 = .ok (.putfield 70, 3) := by decide +kernel
theorem dX8_copyFrom_53 : decode cX8_copyFrom 53 = .ok (.aload_n 0, 1) := by decide +kernel
theorem dX8_copyFrom_54 : decode cX8_copyFrom 54 = .ok (.getfield 18, 3) := by decide +kernel
theorem dX8_copyFrom_57 : decode cX8_copyFrom 57 = .ok (.aload_n 1, 1) := by decide +kernel
theorem dX8_copyFrom_58 : decode cX8_copyFrom 58 = .ok (.getfield 18, 3) := by decide +kernel
theorem dX8_copyFrom_61 : decode cX8_copyFrom 61 = .ok (.invokevirtual 73, 3) := by decide +kernel
theorem dX8_copyFrom_64 : decode cX8_copyFrom 64 = .ok (.aload_n 0, 1) := by decide +kernel
theorem dX8_copyFrom_65 : decode cX8_copyFrom 65 = .ok (.getfield 22, 3) := by decide +kernel
theorem dX8_copyFrom_68 : decode cX8_copyFrom 68 = .ok (.aload_n 1, 1) := by decide +kernel
theorem dX8_copyFrom_69 : decode cX8_copyFrom 69 = .ok (.getfield 22, 3) := by decide +kernel
theorem dX8_copyFrom_72 : decode cX8_copyFrom 72 = .ok (.invokevirtual 73, 3) := by decide +kernel
theorem dX8_copyFrom_75 : decode cX8_copyFrom 75 = .ok (.aload_n 0, 1) := by decide +kernel
theorem dX8_copyFrom_76 : decode cX8_copyFrom 76 = .ok (.getfield 28, 3) := by decide +kernel
theorem dX8_copyFrom_79 : decode cX8_copyFrom 79 = .ok (.aload_n 1, 1) := by decide +kernel
theorem dX8_copyFrom_80 : decode cX8_copyFrom 80 = .ok (.getfield 28, 3) := by decide +kernel
theorem dX8_copyFrom_83 : decode cX8_copyFrom 83 = .ok (.invokevirtual 77, 3) := by decide +kernel
theorem dX8_copyFrom_86 : decode cX8_copyFrom 86 = .ok (.aload_n 0, 1) := by decide +kernel
theorem dX8_copyFrom_87 : decode cX8_copyFrom 87 = .ok (.getfield 35, 3) := by decide +kernel
theorem dX8_copyFrom_90 : decode cX8_copyFrom 90 = .ok (.aload_n 1, 1) := by decide +kernel
theorem dX8_copyFrom_91 : decode cX8_copyFrom 91 = .ok (.getfield 35, 3) := by decide +kernel
theorem dX8_copyFrom_94 : decode cX8_copyFrom 94 = .ok (.invokevirtual 80, 3) := by decide +kernel
theorem dX8_copyFrom_97 : decode cX8_copyFrom 97 = .ok (.aload_n 0, 1) := by decide +kernel
theorem dX8_copyFrom_98 : decode cX8_copyFrom 98 = .ok (.getfield 42, 3) := by decide +kernel
theorem dX8_copyFrom_101 : decode cX8_copyFrom 101 = .ok (.aload_n 1, 1) := by decide +kernel
theorem dX8_copyFrom_102 : decode cX8_copyFrom 102 = .ok (.getfield 42, 3) := by decide +kernel
theorem dX8_copyFrom_105 : decode cX8_copyFrom 105 = .ok (.invokevirtual 83, 3) := by decide +kernel
theorem dX8_copyFrom_108 : decode cX8_copyFrom 108 = .ok (.aload_n 0, 1) := by decide +kernel
theorem dX8_copyFrom_109 : decode cX8_copyFrom 109 = .ok (.getfield 49, 3) := by decide +kernel
theorem dX8_copyFrom_112 : decode cX8_copyFrom 112 = .ok (.aload_n 1, 1) := by decide +kernel
theorem dX8_copyFrom_113 : decode cX8_copyFrom 113 = .ok (.getfield 49, 3) := by decide +kernel
theorem dX8_copyFrom_116 : decode cX8_copyFrom 116 = .ok (.invokevirtual 86, 3) := by decide +kernel
theorem dX8_copyFrom_119 : decode cX8_copyFrom 119 = .ok (.aload_n 0, 1) := by decide +kernel
theorem dX8_copyFrom_120 : decode cX8_copyFrom 120 = .ok (.aload_n 1, 1) := by decide +kernel
theorem dX8_copyFrom_121 : decode cX8_copyFrom 121 = .ok (.getfield 89, 3) := by decide +kernel
theorem dX8_copyFrom_124 : decode cX8_copyFrom 124 = .ok (.putfield 89, 3) := by decide +kernel
theorem dX8_copyFrom_127 : decode cX8_copyFrom 127 = .ok (.aload_n 0, 1) := by decide +kernel
theorem dX8_copyFrom_128 : decode cX8_copyFrom 128 = .ok (.aload_n 1, 1) := by decide +kernel
theorem dX8_copyFrom_129 : decode cX8_copyFrom 129 = .ok (.getfield 57, 3) := by decide +kernel
theorem dX8_copyFrom_132 : decode cX8_copyFrom 132 = .ok (.putfield 57, 3) := by decide +kernel
theorem dX8_copyFrom_135 : decode cX8_copyFrom 135 = .ok (.aload_n 0, 1) := by decide +kernel
theorem dX8_copyFrom_136 : decode cX8_copyFrom 136 = .ok (.aload_n 1, 1) := by decide +kernel
theorem dX8_copyFrom_137 : decode cX8_copyFrom 137 = .ok (.getfield 61, 3) := by decide +kernel
theorem dX8_copyFrom_140 : decode cX8_copyFrom 140 = .ok (.putfield 61, 3) := by decide +kernel
theorem dX8_copyFrom_143 : decode cX8_copyFrom 143 = .ok (.aload_n 0, 1) := by decide +kernel
theorem dX8_copyFrom_144 : decode cX8_copyFrom 144 = .ok (.aload_n 1, 1) := by decide +kernel
theorem dX8_copyFrom_145 : decode cX8_copyFrom 145 = .ok (.getfield 64, 3) := by decide +kernel
theorem dX8_copyFrom_148 : decode cX8_copyFrom 148 = .ok (.putfield 64, 3) := by decide +kernel
theorem dX8_copyFrom_151 : decode cX8_copyFrom 151 = .ok (.aload_n 0, 1) := by decide +kernel
theorem dX8_copyFrom_152 : decode cX8_copyFrom 152 = .ok (.aload_n 1, 1) := by decide +kernel
theorem dX8_copyFrom_153 : decode cX8_copyFrom 153 = .ok (.getfield 93, 3) := by decide +kernel
theorem dX8_copyFrom_156 : decode cX8_copyFrom 156 = .ok (.putfield 93, 3) := by decide +kernel
theorem dX8_copyFrom_159 : decode cX8_copyFrom 159 = .ok (.aload_n 0, 1) := by decide +kernel
theorem dX8_copyFrom_160 : decode cX8_copyFrom 160 = .ok (.aload_n 1, 1) := by decide +kernel
theorem dX8_copyFrom_161 : decode cX8_copyFrom 161 = .ok (.getfield 67, 3) := by decide +kernel
theorem dX8_copyFrom_164 : decode cX8_copyFrom 164 = .ok (.putfield 67, 3) := by decide +kernel
theorem dX8_copyFrom_167 : decode cX8_copyFrom 167 = .ok (.aload_n 0, 1) := by decide +kernel
theorem dX8_copyFrom_168 : decode cX8_copyFrom 168 = .ok (.aload_n 1, 1) := by decide +kernel
theorem dX8_copyFrom_169 : decode cX8_copyFrom 169 = .ok (.getfield 96, 3) := by decide +kernel
theorem dX8_copyFrom_172 : decode cX8_copyFrom 172 = .ok (.putfield 96, 3) := by decide +kernel
theorem dX8_copyFrom_175 : decode cX8_copyFrom 175 = .ok (.aload_n 0, 1) := by decide +kernel
theorem dX8_copyFrom_176 : decode cX8_copyFrom 176 = .ok (.aload_n 1, 1) := by decide +kernel
theorem dX8_copyFrom_177 : decode cX8_copyFrom 177 = .ok (.getfield 99, 3) := by decide +kernel
theorem dX8_copyFrom_180 : decode cX8_copyFrom 180 = .ok (.putfield 99, 3) := by decide +kernel
theorem dX8_copyFrom_183 : decode cX8_copyFrom 183 = .ok (.return_, 1) := by decide +kernel
set_option maxHeartbeats 4000000 in
set_option maxRecDepth 100000 in
theorem ct_X8_copyFrom0 {E : xE} {z : Nat} {T : Nat → Nat × Int} {F : Nat → Nat → Int} {I : Nat → Int → Int} {P : Nat → Nat → Option Nat} {Y : Nat → Int → Option Nat} {a b : Nat} {w : Int → Int} (hW : SW T F P Y a) (hS : SR T F I P Y b w) (hi : wRn w) (hab : b + 57 ≤ a ∨ a + 57 ≤ b) (hdl : ∀ l, P b 16 = some l → l + 6 ≤ a ∨ a + 57 ≤ l) (hn : P b 16 = none) : Ct E 2 mX8_copyFrom 0 0 [.ref a, .ref b] (z, T, F, I, P, Y) (xC a b z T F I P Y w) := by
  obtain ⟨⟨hO, hL, hTy⟩, hLw, ⟨π, hB⟩, hV, hLf⟩ := id hS
  obtain ⟨⟨⟨⟨s0, s1, s2, s3⟩, sR, ⟨s4, s5⟩, ⟨s6, sLv⟩, ⟨s7, s8⟩, ⟨s9, sJo⟩, s10, s11, s12⟩, p1, p2, p3, p4, p5⟩, ⟨⟨c1, c9, c10, c11, c12, c13, c14, c15⟩, hTl, j0, j1, j2⟩, hRn, hTb, hOt, hJo⟩ := id hB
  obtain ⟨hR, o0, o1, o2, o3, o4, o5, o6, oc, o13, o14, o16, o17, o18, ov⟩ := id hO
  have hN := wN_i o0.1
  obtain ⟨hwa, ⟨ρ, hpa⟩, ha1, ha2⟩ := hW
  obtain ⟨⟨t0, t1, t2, t3⟩, tR, ⟨t4, t5⟩, ⟨t6, tLv⟩, ⟨t7, t8⟩, ⟨t9, tJo⟩, t10, t11, t12⟩ := id hwa
  obtain ⟨x1, x2, x3, x4, x5⟩ := id hpa
  have hne : b ≠ a := by omega
  have sl0 := sLv.1
  have tl0 := tLv.1
  have sj0 := sJo.1
  have tj0 := tJo.1
  have zt := x4 12 (by omega)
  have zo := x4 13 (by omega)
  have yt := p4 12 (by omega)
  have yo := p4 13 (by omega)
  have wxt := tR (ρ 12) zt
  have wxo := tR (ρ 13) zo
  have wyt := sR (π 12) yt
  have wyo := sR (π 13) yo
  have wxt0 := wxt.1
  have wxo0 := wxo.1
  have wyt0 := wyt.1
  have wyo0 := wyo.1
  have hto := hpa.ne (i := 12) (j := 13) (by omega) (by omega) (by omega)
  refine Ct.of [some (.ref a), some (.ref b), none] kt_X8_copyFrom rfl (Nat.le_of_ble_eq_true rfl) rfl (fun d hd => ?_)
  generalize hX : xN E _ _ _ = X
  refine xg_iconst 1 dX8_copyFrom_0 rfl ?_
  refine xg_istoren 2 _ dX8_copyFrom_1 rfl rfl rfl (by decide) (Or.inr rfl) ?_
  have loop2 : ∀ (mm : Nat) (r : Nat) (F2 : Nat → Nat → Int) (I2 : Nat → Int → Int), (r ≤ 12) → (∀ c : Nat, c < a + 2 ∨ a + 44 ≤ c → F2 c = F c ∧ I2 c = I c) → (∀ j : Nat, j < r → (j : Int) < w 0 → rRun F2 I2 (a + 2 + 3 * ρ j) w (j : Int)) → 12 - (r : Int) < (mm : Int) → xG E mX8_copyFrom (xR d 0 0) X 2 [some (.ref a), some (.ref b), some (J (r : Int))] [] (z, T, F2, I2, P, Y) 0 0 := by
    intro mm
    induction mm with
    | zero => intro r F2 I2 hr1 ho2 hr2 hm; exfalso; omega
    | succ mm ih =>
      intro r F2 I2 hr1 ho2 hr2 hm
      have fa := (ho2 a (by omega)).1
      have fb := (ho2 b (by omega)).1
      have fa1 := congrFun fa 1
      have fb1 := congrFun fb 1
      refine xg_iloadn 3 dX8_copyFrom_2 rfl rfl rfl ?_
      refine xg_bipush 5 dX8_copyFrom_3 rfl (by decide) ?_
      refine xg_icge 45 8 dX8_copyFrom_5 rfl rfl (by omega) (fun hb5 => ?_) (fun hb5 => ?_)
      · skip
        refine xg_aloadn 46 dX8_copyFrom_45 rfl rfl rfl ?_
        refine xg_aloadn 47 dX8_copyFrom_46 rfl rfl rfl ?_
        refine xg_getI 50 kf_RX8_70 dX8_copyFrom_47 rfl (by assumption) ?_
        rw [fb, c1]
        refine xg_putI 53 kf_RX8_70 dX8_copyFrom_50 rfl (by assumption) ?_
        refine xg_aloadn 54 dX8_copyFrom_53 rfl rfl rfl ?_
        refine xg_getP 57 kf_RX8_18 dX8_copyFrom_54 rfl (by assumption) (by assumption) ?_
        refine xg_aloadn 58 dX8_copyFrom_57 rfl rfl rfl ?_
        refine xg_getP 61 kf_RX8_18 dX8_copyFrom_58 rfl (by assumption) (by assumption) ?_
        refine xg_callV 64 6 [_] _ kv_X6_copyFrom ⟨_, _, rfl⟩ kl_RX8_73 dX8_copyFrom_61 rfl (by assumption) (by omega) rfl rfl (Nat.le_of_ble_eq_true rfl) (by omega) ⟨Nat.le_refl _, Nat.le_refl _⟩ (ct_X6_copyFrom wxt wyt (by omega)) rfl ?_
        rw [fCpy_3 (show (b + 2 + 3 * π 12) ≠ (a + 2 + 3 * ρ 12) by omega)]
        refine xg_aloadn 65 dX8_copyFrom_64 rfl rfl rfl ?_
        refine xg_getP 68 kf_RX8_22 dX8_copyFrom_65 rfl (by assumption) (by assumption) ?_
        refine xg_aloadn 69 dX8_copyFrom_68 rfl rfl rfl ?_
        refine xg_getP 72 kf_RX8_22 dX8_copyFrom_69 rfl (by assumption) (by assumption) ?_
        refine xg_callV 75 6 [_] _ kv_X6_copyFrom ⟨_, _, rfl⟩ kl_RX8_73 dX8_copyFrom_72 rfl (by assumption) (by omega) rfl rfl (Nat.le_of_ble_eq_true rfl) (by omega) ⟨Nat.le_refl _, Nat.le_refl _⟩ (ct_X6_copyFrom wxo wyo (by omega)) rfl ?_
        rw [fCpy_3 (show (b + 2 + 3 * π 13) ≠ (a + 2 + 3 * ρ 13) by omega)]
        refine xg_aloadn 76 dX8_copyFrom_75 rfl rfl rfl ?_
        refine xg_getP 79 kf_RX8_28 dX8_copyFrom_76 rfl (by assumption) (by assumption) ?_
        refine xg_aloadn 80 dX8_copyFrom_79 rfl rfl rfl ?_
        refine xg_getP 83 kf_RX8_28 dX8_copyFrom_80 rfl (by assumption) (by assumption) ?_
        refine xg_callV 86 1 [_] _ kv_X1_copyFrom ⟨_, _, rfl⟩ kl_RX8_77 dX8_copyFrom_83 rfl (by assumption) (by omega) rfl rfl (Nat.le_of_ble_eq_true rfl) (by omega) ⟨Nat.le_refl _, Nat.le_refl _⟩ (ct_X1_copyFrom t5 s5 (by omega) (by rw [fCpy_na (by omega), fCpy_na (by omega), upF_na _ _ _ _ (by omega), (ho2 _ (by omega)).1, j0]; exact o16)) rfl ?_
        rw [fCpy_4 (show b + 44 ≠ a + 44 by omega)]
        refine xg_aloadn 87 dX8_copyFrom_86 rfl rfl rfl ?_
        refine xg_getP 90 kf_RX8_35 dX8_copyFrom_87 rfl (by assumption) (by assumption) ?_
        refine xg_aloadn 91 dX8_copyFrom_90 rfl rfl rfl ?_
        refine xg_getP 94 kf_RX8_35 dX8_copyFrom_91 rfl (by assumption) (by assumption) ?_
        refine xg_callV 97 5 [_] _ kv_X5_copyFrom ⟨_, _, rfl⟩ kl_RX8_80 dX8_copyFrom_94 rfl (by assumption) (by omega) rfl rfl (Nat.le_of_ble_eq_true rfl) (by omega) ⟨Nat.le_refl _, Nat.le_refl _⟩ (ct_X5_copyFrom tLv sLv (by omega)) rfl ?_
        rw [fCpy_45 (show b + 45 ≠ a + 45 by omega)]
        refine xg_aloadn 98 dX8_copyFrom_97 rfl rfl rfl ?_
        refine xg_getP 101 kf_RX8_42 dX8_copyFrom_98 rfl (by assumption) (by assumption) ?_
        refine xg_aloadn 102 dX8_copyFrom_101 rfl rfl rfl ?_
        refine xg_getP 105 kf_RX8_42 dX8_copyFrom_102 rfl (by assumption) (by assumption) ?_
        refine xg_callV 108 10 [_] _ kv_X10_copyFrom ⟨_, _, rfl⟩ kl_RX8_83 dX8_copyFrom_105 rfl (by assumption) (by omega) rfl rfl (Nat.le_of_ble_eq_true rfl) (by omega) ⟨Nat.le_refl _, Nat.le_refl _⟩ (ct_X10_copyFrom t8 s8 (by omega)) rfl ?_
        rw [fCpy_6 (show b + 50 ≠ a + 50 by omega)]
        refine xg_aloadn 109 dX8_copyFrom_108 rfl rfl rfl ?_
        refine xg_getP 112 kf_RX8_49 dX8_copyFrom_109 rfl (by assumption) (by assumption) ?_
        refine xg_aloadn 113 dX8_copyFrom_112 rfl rfl rfl ?_
        refine xg_getP 116 kf_RX8_49 dX8_copyFrom_113 rfl (by assumption) (by assumption) ?_
        refine xg_callV 119 2 [_] _ kv_X2_copyFrom ⟨_, _, rfl⟩ kl_RX8_86 dX8_copyFrom_116 rfl (by assumption) (by omega) rfl rfl (Nat.le_of_ble_eq_true rfl) (by omega) ⟨Nat.le_refl _, Nat.le_refl _⟩ (ct_X2_copyFrom tJo sJo (by omega)) rfl ?_
        rw [fCpy_45 (show b + 51 ≠ a + 51 by omega)]
        refine xg_aloadn 120 dX8_copyFrom_119 rfl rfl rfl ?_
        refine xg_aloadn 121 dX8_copyFrom_120 rfl rfl rfl ?_
        refine xg_getI 124 kf_RX8_89 dX8_copyFrom_121 rfl (by assumption) ?_
        refine xg_putZ 127 kf_RX8_89 dX8_copyFrom_124 rfl (by assumption) (by rw [fCpy_na (by omega), fCpy_na (by omega), fCpy_na (by omega), fCpy_na (by omega), fCpy_na (by omega), fCpy_na (by omega), upF_na _ _ _ _ hne, fb, c9]; exact o3) ?_
        refine xg_aloadn 128 dX8_copyFrom_127 rfl rfl rfl ?_
        refine xg_aloadn 129 dX8_copyFrom_128 rfl rfl rfl ?_
        refine xg_getI 132 kf_RX8_57 dX8_copyFrom_129 rfl (by assumption) ?_
        simp only [upF_na _ _ _ _ hne]
        refine xg_putI 135 kf_RX8_57 dX8_copyFrom_132 rfl (by assumption) ?_
        refine xg_aloadn 136 dX8_copyFrom_135 rfl rfl rfl ?_
        refine xg_aloadn 137 dX8_copyFrom_136 rfl rfl rfl ?_
        refine xg_getI 140 kf_RX8_61 dX8_copyFrom_137 rfl (by assumption) ?_
        simp only [upF_na _ _ _ _ hne]
        refine xg_putI 143 kf_RX8_61 dX8_copyFrom_140 rfl (by assumption) ?_
        refine xg_aloadn 144 dX8_copyFrom_143 rfl rfl rfl ?_
        refine xg_aloadn 145 dX8_copyFrom_144 rfl rfl rfl ?_
        refine xg_getI 148 kf_RX8_64 dX8_copyFrom_145 rfl (by assumption) ?_
        simp only [upF_na _ _ _ _ hne]
        refine xg_putI 151 kf_RX8_64 dX8_copyFrom_148 rfl (by assumption) ?_
        refine xg_aloadn 152 dX8_copyFrom_151 rfl rfl rfl ?_
        refine xg_aloadn 153 dX8_copyFrom_152 rfl rfl rfl ?_
        refine xg_getI 156 kf_RX8_93 dX8_copyFrom_153 rfl (by assumption) ?_
        simp only [upF_na _ _ _ _ hne]
        refine xg_putI 159 kf_RX8_93 dX8_copyFrom_156 rfl (by assumption) ?_
        refine xg_aloadn 160 dX8_copyFrom_159 rfl rfl rfl ?_
        refine xg_aloadn 161 dX8_copyFrom_160 rfl rfl rfl ?_
        refine xg_getI 164 kf_RX8_67 dX8_copyFrom_161 rfl (by assumption) ?_
        simp only [upF_na _ _ _ _ hne]
        refine xg_putI 167 kf_RX8_67 dX8_copyFrom_164 rfl (by assumption) ?_
        refine xg_aloadn 168 dX8_copyFrom_167 rfl rfl rfl ?_
        refine xg_aloadn 169 dX8_copyFrom_168 rfl rfl rfl ?_
        refine xg_getI 172 kf_RX8_96 dX8_copyFrom_169 rfl (by assumption) ?_
        simp only [upF_na _ _ _ _ hne]
        refine xg_putI 175 kf_RX8_96 dX8_copyFrom_172 rfl (by assumption) ?_
        refine xg_aloadn 176 dX8_copyFrom_175 rfl rfl rfl ?_
        refine xg_aloadn 177 dX8_copyFrom_176 rfl rfl rfl ?_
        refine xg_get0 180 kf_RX8_99 dX8_copyFrom_177 rfl (by assumption) hn ?_
        refine xg_putO 183 kf_RX8_99 dX8_copyFrom_180 rfl (by assumption) (show _ = va_rf none from rfl) ?_
        subst hX
        refine xg_return dX8_copyFrom_183 rfl ⟨Nat.le_refl _, Nat.le_refl _⟩ ?_
        rw [show r = 12 by omega] at hr2
        obtain ⟨y1, y2, y3, y4, y5, y6, y7, y8, y9, y10, y11, y12⟩ := cp_fin (F := F) (F2 := F2) (I := I) (I2 := I2) (w := w) hab zt zo yt yo hto.2.2 (fun j hj => ⟨x4 j (by omega), (hpa.ne (i := j) (j := 12) (by omega) (by omega) (by omega)).2.2, (hpa.ne (i := j) (j := 13) (by omega) (by omega) (by omega)).2.2⟩) o0.2 c1 ho2 (fun j hj => hr2 j (by omega) hj) hTb hOt
        exact ⟨rfl, _, _, _, rfl, SR.copied (P' := upP P a 16 none) hwa hpa hS hdl (fun c hc => upP_na _ _ _ _ hc) (fun k hk => upP_nk _ _ _ _ hk) (by rw [upP_at, hn]) y1 y2 y3 y4 y5 y6 y7 y8 y9 y10 y11 y12, fun c hc => ⟨(y1 c hc).1, (y1 c hc).2, upP_na _ _ _ _ (by omega)⟩, by rw [upP_at, hn]⟩
      · skip
        refine xg_iloadn 9 dX8_copyFrom_8 rfl rfl rfl ?_
        refine xg_aloadn 10 dX8_copyFrom_9 rfl rfl rfl ?_
        refine xg_getI 13 kf_RX8_70 dX8_copyFrom_10 rfl (by assumption) ?_
        refine xg_iclt 24 16 dX8_copyFrom_13 rfl rfl (by omega) (fun hb13 => ?_) (fun hb13 => ?_)
        · skip
          have hr12 : r < 12 := by omega
          have zr := x4 r (by omega)
          have yr := p4 r (by omega)
          have wxr := tR (ρ r) zr
          have wyr := sR (π r) yr
          have wxr0 := wxr.1
          have wyr0 := wyr.1
          refine xg_aloadn 25 dX8_copyFrom_24 rfl rfl rfl ?_
          refine xg_getP 28 kf_RX8_11 dX8_copyFrom_25 rfl (by assumption) (by assumption) ?_
          refine xg_iloadn 29 dX8_copyFrom_28 rfl rfl rfl ?_
          skip
          refine xg_rald 30 dX8_copyFrom_29 rfl (by assumption) (by omega) (x1 r (by omega)) ?_
          refine xg_aloadn 31 dX8_copyFrom_30 rfl rfl rfl ?_
          refine xg_getP 34 kf_RX8_11 dX8_copyFrom_31 rfl (by assumption) (by assumption) ?_
          refine xg_iloadn 35 dX8_copyFrom_34 rfl rfl rfl ?_
          refine xg_rald 36 dX8_copyFrom_35 rfl (by assumption) (by omega) (p1 r (by omega)) ?_
          refine xg_callV 39 6 [_] _ kv_X6_copyFrom ⟨_, _, rfl⟩ kl_RX8_73 dX8_copyFrom_36 rfl (by assumption) (by omega) rfl rfl (Nat.le_of_ble_eq_true rfl) (by omega) ⟨Nat.le_refl _, Nat.le_refl _⟩ (ct_X6_copyFrom wxr wyr (by omega)) rfl ?_
          refine xg_iinc 42 _ dX8_copyFrom_39 rfl rfl rfl rfl (by decide) (Or.inr rfl) ?_
          refine xg_goto 2 dX8_copyFrom_42 rfl ?_
          rw [fCpy_3 (show b + 2 + 3 * π r ≠ a + 2 + 3 * ρ r by omega)]
          exact xg_weak _ (xle_s rfl (xle_s rfl (xle_s rfl xle_0))) (ih (r + 1) _ _ (by omega) (fun c hc => by rw [fCpy_na (by omega), iCpy_na _ _ _ _ _ (by omega)]; exact ho2 c hc) (fun j hj hjw => by
            by_cases e : j = r
            · subst e
              have hy := (hRn j hjw).heap (F' := F2) (I' := I2) (ho2 _ (by omega)).1 (ho2 _ (by omega)).2 (ho2 _ (by omega)).2
              exact hy.copy
            · have hz9 := hpa.ne (i := j) (j := r) (by omega) (by omega) e
              exact (hr2 j (by omega) hjw).heap (fCpy_na (by omega)) (iCpy_na _ _ _ _ _ (by omega)) (iCpy_na _ _ _ _ _ (by omega))) (by omega))
        · skip
          refine xg_iloadn 17 dX8_copyFrom_16 rfl rfl rfl ?_
          refine xg_aloadn 18 dX8_copyFrom_17 rfl rfl rfl ?_
          refine xg_getI 21 kf_RX8_70 dX8_copyFrom_18 rfl (by assumption) ?_
          refine xg_icge 39 24 dX8_copyFrom_21 rfl rfl (by omega) (fun hb21 => ?_) (fun hb21 => ?_)
          · skip
            refine xg_iinc 42 _ dX8_copyFrom_39 rfl rfl rfl rfl (by decide) (Or.inr rfl) ?_
            refine xg_goto 2 dX8_copyFrom_42 rfl ?_
            exact xg_weak _ (xle_s rfl (xle_s rfl (xle_s rfl xle_0))) (ih (r + 1) F2 I2 (by omega) ho2 (fun j hj hjw => hr2 j (by omega) hjw) (by omega))
          · skip
            have hr12 : r < 12 := by omega
            have zr := x4 r (by omega)
            have yr := p4 r (by omega)
            have wxr := tR (ρ r) zr
            have wyr := sR (π r) yr
            have wxr0 := wxr.1
            have wyr0 := wyr.1
            refine xg_aloadn 25 dX8_copyFrom_24 rfl rfl rfl ?_
            refine xg_getP 28 kf_RX8_11 dX8_copyFrom_25 rfl (by assumption) (by assumption) ?_
            refine xg_iloadn 29 dX8_copyFrom_28 rfl rfl rfl ?_
            skip
            refine xg_rald 30 dX8_copyFrom_29 rfl (by assumption) (by omega) (x1 r (by omega)) ?_
            refine xg_aloadn 31 dX8_copyFrom_30 rfl rfl rfl ?_
            refine xg_getP 34 kf_RX8_11 dX8_copyFrom_31 rfl (by assumption) (by assumption) ?_
            refine xg_iloadn 35 dX8_copyFrom_34 rfl rfl rfl ?_
            refine xg_rald 36 dX8_copyFrom_35 rfl (by assumption) (by omega) (p1 r (by omega)) ?_
            refine xg_callV 39 6 [_] _ kv_X6_copyFrom ⟨_, _, rfl⟩ kl_RX8_73 dX8_copyFrom_36 rfl (by assumption) (by omega) rfl rfl (Nat.le_of_ble_eq_true rfl) (by omega) ⟨Nat.le_refl _, Nat.le_refl _⟩ (ct_X6_copyFrom wxr wyr (by omega)) rfl ?_
            refine xg_iinc 42 _ dX8_copyFrom_39 rfl rfl rfl rfl (by decide) (Or.inr rfl) ?_
            refine xg_goto 2 dX8_copyFrom_42 rfl ?_
            rw [fCpy_3 (show b + 2 + 3 * π r ≠ a + 2 + 3 * ρ r by omega)]
            exact xg_weak _ (xle_s rfl (xle_s rfl (xle_s rfl xle_0))) (ih (r + 1) _ _ (by omega) (fun c hc => by rw [fCpy_na (by omega), iCpy_na _ _ _ _ _ (by omega)]; exact ho2 c hc) (fun j hj hjw => by
              by_cases e : j = r
              · subst e
                have hy := (hRn j hjw).heap (F' := F2) (I' := I2) (ho2 _ (by omega)).1 (ho2 _ (by omega)).2 (ho2 _ (by omega)).2
                exact hy.copy
              · have hz9 := hpa.ne (i := j) (j := r) (by omega) (by omega) e
                exact (hr2 j (by omega) hjw).heap (fCpy_na (by omega)) (iCpy_na _ _ _ _ _ (by omega)) (iCpy_na _ _ _ _ _ (by omega))) (by omega))
  exact xg_weak _ (xle_s rfl (xle_s rfl (xle_s rfl xle_0))) (loop2 14 0 F I (by omega) (fun _ _ => ⟨rfl, rfl⟩) (fun j hj => absurd hj (Nat.not_lt_zero _)) (by omega))

set_option maxHeartbeats 4000000 in
set_option maxRecDepth 100000 in
theorem ct_X8_copyFrom1 {E : xE} {z : Nat} {T : Nat → Nat × Int} {F : Nat → Nat → Int} {I : Nat → Int → Int} {P : Nat → Nat → Option Nat} {Y : Nat → Int → Option Nat} {a b : Nat} {w : Int → Int} (hW : SW T F P Y a) (hS : SR T F I P Y b w) (hi : wRn w) (hab : b + 57 ≤ a ∨ a + 57 ≤ b) (hdl : ∀ l, P b 16 = some l → l + 6 ≤ a ∨ a + 57 ≤ l) {l : Nat} (hn : P b 16 = some l) : Ct E 2 mX8_copyFrom 0 0 [.ref a, .ref b] (z, T, F, I, P, Y) (xC a b z T F I P Y w) := by
  obtain ⟨⟨hO, hL, hTy⟩, hLw, ⟨π, hB⟩, hV, hLf⟩ := id hS
  obtain ⟨⟨⟨⟨s0, s1, s2, s3⟩, sR, ⟨s4, s5⟩, ⟨s6, sLv⟩, ⟨s7, s8⟩, ⟨s9, sJo⟩, s10, s11, s12⟩, p1, p2, p3, p4, p5⟩, ⟨⟨c1, c9, c10, c11, c12, c13, c14, c15⟩, hTl, j0, j1, j2⟩, hRn, hTb, hOt, hJo⟩ := id hB
  obtain ⟨hR, o0, o1, o2, o3, o4, o5, o6, oc, o13, o14, o16, o17, o18, ov⟩ := id hO
  have hN := wN_i o0.1
  obtain ⟨hwa, ⟨ρ, hpa⟩, ha1, ha2⟩ := hW
  obtain ⟨⟨t0, t1, t2, t3⟩, tR, ⟨t4, t5⟩, ⟨t6, tLv⟩, ⟨t7, t8⟩, ⟨t9, tJo⟩, t10, t11, t12⟩ := id hwa
  obtain ⟨x1, x2, x3, x4, x5⟩ := id hpa
  have hne : b ≠ a := by omega
  have sl0 := sLv.1
  have tl0 := tLv.1
  have sj0 := sJo.1
  have tj0 := tJo.1
  have zt := x4 12 (by omega)
  have zo := x4 13 (by omega)
  have yt := p4 12 (by omega)
  have yo := p4 13 (by omega)
  have wxt := tR (ρ 12) zt
  have wxo := tR (ρ 13) zo
  have wyt := sR (π 12) yt
  have wyo := sR (π 13) yo
  have wxt0 := wxt.1
  have wxo0 := wxo.1
  have wyt0 := wyt.1
  have wyo0 := wyo.1
  have hto := hpa.ne (i := 12) (j := 13) (by omega) (by omega) (by omega)
  refine Ct.of [some (.ref a), some (.ref b), none] kt_X8_copyFrom rfl (Nat.le_of_ble_eq_true rfl) rfl (fun d hd => ?_)
  generalize hX : xN E _ _ _ = X
  refine xg_iconst 1 dX8_copyFrom_0 rfl ?_
  refine xg_istoren 2 _ dX8_copyFrom_1 rfl rfl rfl (by decide) (Or.inr rfl) ?_
  have loop2 : ∀ (mm : Nat) (r : Nat) (F2 : Nat → Nat → Int) (I2 : Nat → Int → Int), (r ≤ 12) → (∀ c : Nat, c < a + 2 ∨ a + 44 ≤ c → F2 c = F c ∧ I2 c = I c) → (∀ j : Nat, j < r → (j : Int) < w 0 → rRun F2 I2 (a + 2 + 3 * ρ j) w (j : Int)) → 12 - (r : Int) < (mm : Int) → xG E mX8_copyFrom (xR d 0 0) X 2 [some (.ref a), some (.ref b), some (J (r : Int))] [] (z, T, F2, I2, P, Y) 0 0 := by
    intro mm
    induction mm with
    | zero => intro r F2 I2 hr1 ho2 hr2 hm; exfalso; omega
    | succ mm ih =>
      intro r F2 I2 hr1 ho2 hr2 hm
      have fa := (ho2 a (by omega)).1
      have fb := (ho2 b (by omega)).1
      have fa1 := congrFun fa 1
      have fb1 := congrFun fb 1
      refine xg_iloadn 3 dX8_copyFrom_2 rfl rfl rfl ?_
      refine xg_bipush 5 dX8_copyFrom_3 rfl (by decide) ?_
      refine xg_icge 45 8 dX8_copyFrom_5 rfl rfl (by omega) (fun hb5 => ?_) (fun hb5 => ?_)
      · skip
        refine xg_aloadn 46 dX8_copyFrom_45 rfl rfl rfl ?_
        refine xg_aloadn 47 dX8_copyFrom_46 rfl rfl rfl ?_
        refine xg_getI 50 kf_RX8_70 dX8_copyFrom_47 rfl (by assumption) ?_
        rw [fb, c1]
        refine xg_putI 53 kf_RX8_70 dX8_copyFrom_50 rfl (by assumption) ?_
        refine xg_aloadn 54 dX8_copyFrom_53 rfl rfl rfl ?_
        refine xg_getP 57 kf_RX8_18 dX8_copyFrom_54 rfl (by assumption) (by assumption) ?_
        refine xg_aloadn 58 dX8_copyFrom_57 rfl rfl rfl ?_
        refine xg_getP 61 kf_RX8_18 dX8_copyFrom_58 rfl (by assumption) (by assumption) ?_
        refine xg_callV 64 6 [_] _ kv_X6_copyFrom ⟨_, _, rfl⟩ kl_RX8_73 dX8_copyFrom_61 rfl (by assumption) (by omega) rfl rfl (Nat.le_of_ble_eq_true rfl) (by omega) ⟨Nat.le_refl _, Nat.le_refl _⟩ (ct_X6_copyFrom wxt wyt (by omega)) rfl ?_
        rw [fCpy_3 (show (b + 2 + 3 * π 12) ≠ (a + 2 + 3 * ρ 12) by omega)]
        refine xg_aloadn 65 dX8_copyFrom_64 rfl rfl rfl ?_
        refine xg_getP 68 kf_RX8_22 dX8_copyFrom_65 rfl (by assumption) (by assumption) ?_
        refine xg_aloadn 69 dX8_copyFrom_68 rfl rfl rfl ?_
        refine xg_getP 72 kf_RX8_22 dX8_copyFrom_69 rfl (by assumption) (by assumption) ?_
        refine xg_callV 75 6 [_] _ kv_X6_copyFrom ⟨_, _, rfl⟩ kl_RX8_73 dX8_copyFrom_72 rfl (by assumption) (by omega) rfl rfl (Nat.le_of_ble_eq_true rfl) (by omega) ⟨Nat.le_refl _, Nat.le_refl _⟩ (ct_X6_copyFrom wxo wyo (by omega)) rfl ?_
        rw [fCpy_3 (show (b + 2 + 3 * π 13) ≠ (a + 2 + 3 * ρ 13) by omega)]
        refine xg_aloadn 76 dX8_copyFrom_75 rfl rfl rfl ?_
        refine xg_getP 79 kf_RX8_28 dX8_copyFrom_76 rfl (by assumption) (by assumption) ?_
        refine xg_aloadn 80 dX8_copyFrom_79 rfl rfl rfl ?_
        refine xg_getP 83 kf_RX8_28 dX8_copyFrom_80 rfl (by assumption) (by assumption) ?_
        refine xg_callV 86 1 [_] _ kv_X1_copyFrom ⟨_, _, rfl⟩ kl_RX8_77 dX8_copyFrom_83 rfl (by assumption) (by omega) rfl rfl (Nat.le_of_ble_eq_true rfl) (by omega) ⟨Nat.le_refl _, Nat.le_refl _⟩ (ct_X1_copyFrom t5 s5 (by omega) (by rw [fCpy_na (by omega), fCpy_na (by omega), upF_na _ _ _ _ (by omega), (ho2 _ (by omega)).1, j0]; exact o16)) rfl ?_
        rw [fCpy_4 (show b + 44 ≠ a + 44 by omega)]
        refine xg_aloadn 87 dX8_copyFrom_86 rfl rfl rfl ?_
        refine xg_getP 90 kf_RX8_35 dX8_copyFrom_87 rfl (by assumption) (by assumption) ?_
        refine xg_aloadn 91 dX8_copyFrom_90 rfl rfl rfl ?_
        refine xg_getP 94 kf_RX8_35 dX8_copyFrom_91 rfl (by assumption) (by assumption) ?_
        refine xg_callV 97 5 [_] _ kv_X5_copyFrom ⟨_, _, rfl⟩ kl_RX8_80 dX8_copyFrom_94 rfl (by assumption) (by omega) rfl rfl (Nat.le_of_ble_eq_true rfl) (by omega) ⟨Nat.le_refl _, Nat.le_refl _⟩ (ct_X5_copyFrom tLv sLv (by omega)) rfl ?_
        rw [fCpy_45 (show b + 45 ≠ a + 45 by omega)]
        refine xg_aloadn 98 dX8_copyFrom_97 rfl rfl rfl ?_
        refine xg_getP 101 kf_RX8_42 dX8_copyFrom_98 rfl (by assumption) (by assumption) ?_
        refine xg_aloadn 102 dX8_copyFrom_101 rfl rfl rfl ?_
        refine xg_getP 105 kf_RX8_42 dX8_copyFrom_102 rfl (by assumption) (by assumption) ?_
        refine xg_callV 108 10 [_] _ kv_X10_copyFrom ⟨_, _, rfl⟩ kl_RX8_83 dX8_copyFrom_105 rfl (by assumption) (by omega) rfl rfl (Nat.le_of_ble_eq_true rfl) (by omega) ⟨Nat.le_refl _, Nat.le_refl _⟩ (ct_X10_copyFrom t8 s8 (by omega)) rfl ?_
        rw [fCpy_6 (show b + 50 ≠ a + 50 by omega)]
        refine xg_aloadn 109 dX8_copyFrom_108 rfl rfl rfl ?_
        refine xg_getP 112 kf_RX8_49 dX8_copyFrom_109 rfl (by assumption) (by assumption) ?_
        refine xg_aloadn 113 dX8_copyFrom_112 rfl rfl rfl ?_
        refine xg_getP 116 kf_RX8_49 dX8_copyFrom_113 rfl (by assumption) (by assumption) ?_
        refine xg_callV 119 2 [_] _ kv_X2_copyFrom ⟨_, _, rfl⟩ kl_RX8_86 dX8_copyFrom_116 rfl (by assumption) (by omega) rfl rfl (Nat.le_of_ble_eq_true rfl) (by omega) ⟨Nat.le_refl _, Nat.le_refl _⟩ (ct_X2_copyFrom tJo sJo (by omega)) rfl ?_
        rw [fCpy_45 (show b + 51 ≠ a + 51 by omega)]
        refine xg_aloadn 120 dX8_copyFrom_119 rfl rfl rfl ?_
        refine xg_aloadn 121 dX8_copyFrom_120 rfl rfl rfl ?_
        refine xg_getI 124 kf_RX8_89 dX8_copyFrom_121 rfl (by assumption) ?_
        refine xg_putZ 127 kf_RX8_89 dX8_copyFrom_124 rfl (by assumption) (by rw [fCpy_na (by omega), fCpy_na (by omega), fCpy_na (by omega), fCpy_na (by omega), fCpy_na (by omega), fCpy_na (by omega), upF_na _ _ _ _ hne, fb, c9]; exact o3) ?_
        refine xg_aloadn 128 dX8_copyFrom_127 rfl rfl rfl ?_
        refine xg_aloadn 129 dX8_copyFrom_128 rfl rfl rfl ?_
        refine xg_getI 132 kf_RX8_57 dX8_copyFrom_129 rfl (by assumption) ?_
        simp only [upF_na _ _ _ _ hne]
        refine xg_putI 135 kf_RX8_57 dX8_copyFrom_132 rfl (by assumption) ?_
        refine xg_aloadn 136 dX8_copyFrom_135 rfl rfl rfl ?_
        refine xg_aloadn 137 dX8_copyFrom_136 rfl rfl rfl ?_
        refine xg_getI 140 kf_RX8_61 dX8_copyFrom_137 rfl (by assumption) ?_
        simp only [upF_na _ _ _ _ hne]
        refine xg_putI 143 kf_RX8_61 dX8_copyFrom_140 rfl (by assumption) ?_
        refine xg_aloadn 144 dX8_copyFrom_143 rfl rfl rfl ?_
        refine xg_aloadn 145 dX8_copyFrom_144 rfl rfl rfl ?_
        refine xg_getI 148 kf_RX8_64 dX8_copyFrom_145 rfl (by assumption) ?_
        simp only [upF_na _ _ _ _ hne]
        refine xg_putI 151 kf_RX8_64 dX8_copyFrom_148 rfl (by assumption) ?_
        refine xg_aloadn 152 dX8_copyFrom_151 rfl rfl rfl ?_
        refine xg_aloadn 153 dX8_copyFrom_152 rfl rfl rfl ?_
        refine xg_getI 156 kf_RX8_93 dX8_copyFrom_153 rfl (by assumption) ?_
        simp only [upF_na _ _ _ _ hne]
        refine xg_putI 159 kf_RX8_93 dX8_copyFrom_156 rfl (by assumption) ?_
        refine xg_aloadn 160 dX8_copyFrom_159 rfl rfl rfl ?_
        refine xg_aloadn 161 dX8_copyFrom_160 rfl rfl rfl ?_
        refine xg_getI 164 kf_RX8_67 dX8_copyFrom_161 rfl (by assumption) ?_
        simp only [upF_na _ _ _ _ hne]
        refine xg_putI 167 kf_RX8_67 dX8_copyFrom_164 rfl (by assumption) ?_
        refine xg_aloadn 168 dX8_copyFrom_167 rfl rfl rfl ?_
        refine xg_aloadn 169 dX8_copyFrom_168 rfl rfl rfl ?_
        refine xg_getI 172 kf_RX8_96 dX8_copyFrom_169 rfl (by assumption) ?_
        simp only [upF_na _ _ _ _ hne]
        refine xg_putI 175 kf_RX8_96 dX8_copyFrom_172 rfl (by assumption) ?_
        refine xg_aloadn 176 dX8_copyFrom_175 rfl rfl rfl ?_
        refine xg_aloadn 177 dX8_copyFrom_176 rfl rfl rfl ?_
        refine xg_getP 180 kf_RX8_99 dX8_copyFrom_177 rfl (by assumption) hn ?_
        refine xg_putO 183 kf_RX8_99 dX8_copyFrom_180 rfl (by assumption) (show _ = va_rf (some l) from rfl) ?_
        subst hX
        refine xg_return dX8_copyFrom_183 rfl ⟨Nat.le_refl _, Nat.le_refl _⟩ ?_
        rw [show r = 12 by omega] at hr2
        obtain ⟨y1, y2, y3, y4, y5, y6, y7, y8, y9, y10, y11, y12⟩ := cp_fin (F := F) (F2 := F2) (I := I) (I2 := I2) (w := w) hab zt zo yt yo hto.2.2 (fun j hj => ⟨x4 j (by omega), (hpa.ne (i := j) (j := 12) (by omega) (by omega) (by omega)).2.2, (hpa.ne (i := j) (j := 13) (by omega) (by omega) (by omega)).2.2⟩) o0.2 c1 ho2 (fun j hj => hr2 j (by omega) hj) hTb hOt
        exact ⟨rfl, _, _, _, rfl, SR.copied (P' := upP P a 16 (some l)) hwa hpa hS hdl (fun c hc => upP_na _ _ _ _ hc) (fun k hk => upP_nk _ _ _ _ hk) (by rw [upP_at, hn]) y1 y2 y3 y4 y5 y6 y7 y8 y9 y10 y11 y12, fun c hc => ⟨(y1 c hc).1, (y1 c hc).2, upP_na _ _ _ _ (by omega)⟩, by rw [upP_at, hn]⟩
      · skip
        refine xg_iloadn 9 dX8_copyFrom_8 rfl rfl rfl ?_
        refine xg_aloadn 10 dX8_copyFrom_9 rfl rfl rfl ?_
        refine xg_getI 13 kf_RX8_70 dX8_copyFrom_10 rfl (by assumption) ?_
        refine xg_iclt 24 16 dX8_copyFrom_13 rfl rfl (by omega) (fun hb13 => ?_) (fun hb13 => ?_)
        · skip
          have hr12 : r < 12 := by omega
          have zr := x4 r (by omega)
          have yr := p4 r (by omega)
          have wxr := tR (ρ r) zr
          have wyr := sR (π r) yr
          have wxr0 := wxr.1
          have wyr0 := wyr.1
          refine xg_aloadn 25 dX8_copyFrom_24 rfl rfl rfl ?_
          refine xg_getP 28 kf_RX8_11 dX8_copyFrom_25 rfl (by assumption) (by assumption) ?_
          refine xg_iloadn 29 dX8_copyFrom_28 rfl rfl rfl ?_
          skip
          refine xg_rald 30 dX8_copyFrom_29 rfl (by assumption) (by omega) (x1 r (by omega)) ?_
          refine xg_aloadn 31 dX8_copyFrom_30 rfl rfl rfl ?_
          refine xg_getP 34 kf_RX8_11 dX8_copyFrom_31 rfl (by assumption) (by assumption) ?_
          refine xg_iloadn 35 dX8_copyFrom_34 rfl rfl rfl ?_
          refine xg_rald 36 dX8_copyFrom_35 rfl (by assumption) (by omega) (p1 r (by omega)) ?_
          refine xg_callV 39 6 [_] _ kv_X6_copyFrom ⟨_, _, rfl⟩ kl_RX8_73 dX8_copyFrom_36 rfl (by assumption) (by omega) rfl rfl (Nat.le_of_ble_eq_true rfl) (by omega) ⟨Nat.le_refl _, Nat.le_refl _⟩ (ct_X6_copyFrom wxr wyr (by omega)) rfl ?_
          refine xg_iinc 42 _ dX8_copyFrom_39 rfl rfl rfl rfl (by decide) (Or.inr rfl) ?_
          refine xg_goto 2 dX8_copyFrom_42 rfl ?_
          rw [fCpy_3 (show b + 2 + 3 * π r ≠ a + 2 + 3 * ρ r by omega)]
          exact xg_weak _ (xle_s rfl (xle_s rfl (xle_s rfl xle_0))) (ih (r + 1) _ _ (by omega) (fun c hc => by rw [fCpy_na (by omega), iCpy_na _ _ _ _ _ (by omega)]; exact ho2 c hc) (fun j hj hjw => by
            by_cases e : j = r
            · subst e
              have hy := (hRn j hjw).heap (F' := F2) (I' := I2) (ho2 _ (by omega)).1 (ho2 _ (by omega)).2 (ho2 _ (by omega)).2
              exact hy.copy
            · have hz9 := hpa.ne (i := j) (j := r) (by omega) (by omega) e
              exact (hr2 j (by omega) hjw).heap (fCpy_na (by omega)) (iCpy_na _ _ _ _ _ (by omega)) (iCpy_na _ _ _ _ _ (by omega))) (by omega))
        · skip
          refine xg_iloadn 17 dX8_copyFrom_16 rfl rfl rfl ?_
          refine xg_aloadn 18 dX8_copyFrom_17 rfl rfl rfl ?_
          refine xg_getI 21 kf_RX8_70 dX8_copyFrom_18 rfl (by assumption) ?_
          refine xg_icge 39 24 dX8_copyFrom_21 rfl rfl (by omega) (fun hb21 => ?_) (fun hb21 => ?_)
          · skip
            refine xg_iinc 42 _ dX8_copyFrom_39 rfl rfl rfl rfl (by decide) (Or.inr rfl) ?_
            refine xg_goto 2 dX8_copyFrom_42 rfl ?_
            exact xg_weak _ (xle_s rfl (xle_s rfl (xle_s rfl xle_0))) (ih (r + 1) F2 I2 (by omega) ho2 (fun j hj hjw => hr2 j (by omega) hjw) (by omega))
          · skip
            have hr12 : r < 12 := by omega
            have zr := x4 r (by omega)
            have yr := p4 r (by omega)
            have wxr := tR (ρ r) zr
            have wyr := sR (π r) yr
            have wxr0 := wxr.1
            have wyr0 := wyr.1
            refine xg_aloadn 25 dX8_copyFrom_24 rfl rfl rfl ?_
            refine xg_getP 28 kf_RX8_11 dX8_copyFrom_25 rfl (by assumption) (by assumption) ?_
            refine xg_iloadn 29 dX8_copyFrom_28 rfl rfl rfl ?_
            skip
            refine xg_rald 30 dX8_copyFrom_29 rfl (by assumption) (by omega) (x1 r (by omega)) ?_
            refine xg_aloadn 31 dX8_copyFrom_30 rfl rfl rfl ?_
            refine xg_getP 34 kf_RX8_11 dX8_copyFrom_31 rfl (by assumption) (by assumption) ?_
            refine xg_iloadn 35 dX8_copyFrom_34 rfl rfl rfl ?_
            refine xg_rald 36 dX8_copyFrom_35 rfl (by assumption) (by omega) (p1 r (by omega)) ?_
            refine xg_callV 39 6 [_] _ kv_X6_copyFrom ⟨_, _, rfl⟩ kl_RX8_73 dX8_copyFrom_36 rfl (by assumption) (by omega) rfl rfl (Nat.le_of_ble_eq_true rfl) (by omega) ⟨Nat.le_refl _, Nat.le_refl _⟩ (ct_X6_copyFrom wxr wyr (by omega)) rfl ?_
            refine xg_iinc 42 _ dX8_copyFrom_39 rfl rfl rfl rfl (by decide) (Or.inr rfl) ?_
            refine xg_goto 2 dX8_copyFrom_42 rfl ?_
            rw [fCpy_3 (show b + 2 + 3 * π r ≠ a + 2 + 3 * ρ r by omega)]
            exact xg_weak _ (xle_s rfl (xle_s rfl (xle_s rfl xle_0))) (ih (r + 1) _ _ (by omega) (fun c hc => by rw [fCpy_na (by omega), iCpy_na _ _ _ _ _ (by omega)]; exact ho2 c hc) (fun j hj hjw => by
              by_cases e : j = r
              · subst e
                have hy := (hRn j hjw).heap (F' := F2) (I' := I2) (ho2 _ (by omega)).1 (ho2 _ (by omega)).2 (ho2 _ (by omega)).2
                exact hy.copy
              · have hz9 := hpa.ne (i := j) (j := r) (by omega) (by omega) e
                exact (hr2 j (by omega) hjw).heap (fCpy_na (by omega)) (iCpy_na _ _ _ _ _ (by omega)) (iCpy_na _ _ _ _ _ (by omega))) (by omega))
  exact xg_weak _ (xle_s rfl (xle_s rfl (xle_s rfl xle_0))) (loop2 14 0 F I (by omega) (fun _ _ => ⟨rfl, rfl⟩) (fun j hj => absurd hj (Nat.not_lt_zero _)) (by omega))

