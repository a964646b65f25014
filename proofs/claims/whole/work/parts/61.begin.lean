theorem dX8_sliceSize_0 : decode cX8_sliceSize 0 = .ok (.aload_n 0, 1) := by decide +kernel
theorem dX8_sliceSize_1 : decode cX8_sliceSize 1 = .ok (.getfield 64, 3) := by decide +kernel
theorem dX8_sliceSize_4 : decode cX8_sliceSize 4 = .ok (.aload_n 0, 1) := by decide +kernel
theorem dX8_sliceSize_5 : decode cX8_sliceSize 5 = .ok (.invokevirtual 129, 3) := by decide +kernel
theorem dX8_sliceSize_8 : decode cX8_sliceSize 8 = .ok (.bipush 8, 2) := by decide +kernel
theorem dX8_sliceSize_10 : decode cX8_sliceSize 10 = .ok (.idiv, 1) := by decide +kernel
theorem dX8_sliceSize_11 : decode cX8_sliceSize 11 = .ok (.iadd, 1) := by decide +kernel
theorem dX8_sliceSize_12 : decode cX8_sliceSize 12 = .ok (.aload_n 0, 1) := by decide +kernel
theorem dX8_sliceSize_13 : decode cX8_sliceSize 13 = .ok (.bipush 10, 2) := by decide +kernel
theorem dX8_sliceSize_15 : decode cX8_sliceSize 15 = .ok (.aload_n 0, 1) := by decide +kernel
theorem dX8_sliceSize_16 : decode cX8_sliceSize 16 = .ok (.getfield 28, 3) := by decide +kernel
theorem dX8_sliceSize_19 : decode cX8_sliceSize 19 = .ok (.getfield 133, 3) := by decide +kernel
theorem dX8_sliceSize_22 : decode cX8_sliceSize 22 = .ok (.invokevirtual 136, 3) := by decide +kernel
theorem dX8_sliceSize_25 : decode cX8_sliceSize 25 = .ok (.iadd, 1) := by decide +kernel
theorem dX8_sliceSize_26 : decode cX8_sliceSize 26 = .ok (.ireturn, 1) := by decide +kernel
theorem dX8_worthOf_0 : decode cX8_worthOf 0 = .ok (.bipush 10, 2) := by decide +kernel
theorem dX8_worthOf_2 : decode cX8_worthOf 2 = .ok (.iload_n 1, 1) := by decide +kernel
theorem dX8_worthOf_3 : decode cX8_worthOf 3 = .ok (.isub, 1) := by decide +kernel
theorem dX8_worthOf_4 : decode cX8_worthOf 4 = .ok (.aload_n 0, 1) := by decide +kernel
theorem dX8_worthOf_5 : decode cX8_worthOf 5 = .ok (.bipush 12, 2) := by decide +kernel
theorem dX8_worthOf_7 : decode cX8_worthOf 7 = .ok (.iload_n 1, 1) := by decide +kernel
theorem dX8_worthOf_8 : decode cX8_worthOf 8 = .ok (.invokevirtual 136, 3) := by decide +kernel
theorem dX8_worthOf_11 : decode cX8_worthOf 11 = .ok (.iadd, 1) := by decide +kernel
theorem dX8_worthOf_12 : decode cX8_worthOf 12 = .ok (.ireturn, 1) := by decide +kernel
theorem dX8_dearestLevel_0 : decode cX8_dearestLevel 0 = .ok (.iconst 0, 1) := by decide +kernel
theorem dX8_dearestLevel_1 : decode cX8_dearestLevel 1 = .ok (.istore_n 1, 1) := by decide +kernel
theorem dX8_dearestLevel_2 : decode cX8_dearestLevel 2 = .ok (.iconst (-1), 1) := by decide +kernel
theorem dX8_dearestLevel_3 : decode cX8_dearestLevel 3 = .ok (.istore_n 2, 1) := by decide +kernel
theorem dX8_dearestLevel_4 : decode cX8_dearestLevel 4 = .ok (.iconst 0, 1) := by decide +kernel
theorem dX8_dearestLevel_5 : decode cX8_dearestLevel 5 = .ok (.istore_n 3, 1) := by decide +kernel
theorem dX8_dearestLevel_6 : decode cX8_dearestLevel 6 = .ok (.iload_n 3, 1) := by decide +kernel
theorem dX8_dearestLevel_7 : decode cX8_dearestLevel 7 = .ok (.iconst 4, 1) := by decide +kernel
theorem dX8_dearestLevel_8 : decode cX8_dearestLevel 8 = .ok (.if_icmp .ge 48, 3) := by decide +kernel
theorem dX8_dearestLevel_11 : decode cX8_dearestLevel 11 = .ok (.aload_n 0, 1) := by decide +kernel
theorem dX8_dearestLevel_12 : decode cX8_dearestLevel 12 = .ok (.getfield 35, 3) := by decide +kernel
theorem dX8_dearestLevel_15 : decode cX8_dearestLevel 15 = .ok (.getfield 161, 3) := by decide +kernel
theorem dX8_dearestLevel_18 : decode cX8_dearestLevel 18 = .ok (.iload_n 3, 1) := by decide +kernel
theorem dX8_dearestLevel_19 : decode cX8_dearestLevel 19 = .ok (.ishr, 1) := by decide +kernel
theorem dX8_dearestLevel_20 : decode cX8_dearestLevel 20 = .ok (.iconst 1, 1) := by decide +kernel
theorem dX8_dearestLevel_21 : decode cX8_dearestLevel 21 = .ok (.iand, 1) := by decide +kernel
theorem dX8_dearestLevel_22 : decode cX8_dearestLevel 22 = .ok (.ifCond .eq 28, 3) := by decide +kernel
theorem dX8_dearestLevel_25 : decode cX8_dearestLevel 25 = .ok (.bipush 10, 2) := by decide +kernel
theorem dX8_dearestLevel_27 : decode cX8_dearestLevel 27 = .ok (.iload_n 3, 1) := by decide +kernel
theorem dX8_dearestLevel_28 : decode cX8_dearestLevel 28 = .ok (.isub, 1) := by decide +kernel
theorem dX8_dearestLevel_29 : decode cX8_dearestLevel 29 = .ok (.aload_n 0, 1) := by decide +kernel
theorem dX8_dearestLevel_30 : decode cX8_dearestLevel 30 = .ok (.bipush 12, 2) := by decide +kernel
theorem dX8_dearestLevel_32 : decode cX8_dearestLevel 32 = .ok (.iload_n 3, 1) := by decide +kernel
theorem dX8_dearestLevel_33 : decode cX8_dearestLevel 33 = .ok (.invokevirtual 136, 3) := by decide +kernel
theorem dX8_dearestLevel_36 : decode cX8_dearestLevel 36 = .ok (.iadd, 1) := by decide +kernel
theorem dX8_dearestLevel_37 : decode cX8_dearestLevel 37 = .ok (.istore 4, 2) := by decide +kernel
theorem dX8_dearestLevel_39 : decode cX8_dearestLevel 39 = .ok (.iload 4, 2) := by decide +kernel
theorem dX8_dearestLevel_41 : decode cX8_dearestLevel 41 = .ok (.iload_n 2, 1) := by decide +kernel
theorem dX8_dearestLevel_42 : decode cX8_dearestLevel 42 = .ok (.if_icmp .le 8, 3) := by decide +kernel
theorem dX8_dearestLevel_45 : decode cX8_dearestLevel 45 = .ok (.iload 4, 2) := by decide +kernel
theorem dX8_dearestLevel_47 : decode cX8_dearestLevel 47 = .ok (.istore_n 2, 1) := by decide +kernel
theorem dX8_dearestLevel_48 : decode cX8_dearestLevel 48 = .ok (.iload_n 3, 1) := by decide +kernel
theorem dX8_dearestLevel_49 : decode cX8_dearestLevel 49 = .ok (.istore_n 1, 1) := by decide +kernel
theorem dX8_dearestLevel_50 : decode cX8_dearestLevel 50 = .ok (.iinc 3 1, 3) := by decide +kernel
theorem dX8_dearestLevel_53 : decode cX8_dearestLevel 53 = .ok (.goto (-47), 3) := by decide +kernel
theorem dX8_dearestLevel_56 : decode cX8_dearestLevel 56 = .ok (.iload_n 1, 1) := by decide +kernel
theorem dX8_dearestLevel_57 : decode cX8_dearestLevel 57 = .ok (.ireturn, 1) := by decide +kernel
theorem dX8_giveUpJob_0 : decode cX8_giveUpJob 0 = .ok (.aload_n 0, 1) := by decide +kernel
theorem dX8_giveUpJob_1 : decode cX8_giveUpJob 1 = .ok (.getfield 28, 3) := by decide +kernel
theorem dX8_giveUpJob_4 : decode cX8_giveUpJob 4 = .ok (.getfield 143, 3) := by decide +kernel
theorem dX8_giveUpJob_7 : decode cX8_giveUpJob 7 = .ok (.ifCond .ne 4, 3) := by decide +kernel
theorem dX8_giveUpJob_10 : decode cX8_giveUpJob 10 = .ok (.return_, 1) := by decide +kernel
theorem dX8_giveUpJob_11 : decode cX8_giveUpJob 11 = .ok (.aload_n 0, 1) := by decide +kernel
theorem dX8_giveUpJob_12 : decode cX8_giveUpJob 12 = .ok (.getfield 49, 3) := by decide +kernel
theorem dX8_giveUpJob_15 : decode cX8_giveUpJob 15 = .ok (.aload_n 0, 1) := by decide +kernel
theorem dX8_giveUpJob_16 : decode cX8_giveUpJob 16 = .ok (.getfield 93, 3) := by decide +kernel
theorem dX8_giveUpJob_19 : decode cX8_giveUpJob 19 = .ok (.iconst 3, 1) := by decide +kernel
theorem dX8_giveUpJob_20 : decode cX8_giveUpJob 20 = .ok (.aload_n 0, 1) := by decide +kernel
theorem dX8_giveUpJob_21 : decode cX8_giveUpJob 21 = .ok (.getfield 28, 3) := by decide +kernel
theorem dX8_giveUpJob_24 : decode cX8_giveUpJob 24 = .ok (.getfield 133, 3) := by decide +kernel
theorem dX8_giveUpJob_27 : decode cX8_giveUpJob 27 = .ok (.aload_n 0, 1) := by decide +kernel
theorem dX8_giveUpJob_28 : decode cX8_giveUpJob 28 = .ok (.getfield 22, 3) := by decide +kernel
theorem dX8_giveUpJob_31 : decode cX8_giveUpJob 31 = .ok (.getfield 117, 3) := by decide +kernel
theorem dX8_giveUpJob_34 : decode cX8_giveUpJob 34 = .ok (.invokevirtual 176, 3) := by decide +kernel
theorem dX8_giveUpJob_37 : decode cX8_giveUpJob 37 = .ok (.iconst 0, 1) := by decide +kernel
theorem dX8_giveUpJob_38 : decode cX8_giveUpJob 38 = .ok (.istore_n 1, 1) := by decide +kernel
theorem dX8_giveUpJob_39 : decode cX8_giveUpJob 39 = .ok (.iload_n 1, 1) := by decide +kernel
theorem dX8_giveUpJob_40 : decode cX8_giveUpJob 40 = .ok (.aload_n 0, 1) := by decide +kernel
theorem dX8_giveUpJob_41 : decode cX8_giveUpJob 41 = .ok (.getfield 70, 3) := by decide +kernel
theorem dX8_giveUpJob_44 : decode cX8_giveUpJob 44 = .ok (.if_icmp .ge 25, 3) := by decide +kernel
theorem dX8_giveUpJob_47 : decode cX8_giveUpJob 47 = .ok (.iload_n 1, 1) := by decide +kernel
theorem dX8_giveUpJob_48 : decode cX8_giveUpJob 48 = .ok (.bipush 12, 2) := by decide +kernel
theorem dX8_giveUpJob_50 : decode cX8_giveUpJob 50 = .ok (.if_icmp .ge 19, 3) := by decide +kernel
theorem dX8_giveUpJob_53 : decode cX8_giveUpJob 53 = .ok (.aload_n 0, 1) := by decide +kernel
theorem dX8_giveUpJob_54 : decode cX8_giveUpJob 54 = .ok (.getfield 11, 3) := by decide +kernel
theorem dX8_giveUpJob_57 : decode cX8_giveUpJob 57 = .ok (.iload_n 1, 1) := by decide +kernel
theorem dX8_giveUpJob_58 : decode cX8_giveUpJob 58 = .ok (.aaload, 1) := by decide +kernel
theorem dX8_giveUpJob_59 : decode cX8_giveUpJob 59 = .ok (.iconst 0, 1) := by decide +kernel
theorem dX8_giveUpJob_60 : decode cX8_giveUpJob 60 = .ok (.putfield 110, 3) := by decide +kernel
theorem dX8_giveUpJob_63 : decode cX8_giveUpJob 63 = .ok (.iinc 1 1, 3) := by decide +kernel
theorem dX8_giveUpJob_66 : decode cX8_giveUpJob 66 = .ok (.goto (-27), 3) := by decide +kernel
theorem dX8_giveUpJob_69 : decode cX8_giveUpJob 69 = .ok (.aload_n 0, 1) := by decide +kernel
theorem dX8_giveUpJob_70 : decode cX8_giveUpJob 70 = .ok (.getfield 22, 3) := by decide +kernel
theorem dX8_giveUpJob_73 : decode cX8_giveUpJob 73 = .ok (.invokevirtual 220, 3) := by decide +kernel
theorem dX8_giveUpJob_76 : decode cX8_giveUpJob 76 = .ok (.aload_n 0, 1) := by decide +kernel
theorem dX8_giveUpJob_77 : decode cX8_giveUpJob 77 = .ok (.invokevirtual 223, 3) := by decide +kernel
theorem dX8_giveUpJob_80 : decode cX8_giveUpJob 80 = .ok (.aload_n 0, 1) := by decide +kernel
theorem dX8_giveUpJob_81 : decode cX8_giveUpJob 81 = .ok (.getfield 35, 3) := by decide +kernel
theorem dX8_giveUpJob_84 : decode cX8_giveUpJob 84 = .ok (.aload_n 0, 1) := by decide +kernel
theorem dX8_giveUpJob_85 : decode cX8_giveUpJob 85 = .ok (.invokevirtual 180, 3) := by decide +kernel
theorem dX8_giveUpJob_88 : decode cX8_giveUpJob 88 = .ok (.return_, 1) := by decide +kernel
set_option maxHeartbeats 4000000 in
set_option maxRecDepth 100000 in
theorem ct_X8_sliceSize {E : xE} {z : Nat} {T : Nat → Nat × Int} {F : Nat → Nat → Int} {I : Nat → Int → Int} {P : Nat → Nat → Option Nat} {Y : Nat → Int → Option Nat} {a : Nat} {w : Int → Int} (hS : SR T F I P Y a w) (hr : wRn w) : Ct E 2 mX8_sliceSize 0 0 [.ref a] (z, T, F, I, P, Y) (xQ a (some (J (sSlice w))) z T F I P Y w) := by
  obtain ⟨⟨hO, hL, hTy⟩, hLw, ⟨π, hB⟩, hV, hLf⟩ := id hS
  obtain ⟨⟨⟨⟨s0, s1, s2, s3⟩, sR, ⟨s4, s5⟩, ⟨s6, sLv⟩, ⟨s7, s8⟩, ⟨s9, sJo⟩, s10, s11, s12⟩, p1, p2, p3, p4, p5⟩, ⟨⟨c1, c9, c10, c11, c12, c13, c14, c15⟩, hTl, j0, j1, j2⟩, hRn, hTb, hOt, hJo⟩ := id hB
  obtain ⟨hR, o0, o1, o2, o3, o4, o5, o6, oc, o13, o14, o16, o17, o18, ov⟩ := id hO
  have hN := wN_i o0.1
  have hown := sDebt_eq hr o0
  have hdb := sDebt_bd (w := w) o0.2
  have hvd := hV.2.2
  obtain ⟨g, hg⟩ : ∃ g : Nat, (g : Int) = sGoal w := ⟨(sGoal w).toNat, by unfold sGoal; split <;> omega⟩
  have hg4 : g < 4 := by unfold sGoal at hg; split at hg <;> omega
  refine Ct.of [some (.ref a)] kt_X8_sliceSize rfl (Nat.le_of_ble_eq_true rfl) rfl (fun d hd => ?_)
  generalize hX : xN E _ _ _ = X
  refine xg_aloadn 1 dX8_sliceSize_0 rfl rfl rfl ?_
  refine xg_getI 4 kf_RX8_64 dX8_sliceSize_1 rfl (by assumption) ?_
  rw [c12]
  refine xg_aloadn 5 dX8_sliceSize_4 rfl rfl rfl ?_
  refine xg_callV 8 8 [] _ kv_X8_debtNow ⟨_, _, rfl⟩ kl_RX8_129 dX8_sliceSize_5 rfl (by assumption) (by omega) rfl rfl (Nat.le_of_ble_eq_true rfl) (by omega) ⟨Nat.le_refl _, Nat.le_refl _⟩ (ct_X8_debtNow hS) rfl ?_
  refine xg_bipush 10 dX8_sliceSize_8 rfl (by decide) ?_
  refine xg_idiv 11 dX8_sliceSize_10 rfl ⟨by omega, by omega, by omega, by omega⟩ ?_
  refine xg_iadd 12 dX8_sliceSize_11 rfl ?_
  refine xg_aloadn 13 dX8_sliceSize_12 rfl rfl rfl ?_
  refine xg_bipush 15 dX8_sliceSize_13 rfl (by decide) ?_
  refine xg_aloadn 16 dX8_sliceSize_15 rfl rfl rfl ?_
  refine xg_getP 19 kf_RX8_28 dX8_sliceSize_16 rfl (by assumption) (by assumption) ?_
  refine xg_getI 22 kf_RX8_133 dX8_sliceSize_19 rfl (by assumption) ?_
  rw [j1, ← hg]
  refine xg_callVq 25 8 [J 10, J (g : Int)] _ kv_X8_lawSum ⟨_, _, rfl⟩ kl_RX8_136 dX8_sliceSize_22 rfl (by assumption) (by omega) rfl rfl (Nat.le_of_ble_eq_true rfl) (by omega) ⟨Nat.le_refl _, Nat.le_refl _⟩ (ct_X8_lawSum (wh := 0) hS hr (by omega) hg4) rfl (fun F1 I1 P1 Y1 hS1 hF1 => ?_)
  refine xg_iadd 26 dX8_sliceSize_25 rfl ?_
  subst hX
  exact xg_ireturn dX8_sliceSize_26 rfl ⟨Nat.le_refl _, Nat.le_refl _⟩ ⟨congrArg (fun v => some (J v)) (by unfold sSlice; rw [hown, hg]; rfl), F1, I1, P1, Y1, rfl, hS1, hF1⟩

set_option maxHeartbeats 4000000 in
set_option maxRecDepth 100000 in
theorem ct_X8_worthOf {E : xE} {z : Nat} {T : Nat → Nat × Int} {F : Nat → Nat → Int} {I : Nat → Int → Int} {P : Nat → Nat → Option Nat} {Y : Nat → Int → Option Nat} {a : Nat} {w : Int → Int} (hS : SR T F I P Y a w) (hr : wRn w) {l : Nat} (hl : l < 4) : Ct E 2 mX8_worthOf 0 0 [.ref a, J (l : Int)] (z, T, F, I, P, Y) (xQ a (some (J (sWorth w (l : Int)))) z T F I P Y w) := by
  obtain ⟨⟨hO, hL, hTy⟩, hLw, ⟨π, hB⟩, hV, hLf⟩ := id hS
  obtain ⟨⟨⟨⟨s0, s1, s2, s3⟩, sR, ⟨s4, s5⟩, ⟨s6, sLv⟩, ⟨s7, s8⟩, ⟨s9, sJo⟩, s10, s11, s12⟩, p1, p2, p3, p4, p5⟩, ⟨⟨c1, c9, c10, c11, c12, c13, c14, c15⟩, hTl, j0, j1, j2⟩, hRn, hTb, hOt, hJo⟩ := id hB
  obtain ⟨hR, o0, o1, o2, o3, o4, o5, o6, oc, o13, o14, o16, o17, o18, ov⟩ := id hO
  have hN := wN_i o0.1
  refine Ct.of [some (.ref a), some (J (l : Int))] kt_X8_worthOf rfl (Nat.le_of_ble_eq_true rfl) rfl (fun d hd => ?_)
  generalize hX : xN E _ _ _ = X
  refine xg_bipush 2 dX8_worthOf_0 rfl (by decide) ?_
  refine xg_iloadn 3 dX8_worthOf_2 rfl rfl rfl ?_
  refine xg_isub 4 dX8_worthOf_3 rfl ?_
  refine xg_aloadn 5 dX8_worthOf_4 rfl rfl rfl ?_
  refine xg_bipush 7 dX8_worthOf_5 rfl (by decide) ?_
  refine xg_iloadn 8 dX8_worthOf_7 rfl rfl rfl ?_
  refine xg_callVq 11 8 [J 12, J (l : Int)] _ kv_X8_lawSum ⟨_, _, rfl⟩ kl_RX8_136 dX8_worthOf_8 rfl (by assumption) (by omega) rfl rfl (Nat.le_of_ble_eq_true rfl) (by omega) ⟨Nat.le_refl _, Nat.le_refl _⟩ (ct_X8_lawSum (wh := 2) hS hr (by omega) hl) rfl (fun F1 I1 P1 Y1 hS1 hF1 => ?_)
  refine xg_iadd 12 dX8_worthOf_11 rfl ?_
  subst hX
  exact xg_ireturn dX8_worthOf_12 rfl ⟨Nat.le_refl _, Nat.le_refl _⟩ ⟨rfl, F1, I1, P1, Y1, rfl, hS1, hF1⟩

theorem sDM_keep {w : Int → Int} {k : Nat} (h : sDueB w (k : Int) = false ∨ (sDM w k ≠ -1 ∧ ¬ sWorth w (sDM w k) < sWorth w (k : Int))) : sDM w (k + 1) = sDM w k := by
  rw [sDM]
  refine if_neg (fun q => ?_)
  rcases h with h | h
  · rw [h] at q; cases q.1
  · rcases q.2 with g | g
    · exact h.1 g
    · exact h.2 g
theorem sDM_take {w : Int → Int} {k : Nat} (hd : sDueB w (k : Int) = true) (h : sDM w k = -1 ∨ sWorth w (sDM w k) < sWorth w (k : Int)) : sDM w (k + 1) = (k : Int) := by rw [sDM, if_pos ⟨hd, h⟩]
theorem sDueN_lt (w : Int → Int) : sDueN w < 16 := nSet_lt _ 4
theorem sDueN_bit (w : Int → Int) {l : Nat} (h : l < 4) : (sDueN w).testBit l = sDueB w (l : Int) := by unfold sDueN; rw [nSet_bit]; simp [h]
theorem sDM_none {w : Int → Int} : ∀ k : Nat, (∀ l : Nat, l < k → sDueB w (l : Int) = false) ↔ sDM w k = -1
  | 0 => ⟨fun _ => rfl, fun _ l hl => absurd hl (Nat.not_lt_zero _)⟩
  | k + 1 => by
    have ih := sDM_none (w := w) k
    have hb := sDM_bd w k
    constructor
    · intro h
      rw [sDM, if_neg (fun q => by rw [h k (by omega)] at q; cases q.1)]
      exact ih.mp (fun l hl => h l (by omega))
    · intro h
      rw [sDM] at h
      by_cases hd : sDueB w (k : Int) = true
      · by_cases h2 : sDM w k = -1
        · rw [if_pos ⟨hd, Or.inl h2⟩] at h; omega
        · split at h
          · omega
          · exact absurd h h2
      · rw [if_neg (fun q => hd q.1)] at h
        intro l hl
        by_cases q : l = k
        · subst q; exact Bool.eq_false_iff.mpr hd
        · exact ih.mpr h l (by omega)
theorem sDueN_0 (w : Int → Int) : ((sDueN w : Nat) : Int) = 0 ↔ sDM w 4 = -1 := by
  rw [← sDM_none 4]
  constructor
  · intro h l hl
    rw [← sDueN_bit w hl, show sDueN w = 0 by omega, Nat.zero_testBit]
  · intro h
    have : sDueN w = 0 := Nat.eq_of_testBit_eq (fun i => by
      rw [Nat.zero_testBit]
      by_cases hi : i < 4
      · rw [sDueN_bit w hi]; exact h i hi
      · unfold sDueN; rw [nSet_bit]; simp [hi])
    omega
theorem xhas0 {a r : Nat} (ha : a < 2147483648) (hr : r < 32) : xand (xshr (a : Int) (r : Int)) 1 = if a.testBit r = true then 1 else 0 := by
  by_cases h : a.testBit r = true
  · rw [if_pos h]; exact (xhas ha hr).mpr h
  · rw [if_neg h]
    have h1 : xand (xshr (a : Int) (r : Int)) 1 ≠ 1 := fun q => h ((xhas ha hr).mp q)
    rw [xshr_nat ha hr, show (1 : Int) = ((1 : Nat) : Int) from rfl, xand_nat (Nat.lt_of_le_of_lt (Nat.shiftRight_le _ _) ha) (by omega)] at h1 ⊢
    rw [Nat.and_one_is_mod] at h1 ⊢
    omega
set_option maxHeartbeats 4000000 in
set_option maxRecDepth 100000 in
theorem ct_X8_dearestLevel {E : xE} {z : Nat} {T : Nat → Nat × Int} {F : Nat → Nat → Int} {I : Nat → Int → Int} {P : Nat → Nat → Option Nat} {Y : Nat → Int → Option Nat} {a : Nat} {w : Int → Int} (hS : SR T F I P Y a w) (hr : wRn w) (hdm : sDM w 4 ≠ -1) : Ct E 2 mX8_dearestLevel 0 0 [.ref a] (z, T, F, I, P, Y) (xQ a (some (J (sDM w 4))) z T F I P Y w) := by
  have hO9 := hS.1.1
  have hdl := sDueN_lt w
  refine Ct.of [some (.ref a), none, none, none, none] kt_X8_dearestLevel rfl (Nat.le_of_ble_eq_true rfl) rfl (fun d hd => ?_)
  generalize hX : xN E _ _ _ = X
  refine xg_iconst 1 dX8_dearestLevel_0 rfl ?_
  refine xg_istoren 2 _ dX8_dearestLevel_1 rfl rfl rfl (by decide) (Or.inr rfl) ?_
  refine xg_iconst 3 dX8_dearestLevel_2 rfl ?_
  refine xg_istoren 4 _ dX8_dearestLevel_3 rfl rfl rfl (by decide) (Or.inr rfl) ?_
  refine xg_iconst 5 dX8_dearestLevel_4 rfl ?_
  refine xg_istoren 6 _ dX8_dearestLevel_5 rfl rfl rfl (by decide) (Or.inr rfl) ?_
  have loop6 : ∀ (mm : Nat) (k : Nat) (b g : Int) (F2 : Nat → Nat → Int) (I2 : Nat → Int → Int) (P2 : Nat → Nat → Option Nat) (Y2 : Nat → Int → Option Nat), (k ≤ 4) → ((sDM w k = -1 ∧ b = 0 ∧ g = -1) ∨ (sDM w k = b ∧ 0 ≤ b ∧ b < 4 ∧ g = sWorth w b ∧ 0 ≤ g ∧ g ≤ 1000)) → SR T F2 I2 P2 Y2 a w → SF a F I P Y F2 I2 P2 Y2 → 4 - (k : Int) < (mm : Int) → xG E mX8_dearestLevel (xR d 0 0) X 6 [some (.ref a), some (J b), some (J g), some (J (k : Int)), none] [] (z, T, F2, I2, P2, Y2) 0 0 := by
    intro mm
    induction mm with
    | zero => intro k b g F2 I2 P2 Y2 hk hbg hS2 hF2 hm; exfalso; omega
    | succ mm ih =>
      intro k b g F2 I2 P2 Y2 hk hbg hS2 hF2 hm
      obtain ⟨⟨hO, hL, hTy⟩, hLw, ⟨ρ, hB⟩, hV, hLf⟩ := id hS2
      obtain ⟨⟨⟨⟨s0, s1, s2, s3⟩, sR, ⟨s4, s5⟩, ⟨s6, sLv⟩, ⟨s7, s8⟩, ⟨s9, sJo⟩, s10, s11, s12⟩, p1, p2, p3, p4, p5⟩, ⟨⟨c1, c9, c10, c11, c12, c13, c14, c15⟩, hTl, j0, j1, j2⟩, hRn, hTb, hOt, hJo⟩ := id hB
      obtain ⟨hR, o0, o1, o2, o3, o4, o5, o6, oc, o13, o14, o16, o17, o18, ov⟩ := id hO
      have hN := wN_i o0.1
      obtain ⟨l0, ⟨l1, l2, l3, l4⟩, -⟩ := sLv
      have hsm := sSumOf_bd hL 2 (k : Int)
      have hwk : sWorth w (k : Int) = 10 - (k : Int) + sSumOf w 2 (k : Int) := rfl
      refine xg_iloadn 7 dX8_dearestLevel_6 rfl rfl rfl ?_
      refine xg_iconst 8 dX8_dearestLevel_7 rfl ?_
      refine xg_icge 56 11 dX8_dearestLevel_8 rfl rfl (by omega) (fun hb8 => ?_) (fun hb8 => ?_)
      · skip
        refine xg_iloadn 57 dX8_dearestLevel_56 rfl rfl rfl ?_
        subst hX
        refine xg_ireturn dX8_dearestLevel_57 rfl ⟨Nat.le_refl _, Nat.le_refl _⟩ ?_
        rw [show k = 4 by omega] at hbg
        rcases hbg with h | h
        · exact absurd h.1 hdm
        · exact ⟨by rw [h.1], F2, I2, P2, Y2, rfl, hS2, hF2⟩
      · skip
        refine xg_aloadn 12 dX8_dearestLevel_11 rfl rfl rfl ?_
        refine xg_getP 15 kf_RX8_35 dX8_dearestLevel_12 rfl (by assumption) (by assumption) ?_
        refine xg_getI 18 kf_RX8_161 dX8_dearestLevel_15 rfl (by assumption) ?_
        rw [hV.2.1]
        refine xg_iloadn 19 dX8_dearestLevel_18 rfl rfl rfl ?_
        refine xg_ishr 20 dX8_dearestLevel_19 rfl ?_
        refine xg_iconst 21 dX8_dearestLevel_20 rfl ?_
        refine xg_iand 22 dX8_dearestLevel_21 rfl ?_
        rw [xhas0 (by omega) (by omega), sDueN_bit w (by omega)]
        refine xg_ifeq 50 25 dX8_dearestLevel_22 rfl rfl (by split <;> omega) (fun hb22 => ?_) (fun hb22 => ?_)
        · have hdk : sDueB w (k : Int) = false := Bool.eq_false_iff.mpr (fun q => by rw [if_pos q] at hb22; omega)
          refine xg_iinc 53 _ dX8_dearestLevel_50 rfl rfl rfl rfl (by decide) (Or.inr rfl) ?_
          refine xg_goto 6 dX8_dearestLevel_53 rfl ?_
          exact xg_weak _ (xle_s rfl (xle_s rfl (xle_s rfl (xle_s rfl (xle_n xle_0))))) (ih (k + 1) b g _ _ _ _ (by omega) (by rw [sDM_keep (Or.inl hdk)]; exact hbg) hS2 hF2 (by omega))
        · have hdk : sDueB w (k : Int) = true := Decidable.byContradiction (fun q => hb22 (if_neg q))
          refine xg_bipush 27 dX8_dearestLevel_25 rfl (by decide) ?_
          refine xg_iloadn 28 dX8_dearestLevel_27 rfl rfl rfl ?_
          refine xg_isub 29 dX8_dearestLevel_28 rfl ?_
          refine xg_aloadn 30 dX8_dearestLevel_29 rfl rfl rfl ?_
          refine xg_bipush 32 dX8_dearestLevel_30 rfl (by decide) ?_
          refine xg_iloadn 33 dX8_dearestLevel_32 rfl rfl rfl ?_
          refine xg_callVq 36 8 [J 12, J (k : Int)] _ kv_X8_lawSum ⟨_, _, rfl⟩ kl_RX8_136 dX8_dearestLevel_33 rfl (by assumption) (by omega) rfl rfl (Nat.le_of_ble_eq_true rfl) (by omega) ⟨Nat.le_refl _, Nat.le_refl _⟩ (ct_X8_lawSum (wh := 2) hS2 hr (by omega) (by omega)) rfl (fun F1 I1 P1 Y1 hS1 hF1 => ?_)
          refine xg_iadd 37 dX8_dearestLevel_36 rfl ?_
          refine xg_istore 39 _ dX8_dearestLevel_37 rfl rfl (by decide) (Or.inr rfl) ?_
          refine xg_iload 41 dX8_dearestLevel_39 rfl rfl ?_
          have hw9 : ((2 : Nat) : Int) = 2 := rfl
          rw [hw9]
          refine xg_iloadn 42 dX8_dearestLevel_41 rfl rfl rfl ?_
          refine xg_icle 50 45 dX8_dearestLevel_42 rfl rfl (by omega) (fun hb42 => ?_) (fun hb42 => ?_)
          · skip
            refine xg_iinc 53 _ dX8_dearestLevel_50 rfl rfl rfl rfl (by decide) (Or.inr rfl) ?_
            refine xg_goto 6 dX8_dearestLevel_53 rfl ?_
            have hkeep : sDM w (k + 1) = sDM w k := by
              rcases hbg with h | h
              · omega
              · exact sDM_keep (Or.inr (by rw [h.1]; omega))
            exact xg_weak _ (xle_s rfl (xle_s rfl (xle_s rfl (xle_s rfl (xle_n xle_0))))) (ih (k + 1) b g _ _ _ _ (by omega) (by rw [hkeep]; exact hbg) hS1 (hF2.tr hF1) (by omega))
          · skip
            refine xg_iload 47 dX8_dearestLevel_45 rfl rfl ?_
            refine xg_istoren 48 _ dX8_dearestLevel_47 rfl rfl rfl (by decide) (Or.inr rfl) ?_
            refine xg_iloadn 49 dX8_dearestLevel_48 rfl rfl rfl ?_
            refine xg_istoren 50 _ dX8_dearestLevel_49 rfl rfl rfl (by decide) (Or.inr rfl) ?_
            refine xg_iinc 53 _ dX8_dearestLevel_50 rfl rfl rfl rfl (by decide) (Or.inr rfl) ?_
            refine xg_goto 6 dX8_dearestLevel_53 rfl ?_
            have htake : sDM w (k + 1) = (k : Int) := by
              rcases hbg with h | h
              · exact sDM_take hdk (Or.inl h.1)
              · exact sDM_take hdk (Or.inr (by rw [h.1]; omega))
            exact xg_weak _ (xle_s rfl (xle_s rfl (xle_s rfl (xle_s rfl (xle_n xle_0))))) (ih (k + 1) (k : Int) _ _ _ _ _ (by omega) (Or.inr ⟨htake, by omega, by omega, hwk.symm, by omega, by omega⟩) hS1 (hF2.tr hF1) (by omega))
  exact xg_weak _ (xle_s rfl (xle_s rfl (xle_s rfl (xle_s rfl (xle_n xle_0))))) (loop6 5 0 0 (-1) F I P Y (by omega) (Or.inl ⟨rfl, rfl, rfl⟩) hS SF.rf (by omega))

set_option maxHeartbeats 4000000 in
set_option maxRecDepth 100000 in
theorem ct_X8_giveUpJob {E : xE} {z : Nat} {T : Nat → Nat × Int} {F : Nat → Nat → Int} {I : Nat → Int → Int} {P : Nat → Nat → Option Nat} {Y : Nat → Int → Option Nat} {a : Nat} {w : Int → Int} (hS : SR T F I P Y a w) (hr : wRn w) : Ct E 1 mX8_giveUpJob 0 0 [.ref a] (z, T, F, I, P, Y) (xQ a none z T F I P Y (sHalt w)) := by
  obtain ⟨⟨hO, hL, hTy⟩, hLw, ⟨π, hB⟩, hV, hLf⟩ := id hS
  obtain ⟨⟨⟨⟨s0, s1, s2, s3⟩, sR, ⟨s4, s5⟩, ⟨s6, sLv⟩, ⟨s7, s8⟩, ⟨s9, sJo⟩, s10, s11, s12⟩, p1, p2, p3, p4, p5⟩, ⟨⟨c1, c9, c10, c11, c12, c13, c14, c15⟩, hTl, j0, j1, j2⟩, hRn, hTb, hOt, hJo⟩ := id hB
  obtain ⟨hR, o0, o1, o2, o3, o4, o5, o6, oc, o13, o14, o16, o17, o18, ov⟩ := id hO
  have hN := wN_i o0.1
  have ho := sR (π 13) (p4 13 (by omega))
  have ho0 := ho.1
  have hob := hOt.n
  have hj9 := sJo.1
  have hlv9 := sLv.1
  refine Ct.of [some (.ref a), none] kt_X8_giveUpJob rfl (Nat.le_of_ble_eq_true rfl) rfl (fun d hd => ?_)
  generalize hX : xN E _ _ _ = X
  refine xg_aloadn 1 dX8_giveUpJob_0 rfl rfl rfl ?_
  refine xg_getP 4 kf_RX8_28 dX8_giveUpJob_1 rfl (by assumption) (by assumption) ?_
  refine xg_getI 7 kf_RX8_143 dX8_giveUpJob_4 rfl (by assumption) ?_
  refine xg_ifne 11 10 dX8_giveUpJob_7 rfl rfl (by omega) (fun hb7 => ?_) (fun hb7 => ?_)
  · skip
    refine xg_aloadn 12 dX8_giveUpJob_11 rfl rfl rfl ?_
    refine xg_getP 15 kf_RX8_49 dX8_giveUpJob_12 rfl (by assumption) (by assumption) ?_
    refine xg_aloadn 16 dX8_giveUpJob_15 rfl rfl rfl ?_
    refine xg_getI 19 kf_RX8_93 dX8_giveUpJob_16 rfl (by assumption) ?_
    refine xg_iconst 20 dX8_giveUpJob_19 rfl ?_
    refine xg_aloadn 21 dX8_giveUpJob_20 rfl rfl rfl ?_
    refine xg_getP 24 kf_RX8_28 dX8_giveUpJob_21 rfl (by assumption) (by assumption) ?_
    refine xg_getI 27 kf_RX8_133 dX8_giveUpJob_24 rfl (by assumption) ?_
    refine xg_aloadn 28 dX8_giveUpJob_27 rfl rfl rfl ?_
    refine xg_getP 31 kf_RX8_22 dX8_giveUpJob_28 rfl (by assumption) (by assumption) ?_
    refine xg_getI 34 kf_RX8_117 dX8_giveUpJob_31 rfl (by assumption) ?_
    rw [c13, j1, hob, show sGoal w = w 17 by unfold sGoal; rw [if_pos (by omega)]]
    refine xg_callV 37 2 [_, _, _, _] _ kv_X2_note ⟨_, _, rfl⟩ kl_RX8_176 dX8_giveUpJob_34 rfl (by assumption) (by omega) rfl rfl (Nat.le_of_ble_eq_true rfl) (by omega) ⟨Nat.le_refl _, Nat.le_refl _⟩ (ct_X2_note sJo hJo.2.1 (by rw [hJo.1]; exact o14)) rfl ?_
    have hB1 := hB.told (x := 3) (y := w 17) (v := sEnt w 79) hO
    refine xg_iconst 38 dX8_giveUpJob_37 rfl ?_
    refine xg_istoren 39 _ dX8_giveUpJob_38 rfl rfl rfl (by decide) (Or.inr rfl) ?_
    have loop39 : ∀ (mm : Nat) (r : Nat) (F1 : Nat → Nat → Int), ((r : Int) ≤ w 0) → RB T F1 (iNote F I (a + 51) (w 13) 3 (w 17) (sEnt w 79)) P Y a π (wI0 (sTold w 3 (w 17) (sEnt w 79)) (r : Int)) → (∀ b : Nat, b < a + 2 ∨ a + 44 ≤ b → F1 b = (fNote F (a + 51)) b) → w 0 - (r : Int) < (mm : Int) → xG E mX8_giveUpJob (xR d 0 0) X 39 [some (.ref a), some (J (r : Int))] [] (z, T, F1, (iNote F I (a + 51) (w 13) 3 (w 17) (sEnt w 79)), P, Y) 0 0 := by
      intro mm
      induction mm with
      | zero => intro r F1 hr1 hB9 hF9 hm; exfalso; omega
      | succ mm ih =>
        intro r F1 hr1 hB9 hF9 hm
        have hq1 : F1 a 1 = w 0 := by rw [hF9 a (by omega), fNote_na (by omega)]; exact c1
        refine xg_iloadn 40 dX8_giveUpJob_39 rfl rfl rfl ?_
        refine xg_aloadn 41 dX8_giveUpJob_40 rfl rfl rfl ?_
        refine xg_getI 44 kf_RX8_70 dX8_giveUpJob_41 rfl (by assumption) ?_
        refine xg_icge 69 47 dX8_giveUpJob_44 rfl rfl (by omega) (fun hb44 => ?_) (fun hb44 => ?_)
        · skip
          refine xg_aloadn 70 dX8_giveUpJob_69 rfl rfl rfl ?_
          refine xg_getP 73 kf_RX8_22 dX8_giveUpJob_70 rfl (by assumption) (by assumption) ?_
          refine xg_callV 76 6 [] _ kv_X6_wipe ⟨_, _, rfl⟩ kl_RX8_220 dX8_giveUpJob_73 rfl (by assumption) (by omega) rfl rfl (Nat.le_of_ble_eq_true rfl) (by omega) ⟨Nat.le_refl _, Nat.le_refl _⟩ (ct_X6_wipe ho) rfl ?_
          refine xg_aloadn 77 dX8_giveUpJob_76 rfl rfl rfl ?_
          refine xg_callV 80 8 [] _ kv_X8_clearJob ⟨_, _, rfl⟩ kl_RX8_223 dX8_giveUpJob_77 rfl (by assumption) (by omega) rfl rfl (Nat.le_of_ble_eq_true rfl) (by omega) ⟨Nat.le_refl _, Nat.le_refl _⟩ (ct_X8_clearJob s0 s4 s5) rfl ?_
          refine xg_aloadn 81 dX8_giveUpJob_80 rfl rfl rfl ?_
          have e9 : wS (wE (wI0 (sTold w 3 (w 17) (sEnt w 79)) (r : Int)) 79 60) 16 0 = sHalt w := by
            unfold sHalt sNoMore; rw [if_pos (by omega), sTold_lo _ _ _ _ (show (0 : Int) < 1663 by omega) (by omega), show (r : Int) = w 0 by omega]
          have lo : ∀ j : Int, j < 1663 → j ≠ 14 → (sTold w 3 (w 17) (sEnt w 79)) j = w j := fun j h1 h2 => sTold_lo _ _ _ _ h1 h2
          have w00 : wI0 (sTold w 3 (w 17) (sEnt w 79)) (r : Int) 0 = w 0 := (if_neg (by omega)).trans (lo 0 (by omega) (by omega))
          have w14 : wI0 (sTold w 3 (w 17) (sEnt w 79)) (r : Int) 14 ≤ 60 := by rw [show wI0 (sTold w 3 (w 17) (sEnt w 79)) (r : Int) 14 = (sTold w 3 (w 17) (sEnt w 79)) 14 from if_neg (by omega), sTold_14b]; omega
          have hB4 := ((hB9.wipeO p3 (by omega) w14).clr (by rw [show wE (wI0 (sTold w 3 (w 17) (sEnt w 79)) (r : Int)) 79 60 0 = wI0 (sTold w 3 (w 17) (sEnt w 79)) (r : Int) 0 from if_neg (by omega)]; omega) (by rw [show wE (wI0 (sTold w 3 (w 17) (sEnt w 79)) (r : Int)) 79 60 14 = wI0 (sTold w 3 (w 17) (sEnt w 79)) (r : Int) 14 from if_neg (by omega)]; exact w14))
          rw [e9] at hB4
          have hO4 := wOk_halt hO
          have hF5 : SF a F I P Y (fClr (fWipe F1 (a + 2 + 3 * π 13)) (a + 44)) (iWipe (iNote F I (a + 51) (w 13) 3 (w 17) (sEnt w 79)) (a + 2 + 3 * π 13) 60) P Y := by
            have q13 := p4 13 (by omega)
            refine SF.of (fun b hb => ?_) (fun b hb _ => ?_)
            · rw [fClr_na (by omega), fWipe_na (by omega), hF9 b (by omega), fNote_na (by omega)]
            · rw [iWipe_na (by omega), iNote_na (by omega)]
          refine xg_getP 84 kf_RX8_35 dX8_giveUpJob_81 rfl (by assumption) (by assumption) ?_
          refine xg_aloadn 85 dX8_giveUpJob_84 rfl rfl rfl ?_
          refine xg_callV 88 5 [_] _ kv_X5_recount ⟨_, _, rfl⟩ kl_RX8_180 dX8_giveUpJob_85 rfl (by assumption) (by omega) rfl rfl (Nat.le_of_ble_eq_true rfl) (by omega) ⟨Nat.le_refl _, Nat.le_refl _⟩ (ct_X5_recount hB4 hO4 (wRn_halt hr o0.2).lv sLv) rfl ?_
          subst hX
          exact xg_return dX8_giveUpJob_88 rfl ⟨Nat.le_refl _, Nat.le_refl _⟩ ⟨rfl, _, _, P, Y, rfl, SR.rec (hS.1.mv hO4 (wHi_halt2 o0.2)) (hLw.sf hF5 (wHi_halt2 o0.2)) hB4 (by show fClr (fWipe F1 (a + 2 + 3 * π 13)) (a + 44) (a + 44) 3 = _; rw [fClr_at (by omega), sLeft_0 (fun q hq => by have := ((wRn_halt hr o0.2).2 (sHalt_16 o16)).1 q hq; omega) (by rw [sHalt_0]; omega)]), hF5.tr SF.rec⟩
        · skip
          refine xg_iloadn 48 dX8_giveUpJob_47 rfl rfl rfl ?_
          refine xg_bipush 50 dX8_giveUpJob_48 rfl (by decide) ?_
          refine xg_icge 69 53 dX8_giveUpJob_50 rfl rfl (by omega) (fun hb50 => ?_) (fun hb50 => ?_)
          · skip
            refine xg_aloadn 70 dX8_giveUpJob_69 rfl rfl rfl ?_
            refine xg_getP 73 kf_RX8_22 dX8_giveUpJob_70 rfl (by assumption) (by assumption) ?_
            refine xg_callV 76 6 [] _ kv_X6_wipe ⟨_, _, rfl⟩ kl_RX8_220 dX8_giveUpJob_73 rfl (by assumption) (by omega) rfl rfl (Nat.le_of_ble_eq_true rfl) (by omega) ⟨Nat.le_refl _, Nat.le_refl _⟩ (ct_X6_wipe ho) rfl ?_
            refine xg_aloadn 77 dX8_giveUpJob_76 rfl rfl rfl ?_
            refine xg_callV 80 8 [] _ kv_X8_clearJob ⟨_, _, rfl⟩ kl_RX8_223 dX8_giveUpJob_77 rfl (by assumption) (by omega) rfl rfl (Nat.le_of_ble_eq_true rfl) (by omega) ⟨Nat.le_refl _, Nat.le_refl _⟩ (ct_X8_clearJob s0 s4 s5) rfl ?_
            refine xg_aloadn 81 dX8_giveUpJob_80 rfl rfl rfl ?_
            have e9 : wS (wE (wI0 (sTold w 3 (w 17) (sEnt w 79)) (r : Int)) 79 60) 16 0 = sHalt w := by
              unfold sHalt sNoMore; rw [if_pos (by omega), sTold_lo _ _ _ _ (show (0 : Int) < 1663 by omega) (by omega), show (r : Int) = w 0 by omega]
            have lo : ∀ j : Int, j < 1663 → j ≠ 14 → (sTold w 3 (w 17) (sEnt w 79)) j = w j := fun j h1 h2 => sTold_lo _ _ _ _ h1 h2
            have w00 : wI0 (sTold w 3 (w 17) (sEnt w 79)) (r : Int) 0 = w 0 := (if_neg (by omega)).trans (lo 0 (by omega) (by omega))
            have w14 : wI0 (sTold w 3 (w 17) (sEnt w 79)) (r : Int) 14 ≤ 60 := by rw [show wI0 (sTold w 3 (w 17) (sEnt w 79)) (r : Int) 14 = (sTold w 3 (w 17) (sEnt w 79)) 14 from if_neg (by omega), sTold_14b]; omega
            have hB4 := ((hB9.wipeO p3 (by omega) w14).clr (by rw [show wE (wI0 (sTold w 3 (w 17) (sEnt w 79)) (r : Int)) 79 60 0 = wI0 (sTold w 3 (w 17) (sEnt w 79)) (r : Int) 0 from if_neg (by omega)]; omega) (by rw [show wE (wI0 (sTold w 3 (w 17) (sEnt w 79)) (r : Int)) 79 60 14 = wI0 (sTold w 3 (w 17) (sEnt w 79)) (r : Int) 14 from if_neg (by omega)]; exact w14))
            rw [e9] at hB4
            have hO4 := wOk_halt hO
            have hF5 : SF a F I P Y (fClr (fWipe F1 (a + 2 + 3 * π 13)) (a + 44)) (iWipe (iNote F I (a + 51) (w 13) 3 (w 17) (sEnt w 79)) (a + 2 + 3 * π 13) 60) P Y := by
              have q13 := p4 13 (by omega)
              refine SF.of (fun b hb => ?_) (fun b hb _ => ?_)
              · rw [fClr_na (by omega), fWipe_na (by omega), hF9 b (by omega), fNote_na (by omega)]
              · rw [iWipe_na (by omega), iNote_na (by omega)]
            refine xg_getP 84 kf_RX8_35 dX8_giveUpJob_81 rfl (by assumption) (by assumption) ?_
            refine xg_aloadn 85 dX8_giveUpJob_84 rfl rfl rfl ?_
            refine xg_callV 88 5 [_] _ kv_X5_recount ⟨_, _, rfl⟩ kl_RX8_180 dX8_giveUpJob_85 rfl (by assumption) (by omega) rfl rfl (Nat.le_of_ble_eq_true rfl) (by omega) ⟨Nat.le_refl _, Nat.le_refl _⟩ (ct_X5_recount hB4 hO4 (wRn_halt hr o0.2).lv sLv) rfl ?_
            subst hX
            exact xg_return dX8_giveUpJob_88 rfl ⟨Nat.le_refl _, Nat.le_refl _⟩ ⟨rfl, _, _, P, Y, rfl, SR.rec (hS.1.mv hO4 (wHi_halt2 o0.2)) (hLw.sf hF5 (wHi_halt2 o0.2)) hB4 (by show fClr (fWipe F1 (a + 2 + 3 * π 13)) (a + 44) (a + 44) 3 = _; rw [fClr_at (by omega), sLeft_0 (fun q hq => by have := ((wRn_halt hr o0.2).2 (sHalt_16 o16)).1 q hq; omega) (by rw [sHalt_0]; omega)]), hF5.tr SF.rec⟩
          · skip
            have hr12 : r < 12 := by omega
            have hq := p4 r (by omega)
            have hb := sR (π r) hq
            have hb0 := hb.1
            have hrn := 0
            refine xg_aloadn 54 dX8_giveUpJob_53 rfl rfl rfl ?_
            refine xg_getP 57 kf_RX8_11 dX8_giveUpJob_54 rfl (by assumption) (by assumption) ?_
            refine xg_iloadn 58 dX8_giveUpJob_57 rfl rfl rfl ?_
            refine xg_rald 59 dX8_giveUpJob_58 rfl (by assumption) (by omega) (p1 r (by omega)) ?_
            refine xg_iconst 60 dX8_giveUpJob_59 rfl ?_
            refine xg_putZ 63 kf_RX8_110 dX8_giveUpJob_60 rfl (by assumption) (Or.inl rfl) ?_
            refine xg_iinc 66 _ dX8_giveUpJob_63 rfl rfl rfl rfl (by decide) (Or.inr rfl) ?_
            refine xg_goto 39 dX8_giveUpJob_66 rfl ?_
            have w00 : wI0 (sTold w 3 (w 17) (sEnt w 79)) (r : Int) 0 = w 0 := (if_neg (by omega)).trans (sTold_lo _ _ _ _ (by omega) (by omega))
            have w14 : wI0 (sTold w 3 (w 17) (sEnt w 79)) (r : Int) 14 ≤ 60 := by rw [show wI0 (sTold w 3 (w 17) (sEnt w 79)) (r : Int) 14 = (sTold w 3 (w 17) (sEnt w 79)) 14 from if_neg (by omega), sTold_14b]; omega
            have h9 := hB9.inp (r := r) (v := 0) (by omega) (by omega) w14
            rw [show 200 + 122 * (r : Int) = 199 + 122 * (r : Int) + 1 by omega, wI0_s _ _ (by omega)] at h9
            exact xg_weak _ (xle_s rfl (xle_s rfl xle_0)) (ih (r + 1) _ (by omega) h9 (fun b hb => by rw [upF_na _ _ _ _ (by omega)]; exact hF9 b hb) (by omega))
    exact xg_weak _ (xle_s rfl (xle_s rfl xle_0)) (loop39 14 0 _ (by omega) (by rw [show ((0 : Nat) : Int) = 0 from rfl, wI0_0]; exact hB1) (fun _ _ => rfl) (by omega))
  · skip
    subst hX
    exact xg_return dX8_giveUpJob_10 rfl ⟨Nat.le_refl _, Nat.le_refl _⟩ ⟨rfl, F, I, P, Y, rfl, by unfold sHalt; rw [if_neg (by omega)]; exact hS, SF.rf⟩

