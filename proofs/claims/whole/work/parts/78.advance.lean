theorem dX8_draw_0 : decode cX8_draw 0 = .ok (.aload_n 0, 1) := by decide +kernel
theorem dX8_draw_1 : decode cX8_draw 1 = .ok (.ldc_w 258, 3) := by decide +kernel
theorem dX8_draw_4 : decode cX8_draw 4 = .ok (.aload_n 0, 1) := by decide +kernel
theorem dX8_draw_5 : decode cX8_draw 5 = .ok (.getfield 67, 3) := by decide +kernel
theorem dX8_draw_8 : decode cX8_draw 8 = .ok (.imul, 1) := by decide +kernel
theorem dX8_draw_9 : decode cX8_draw 9 = .ok (.sipush 12345, 3) := by decide +kernel
theorem dX8_draw_12 : decode cX8_draw 12 = .ok (.iadd, 1) := by decide +kernel
theorem dX8_draw_13 : decode cX8_draw 13 = .ok (.putfield 67, 3) := by decide +kernel
theorem dX8_draw_16 : decode cX8_draw 16 = .ok (.aload_n 0, 1) := by decide +kernel
theorem dX8_draw_17 : decode cX8_draw 17 = .ok (.getfield 67, 3) := by decide +kernel
theorem dX8_draw_20 : decode cX8_draw 20 = .ok (.bipush 16, 2) := by decide +kernel
theorem dX8_draw_22 : decode cX8_draw 22 = .ok (.iushr, 1) := by decide +kernel
theorem dX8_draw_23 : decode cX8_draw 23 = .ok (.sipush 32767, 3) := by decide +kernel
theorem dX8_draw_26 : decode cX8_draw 26 = .ok (.iand, 1) := by decide +kernel
theorem dX8_draw_27 : decode cX8_draw 27 = .ok (.ireturn, 1) := by decide +kernel
theorem dX8_advance_0 : decode cX8_advance 0 = .ok (.iconst 0, 1) := by decide +kernel
theorem dX8_advance_1 : decode cX8_advance 1 = .ok (.istore_n 2, 1) := by decide +kernel
theorem dX8_advance_2 : decode cX8_advance 2 = .ok (.iconst 0, 1) := by decide +kernel
theorem dX8_advance_3 : decode cX8_advance 3 = .ok (.istore_n 3, 1) := by decide +kernel
theorem dX8_advance_4 : decode cX8_advance 4 = .ok (.iload_n 3, 1) := by decide +kernel
theorem dX8_advance_5 : decode cX8_advance 5 = .ok (.iload_n 1, 1) := by decide +kernel
theorem dX8_advance_6 : decode cX8_advance 6 = .ok (.if_icmp .ge 68, 3) := by decide +kernel
theorem dX8_advance_9 : decode cX8_advance 9 = .ok (.aload_n 0, 1) := by decide +kernel
theorem dX8_advance_10 : decode cX8_advance 10 = .ok (.invokevirtual 252, 3) := by decide +kernel
theorem dX8_advance_13 : decode cX8_advance 13 = .ok (.bipush 60, 2) := by decide +kernel
theorem dX8_advance_15 : decode cX8_advance 15 = .ok (.irem, 1) := by decide +kernel
theorem dX8_advance_16 : decode cX8_advance 16 = .ok (.istore 4, 2) := by decide +kernel
theorem dX8_advance_18 : decode cX8_advance 18 = .ok (.aload_n 0, 1) := by decide +kernel
theorem dX8_advance_19 : decode cX8_advance 19 = .ok (.invokevirtual 252, 3) := by decide +kernel
theorem dX8_advance_22 : decode cX8_advance 22 = .ok (.iconst 4, 1) := by decide +kernel
theorem dX8_advance_23 : decode cX8_advance 23 = .ok (.irem, 1) := by decide +kernel
theorem dX8_advance_24 : decode cX8_advance 24 = .ok (.ifCond .ne 8, 3) := by decide +kernel
theorem dX8_advance_27 : decode cX8_advance 27 = .ok (.bipush 100, 2) := by decide +kernel
theorem dX8_advance_29 : decode cX8_advance 29 = .ok (.goto 10, 3) := by decide +kernel
theorem dX8_advance_32 : decode cX8_advance 32 = .ok (.aload_n 0, 1) := by decide +kernel
theorem dX8_advance_33 : decode cX8_advance 33 = .ok (.invokevirtual 252, 3) := by decide +kernel
theorem dX8_advance_36 : decode cX8_advance 36 = .ok (.bipush 100, 2) := by decide +kernel
theorem dX8_advance_38 : decode cX8_advance 38 = .ok (.irem, 1) := by decide +kernel
theorem dX8_advance_39 : decode cX8_advance 39 = .ok (.istore 5, 2) := by decide +kernel
theorem dX8_advance_41 : decode cX8_advance 41 = .ok (.iload_n 2, 1) := by decide +kernel
theorem dX8_advance_42 : decode cX8_advance 42 = .ok (.aload_n 0, 1) := by decide +kernel
theorem dX8_advance_43 : decode cX8_advance 43 = .ok (.iload 4, 2) := by decide +kernel
theorem dX8_advance_45 : decode cX8_advance 45 = .ok (.iload 5, 2) := by decide +kernel
theorem dX8_advance_47 : decode cX8_advance 47 = .ok (.invokevirtual 255, 3) := by decide +kernel
theorem dX8_advance_50 : decode cX8_advance 50 = .ok (.iadd, 1) := by decide +kernel
theorem dX8_advance_51 : decode cX8_advance 51 = .ok (.istore_n 2, 1) := by decide +kernel
theorem dX8_advance_52 : decode cX8_advance 52 = .ok (.aload_n 0, 1) := by decide +kernel
theorem dX8_advance_53 : decode cX8_advance 53 = .ok (.sipush 9999, 3) := by decide +kernel
theorem dX8_advance_56 : decode cX8_advance 56 = .ok (.aload_n 0, 1) := by decide +kernel
theorem dX8_advance_57 : decode cX8_advance 57 = .ok (.getfield 93, 3) := by decide +kernel
theorem dX8_advance_60 : decode cX8_advance 60 = .ok (.iconst 1, 1) := by decide +kernel
theorem dX8_advance_61 : decode cX8_advance 61 = .ok (.iadd, 1) := by decide +kernel
theorem dX8_advance_62 : decode cX8_advance 62 = .ok (.invokestatic 168, 3) := by decide +kernel
theorem dX8_advance_65 : decode cX8_advance 65 = .ok (.putfield 93, 3) := by decide +kernel
theorem dX8_advance_68 : decode cX8_advance 68 = .ok (.iinc 3 1, 3) := by decide +kernel
theorem dX8_advance_71 : decode cX8_advance 71 = .ok (.goto (-67), 3) := by decide +kernel
theorem dX8_advance_74 : decode cX8_advance 74 = .ok (.iload_n 2, 1) := by decide +kernel
theorem dX8_advance_75 : decode cX8_advance 75 = .ok (.ireturn, 1) := by decide +kernel
theorem dX8_tellPlan_0 : decode cX8_tellPlan 0 = .ok (.aload_n 0, 1) := by decide +kernel
theorem dX8_tellPlan_1 : decode cX8_tellPlan 1 = .ok (.invokevirtual 259, 3) := by decide +kernel
theorem dX8_tellPlan_4 : decode cX8_tellPlan 4 = .ok (.aload_n 0, 1) := by decide +kernel
theorem dX8_tellPlan_5 : decode cX8_tellPlan 5 = .ok (.iload_n 1, 1) := by decide +kernel
theorem dX8_tellPlan_6 : decode cX8_tellPlan 6 = .ok (.putfield 89, 3) := by decide +kernel
theorem dX8_tellPlan_9 : decode cX8_tellPlan 9 = .ok (.aload_n 0, 1) := by decide +kernel
theorem dX8_tellPlan_10 : decode cX8_tellPlan 10 = .ok (.getfield 35, 3) := by decide +kernel
theorem dX8_tellPlan_13 : decode cX8_tellPlan 13 = .ok (.aload_n 0, 1) := by decide +kernel
theorem dX8_tellPlan_14 : decode cX8_tellPlan 14 = .ok (.invokevirtual 180, 3) := by decide +kernel
theorem dX8_tellPlan_17 : decode cX8_tellPlan 17 = .ok (.return_, 1) := by decide +kernel
theorem dX8_tellFan_0 : decode cX8_tellFan 0 = .ok (.aload_n 0, 1) := by decide +kernel
theorem dX8_tellFan_1 : decode cX8_tellFan 1 = .ok (.invokevirtual 259, 3) := by decide +kernel
theorem dX8_tellFan_4 : decode cX8_tellFan 4 = .ok (.aload_n 0, 1) := by decide +kernel
theorem dX8_tellFan_5 : decode cX8_tellFan 5 = .ok (.iload_n 1, 1) := by decide +kernel
theorem dX8_tellFan_6 : decode cX8_tellFan 6 = .ok (.putfield 57, 3) := by decide +kernel
theorem dX8_tellFan_9 : decode cX8_tellFan 9 = .ok (.aload_n 0, 1) := by decide +kernel
theorem dX8_tellFan_10 : decode cX8_tellFan 10 = .ok (.getfield 35, 3) := by decide +kernel
theorem dX8_tellFan_13 : decode cX8_tellFan 13 = .ok (.aload_n 0, 1) := by decide +kernel
theorem dX8_tellFan_14 : decode cX8_tellFan 14 = .ok (.invokevirtual 180, 3) := by decide +kernel
theorem dX8_tellFan_17 : decode cX8_tellFan 17 = .ok (.return_, 1) := by decide +kernel
theorem dX8_tellSize_0 : decode cX8_tellSize 0 = .ok (.aload_n 0, 1) := by decide +kernel
theorem dX8_tellSize_1 : decode cX8_tellSize 1 = .ok (.invokevirtual 259, 3) := by decide +kernel
theorem dX8_tellSize_4 : decode cX8_tellSize 4 = .ok (.aload_n 0, 1) := by decide +kernel
theorem dX8_tellSize_5 : decode cX8_tellSize 5 = .ok (.iload_n 1, 1) := by decide +kernel
theorem dX8_tellSize_6 : decode cX8_tellSize 6 = .ok (.putfield 61, 3) := by decide +kernel
theorem dX8_tellSize_9 : decode cX8_tellSize 9 = .ok (.aload_n 0, 1) := by decide +kernel
theorem dX8_tellSize_10 : decode cX8_tellSize 10 = .ok (.getfield 35, 3) := by decide +kernel
theorem dX8_tellSize_13 : decode cX8_tellSize 13 = .ok (.aload_n 0, 1) := by decide +kernel
theorem dX8_tellSize_14 : decode cX8_tellSize 14 = .ok (.invokevirtual 180, 3) := by decide +kernel
theorem dX8_tellSize_17 : decode cX8_tellSize 17 = .ok (.return_, 1) := by decide +kernel
set_option maxHeartbeats 4000000 in
set_option maxRecDepth 100000 in
theorem ct_X8_draw {E : xE} {z : Nat} {T : Nat → Nat × Int} {F : Nat → Nat → Int} {I : Nat → Int → Int} {P : Nat → Nat → Option Nat} {Y : Nat → Int → Option Nat} {a : Nat} {w : Int → Int} (hS : SR T F I P Y a w) : Ct E 0 mX8_draw 0 0 [.ref a] (z, T, F, I, P, Y) (xQ a (some (J (xand (xshr (xw (1103515245 * w 15 + 12345)) 16) 32767))) z T F I P Y (sSeed w)) := by
  obtain ⟨⟨hO, hL, hTy⟩, hLw, ⟨π, hB⟩, hV, hLf⟩ := id hS
  obtain ⟨⟨⟨⟨s0, s1, s2, s3⟩, sR, ⟨s4, s5⟩, ⟨s6, sLv⟩, ⟨s7, s8⟩, ⟨s9, sJo⟩, s10, s11, s12⟩, p1, p2, p3, p4, p5⟩, ⟨⟨c1, c9, c10, c11, c12, c13, c14, c15⟩, hTl, j0, j1, j2⟩, hRn, hTb, hOt, hJo⟩ := id hB
  obtain ⟨hR, o0, o1, o2, o3, o4, o5, o6, oc, o13, o14, o16, o17, o18, ov⟩ := id hO
  have hN := wN_i o0.1
  have hxr := xw_r (1103515245 * w 15 + 12345)
  refine Ct.of [some (.ref a)] kt_X8_draw rfl (Nat.le_of_ble_eq_true rfl) rfl (fun d hd => ?_)
  generalize hX : xN E _ _ _ = X
  refine xg_aloadn 1 dX8_draw_0 rfl rfl rfl ?_
  refine xg_ldcw (z := 1103515245) 4 kk_RX8_258 dX8_draw_1 rfl rfl ?_
  refine xg_aloadn 5 dX8_draw_4 rfl rfl rfl ?_
  refine xg_getI 8 kf_RX8_67 dX8_draw_5 rfl (by assumption) ?_
  refine xg_imul 9 dX8_draw_8 rfl ?_
  refine xg_sipush 12 dX8_draw_9 rfl (by decide) ?_
  refine xg_iadd 13 dX8_draw_12 rfl ?_
  rw [c14, ← J_xw (1103515245 * w 15 + 12345)]
  refine xg_putI 16 kf_RX8_67 dX8_draw_13 rfl (by assumption) ?_
  refine xg_aloadn 17 dX8_draw_16 rfl rfl rfl ?_
  refine xg_getI 20 kf_RX8_67 dX8_draw_17 rfl (by assumption) ?_
  rw [upF_at]
  refine xg_bipush 22 dX8_draw_20 rfl (by decide) ?_
  refine xg_iushr 23 dX8_draw_22 rfl ?_
  refine xg_sipush 26 dX8_draw_23 rfl (by decide) ?_
  refine xg_iand 27 dX8_draw_26 rfl ?_
  rw [xdr2]
  subst hX
  exact xg_ireturn dX8_draw_27 rfl ⟨Nat.le_refl _, Nat.le_refl _⟩ ⟨rfl, _, I, P, Y, rfl, hS.sc (Or.inr (Or.inr (Or.inl ⟨rfl, rfl⟩))) (by unfold wCell; omega), SF.uF (by omega)⟩

set_option maxHeartbeats 4000000 in
set_option maxRecDepth 100000 in
theorem ct_X8_advance {E : xE} {z : Nat} {T : Nat → Nat × Int} {F : Nat → Nat → Int} {I : Nat → Int → Int} {P : Nat → Nat → Option Nat} {Y : Nat → Int → Option Nat} {a : Nat} {w : Int → Int} (hS : SR T F I P Y a w) (hI : wInv w) {n : Nat} (hn : n ≤ 60) (hst : sGoS w n) : Ct E 6 mX8_advance 0 0 [.ref a, J (n : Int)] (z, T, F, I, P, Y) (xQ a (some (J (sGo n w).2)) z T F I P Y (sGo n w).1) := by
  skip
  refine Ct.of [some (.ref a), some (J (n : Int)), none, none, none, none] kt_X8_advance rfl (Nat.le_of_ble_eq_true rfl) rfl (fun d hd => ?_)
  generalize hX : xN E _ _ _ = X
  refine xg_iconst 1 dX8_advance_0 rfl ?_
  refine xg_istoren 2 _ dX8_advance_1 rfl rfl rfl (by decide) (Or.inr rfl) ?_
  refine xg_iconst 3 dX8_advance_2 rfl ?_
  refine xg_istoren 4 _ dX8_advance_3 rfl rfl rfl (by decide) (Or.inr rfl) ?_
  have loop4 : ∀ (mm : Nat) (k : Nat) (W : Int → Int) (F2 : Nat → Nat → Int) (I2 : Nat → Int → Int) (P2 : Nat → Nat → Option Nat) (Y2 : Nat → Int → Option Nat), (k ≤ n) → W = (sGo k w).1 → wInv W → SR T F2 I2 P2 Y2 a W → SF a F I P Y F2 I2 P2 Y2 → (n : Int) - (k : Int) < (mm : Int) → xG E mX8_advance (xR d 0 0) X 4 [some (.ref a), some (J (n : Int)), some (J (sGo k w).2), some (J (k : Int)), none, none] [] (z, T, F2, I2, P2, Y2) 0 0 := by
    intro mm
    induction mm with
    | zero => intro k W F2 I2 P2 Y2 hkn hWe hW hS2 hF2 hm; exfalso; omega
    | succ mm ih =>
      intro k W F2 I2 P2 Y2 hkn hWe hW hS2 hF2 hm
      subst hWe
      generalize hWe : (sGo k w).1 = W at hW hS2
      refine xg_iloadn 5 dX8_advance_4 rfl rfl rfl ?_
      refine xg_iloadn 6 dX8_advance_5 rfl rfl rfl ?_
      refine xg_icge 74 9 dX8_advance_6 rfl rfl (by omega) (fun hb6 => ?_) (fun hb6 => ?_)
      · skip
        refine xg_iloadn 75 dX8_advance_74 rfl rfl rfl ?_
        subst hX
        exact xg_ireturn dX8_advance_75 rfl ⟨Nat.le_refl _, Nat.le_refl _⟩ ⟨by rw [show k = n by omega], _, _, _, _, rfl, by rw [← show k = n by omega, hWe]; exact hS2, hF2⟩
      · skip
        obtain ⟨_, _, ⟨ρ, hB2⟩, -⟩ := id hS2
        obtain ⟨⟨⟨⟨t0, -⟩, -⟩, -⟩, -⟩ := id hB2
        refine xg_aloadn 10 dX8_advance_9 rfl rfl rfl ?_
        refine xg_callVq 13 8 [] _ kv_X8_draw ⟨_, _, rfl⟩ kl_RX8_252 dX8_advance_10 rfl (by assumption) (by omega) rfl rfl (Nat.le_of_ble_eq_true rfl) (by omega) ⟨Nat.le_refl _, Nat.le_refl _⟩ (ct_X8_draw hS2) rfl (fun F6 I6 P6 Y6 hS6 hF6 => ?_)
        have hx1 := xdr (xw (1103515245 * W 15 + 12345))
        refine xg_bipush 15 dX8_advance_13 rfl (by decide) ?_
        refine xg_irem 16 dX8_advance_15 rfl ⟨by omega, by omega, by omega, by omega⟩ ?_
        obtain ⟨key, hkey⟩ : ∃ key : Nat, (key : Int) = sDraw W 60 := ⟨(sDraw W 60).toNat, by have := sDraw_bd W (x := 60) (by omega); omega⟩
        have hk9 := sDraw_bd W (x := 60) (by omega)
        rw [show xand (xshr (xw (1103515245 * W 15 + 12345)) 16) 32767 % 60 = (key : Int) from hkey.symm]
        refine xg_istore 18 _ dX8_advance_16 rfl rfl (by decide) (Or.inr rfl) ?_
        have join39 : ∀ (v : Nat) (F3 : Nat → Nat → Int) (I3 : Nat → Int → Int) (P3 : Nat → Nat → Option Nat) (Y3 : Nat → Int → Option Nat), ((v : Int) = sTkV W) → SR T F3 I3 P3 Y3 a (sTkW W) → SF a F I P Y F3 I3 P3 Y3 → xG E mX8_advance (xR d 0 0) X 39 [some (.ref a), some (J (n : Int)), some (J (sGo k w).2), some (J (k : Int)), some (J (key : Int)), none] [J (v : Int)] (z, T, F3, I3, P3, Y3) 0 0 := by
          intro v F3 I3 P3 Y3 hv3 hS3 hF3
          have hTI := wInv_tkW hW
          have hv9 := sTkV_bd W
          have hst9 : sStop sFu (sW1 (sTkW W) (key : Int) (v : Int)) 0 := by rw [hv3, hkey, ← hWe]; exact hst k (by omega)
          have hwi := wInv_write hTI (key := (key : Int)) (v := (v : Int)) (by omega) (by omega)
          obtain ⟨-, -, w1, w2⟩ := sWrite_ok hTI.1.1 hTI.1.2.1 (key := (key : Int)) (v := (v : Int)) (by omega) (by omega)
          have h13 := hwi.1.1.2.2.2.2.2.2.2.2.2.1
          refine xg_istore 41 _ dX8_advance_39 rfl rfl (by decide) (Or.inr rfl) ?_
          refine xg_iloadn 42 dX8_advance_41 rfl rfl rfl ?_
          refine xg_aloadn 43 dX8_advance_42 rfl rfl rfl ?_
          refine xg_iload 45 dX8_advance_43 rfl rfl ?_
          refine xg_iload 47 dX8_advance_45 rfl rfl ?_
          refine xg_callVq 50 8 [J (key : Int), J (v : Int)] _ kv_X8_writeKey ⟨_, _, rfl⟩ kl_RX8_255 dX8_advance_47 rfl (by assumption) (by omega) rfl rfl (Nat.le_of_ble_eq_true rfl) (by omega) ⟨Nat.le_refl _, Nat.le_refl _⟩ (ct_X8_writeKey hS3 hTI (by omega) (by omega) hst9) rfl (fun F8 I8 P8 Y8 hS8 hF8 => ?_)
          obtain ⟨_, _, ⟨σ, hB8⟩, -⟩ := id hS8
          obtain ⟨⟨⟨⟨y0, -⟩, -⟩, -⟩, ⟨⟨-, -, -, -, -, y13, -⟩, -⟩, -⟩ := id hB8
          refine xg_iadd 51 dX8_advance_50 rfl ?_
          refine xg_istoren 52 _ dX8_advance_51 rfl rfl rfl (by decide) (Or.inr rfl) ?_
          refine xg_aloadn 53 dX8_advance_52 rfl rfl rfl ?_
          refine xg_sipush 56 dX8_advance_53 rfl (by decide) ?_
          refine xg_aloadn 57 dX8_advance_56 rfl rfl rfl ?_
          refine xg_getI 60 kf_RX8_93 dX8_advance_57 rfl (by assumption) ?_
          refine xg_iconst 61 dX8_advance_60 rfl ?_
          refine xg_iadd 62 dX8_advance_61 rfl ?_
          refine xg_mmin 65 kl_RX8_168 dX8_advance_62 rfl (by omega) (Nat.le_of_ble_eq_true rfl) (by omega) ⟨Nat.le_refl _, Nat.le_refl _⟩ ?_
          rw [y13]
          refine xg_putI 68 kf_RX8_93 dX8_advance_65 rfl (by assumption) ?_
          refine xg_iinc 71 _ dX8_advance_68 rfl rfl rfl rfl (by decide) (Or.inr rfl) ?_
          refine xg_goto 4 dX8_advance_71 rfl ?_
          have hS9 := hS8.sc (k := 13) (i := 13) (v := min 9999 (sWrite (sTkW W) (key : Int) (v : Int) 13 + 1)) (Or.inr (Or.inl ⟨rfl, rfl⟩)) (by unfold wCell; omega)
          have eT : wS (sWrite (sTkW W) (key : Int) (v : Int)) 13 (min 9999 (sWrite (sTkW W) (key : Int) (v : Int) 13 + 1)) = (sGo (k + 1) w).1 := by rw [sGo, hWe, hkey, hv3]; rfl
          rw [eT] at hS9
          exact xg_weak _ (xle_s rfl (xle_s rfl (xle_s (by rw [sGo, hWe]; unfold sTickN; rw [hkey, hv3]) (xle_s rfl (xle_n (xle_n xle_0)))))) (ih (k + 1) _ _ _ _ _ (by omega) rfl (wInv_go hI (k + 1)) hS9 ((hF3.tr hF8).tr (SF.uF (by omega))) (by omega))
        refine xg_aloadn 19 dX8_advance_18 rfl rfl rfl ?_
        refine xg_callVq 22 8 [] _ kv_X8_draw ⟨_, _, rfl⟩ kl_RX8_252 dX8_advance_19 rfl (by assumption) (by omega) rfl rfl (Nat.le_of_ble_eq_true rfl) (by omega) ⟨Nat.le_refl _, Nat.le_refl _⟩ (ct_X8_draw hS6) rfl (fun F7 I7 P7 Y7 hS7 hF7 => ?_)
        have hx2 := xdr (xw (1103515245 * (sSeed W) 15 + 12345))
        refine xg_iconst 23 dX8_advance_22 rfl ?_
        refine xg_irem 24 dX8_advance_23 rfl (by omega) ?_
        refine xg_ifne 32 27 dX8_advance_24 rfl rfl (by omega) (fun hb24 => ?_) (fun hb24 => ?_)
        · skip
          refine xg_aloadn 33 dX8_advance_32 rfl rfl rfl ?_
          refine xg_callVq 36 8 [] _ kv_X8_draw ⟨_, _, rfl⟩ kl_RX8_252 dX8_advance_33 rfl (by assumption) (by omega) rfl rfl (Nat.le_of_ble_eq_true rfl) (by omega) ⟨Nat.le_refl _, Nat.le_refl _⟩ (ct_X8_draw hS7) rfl (fun F5 I5 P5 Y5 hS5 hF5 => ?_)
          have hx3 := xdr (xw (1103515245 * (sSeed (sSeed W)) 15 + 12345))
          refine xg_bipush 38 dX8_advance_36 rfl (by decide) ?_
          refine xg_irem 39 dX8_advance_38 rfl (by omega) ?_
          obtain ⟨v, hv⟩ : ∃ v : Nat, (v : Int) = sDraw (sSeed (sSeed W)) 100 := ⟨(sDraw (sSeed (sSeed W)) 100).toNat, by have := sDraw_bd (sSeed (sSeed W)) (x := 100) (by omega); omega⟩
          rw [show xand (xshr (xw (1103515245 * (sSeed (sSeed W)) 15 + 12345)) 16) 32767 % 100 = (v : Int) from hv.symm]
          have hg : sGone W = false := decide_eq_false (by show ¬ sDraw (sSeed W) 4 = 0; exact hb24)
          exact join39 v _ _ _ _ (by unfold sTkV; rw [hg]; exact hv) (by unfold sTkW; rw [hg]; exact hS5) (((hF2.tr hF6).tr hF7).tr hF5)
        · skip
          refine xg_bipush 29 dX8_advance_27 rfl (by decide) ?_
          refine xg_goto 39 dX8_advance_29 rfl ?_
          have hg : sGone W = true := decide_eq_true (by show sDraw (sSeed W) 4 = 0; exact hb24)
          exact join39 100 _ _ _ _ (by unfold sTkV; rw [hg]; rfl) (by unfold sTkW; rw [hg]; exact hS7) ((hF2.tr hF6).tr hF7)
  exact xg_weak _ (xle_s rfl (xle_s rfl (xle_s rfl (xle_s rfl (xle_n (xle_n xle_0)))))) (loop4 61 0 w _ _ _ _ (by omega) rfl hI hS SF.rf (by omega))

set_option maxHeartbeats 4000000 in
set_option maxRecDepth 100000 in
theorem ct_X8_tellPlan {E : xE} {z : Nat} {T : Nat → Nat × Int} {F : Nat → Nat → Int} {I : Nat → Int → Int} {P : Nat → Nat → Option Nat} {Y : Nat → Int → Option Nat} {a : Nat} {w : Int → Int} (hS : SR T F I P Y a w) (hI : wInv w) {v : Int} (hv : v = 0 ∨ v = 1) : Ct E 2 mX8_tellPlan 0 0 [.ref a, J v] (z, T, F, I, P, Y) (xQ a none z T F I P Y (wS (sHalt w) 3 v)) := by
  obtain ⟨⟨hO, hL, hTy⟩, hLw, ⟨π, hB⟩, hV, hLf⟩ := id hS
  obtain ⟨⟨⟨⟨s0, s1, s2, s3⟩, sR, ⟨s4, s5⟩, ⟨s6, sLv⟩, ⟨s7, s8⟩, ⟨s9, sJo⟩, s10, s11, s12⟩, p1, p2, p3, p4, p5⟩, ⟨⟨c1, c9, c10, c11, c12, c13, c14, c15⟩, hTl, j0, j1, j2⟩, hRn, hTb, hOt, hJo⟩ := id hB
  obtain ⟨hR, o0, o1, o2, o3, o4, o5, o6, oc, o13, o14, o16, o17, o18, ov⟩ := id hO
  have hN := wN_i o0.1
  refine Ct.of [some (.ref a), some (J v)] kt_X8_tellPlan rfl (Nat.le_of_ble_eq_true rfl) rfl (fun d hd => ?_)
  generalize hX : xN E _ _ _ = X
  refine xg_aloadn 1 dX8_tellPlan_0 rfl rfl rfl ?_
  refine xg_callVq 4 8 [] _ kv_X8_giveUpJob ⟨_, _, rfl⟩ kl_RX8_259 dX8_tellPlan_1 rfl (by assumption) (by omega) rfl rfl (Nat.le_of_ble_eq_true rfl) (by omega) ⟨Nat.le_refl _, Nat.le_refl _⟩ (ct_X8_giveUpJob hS hI.2.1) rfl (fun F1 I1 P1 Y1 hS1 hF1 => ?_)
  have hHI := wInv_halt hI
  obtain ⟨hG1, hL1, ⟨ρ, hB1⟩, -, hl1⟩ := id hS1
  obtain ⟨⟨⟨⟨t0, -⟩, -, -, ⟨t6, tLv⟩, -⟩, -⟩, -⟩ := id hB1
  have tl0 := tLv.1
  refine xg_aloadn 5 dX8_tellPlan_4 rfl rfl rfl ?_
  refine xg_iloadn 6 dX8_tellPlan_5 rfl rfl rfl ?_
  refine xg_putZ 9 kf_RX8_89 dX8_tellPlan_6 rfl (by assumption) hv ?_
  have hB2 := hB1.sc (k := 9) (i := 3) (v := v) hHI.1.1 (by omega)
  have hI2 := hHI.S3 (i := 3) (v := v) (by omega) (by unfold wCell; omega)
  have heq : eqR (sHalt w) (wS (sHalt w) 3 v) := eqR_S _ _ _ (by omega)
  refine xg_aloadn 10 dX8_tellPlan_9 rfl rfl rfl ?_
  refine xg_getP 13 kf_RX8_35 dX8_tellPlan_10 rfl (by assumption) (by assumption) ?_
  refine xg_aloadn 14 dX8_tellPlan_13 rfl rfl rfl ?_
  refine xg_callV 17 5 [_] _ kv_X5_recount ⟨_, _, rfl⟩ kl_RX8_180 dX8_tellPlan_14 rfl (by assumption) (by omega) rfl rfl (Nat.le_of_ble_eq_true rfl) (by omega) ⟨Nat.le_refl _, Nat.le_refl _⟩ (ct_X5_recount hB2 hI2.1.1 hI2.2.1.lv tLv) rfl ?_
  subst hX
  exact xg_return dX8_tellPlan_17 rfl ⟨Nat.le_refl _, Nat.le_refl _⟩ ⟨rfl, _, _, _, _, rfl, SR.rec hI2.1 (hL1.sf (SF.uF (Y := Y1) (by omega)) (wHi_S _ _ _ (by omega))) hB2 (by rw [upF_na _ _ _ _ (by omega), hl1, heq.left hHI.1.1.2.1 (wS_ne _ _ _ (by omega))]), (hF1.tr (SF.uF (by omega))).tr SF.rec⟩

set_option maxHeartbeats 4000000 in
set_option maxRecDepth 100000 in
theorem ct_X8_tellFan {E : xE} {z : Nat} {T : Nat → Nat × Int} {F : Nat → Nat → Int} {I : Nat → Int → Int} {P : Nat → Nat → Option Nat} {Y : Nat → Int → Option Nat} {a : Nat} {w : Int → Int} (hS : SR T F I P Y a w) (hI : wInv w) {v : Int} (hv : 2 ≤ v ∧ v ≤ 4) : Ct E 2 mX8_tellFan 0 0 [.ref a, J v] (z, T, F, I, P, Y) (xQ a none z T F I P Y (wS (sHalt w) 4 v)) := by
  obtain ⟨⟨hO, hL, hTy⟩, hLw, ⟨π, hB⟩, hV, hLf⟩ := id hS
  obtain ⟨⟨⟨⟨s0, s1, s2, s3⟩, sR, ⟨s4, s5⟩, ⟨s6, sLv⟩, ⟨s7, s8⟩, ⟨s9, sJo⟩, s10, s11, s12⟩, p1, p2, p3, p4, p5⟩, ⟨⟨c1, c9, c10, c11, c12, c13, c14, c15⟩, hTl, j0, j1, j2⟩, hRn, hTb, hOt, hJo⟩ := id hB
  obtain ⟨hR, o0, o1, o2, o3, o4, o5, o6, oc, o13, o14, o16, o17, o18, ov⟩ := id hO
  have hN := wN_i o0.1
  refine Ct.of [some (.ref a), some (J v)] kt_X8_tellFan rfl (Nat.le_of_ble_eq_true rfl) rfl (fun d hd => ?_)
  generalize hX : xN E _ _ _ = X
  refine xg_aloadn 1 dX8_tellFan_0 rfl rfl rfl ?_
  refine xg_callVq 4 8 [] _ kv_X8_giveUpJob ⟨_, _, rfl⟩ kl_RX8_259 dX8_tellFan_1 rfl (by assumption) (by omega) rfl rfl (Nat.le_of_ble_eq_true rfl) (by omega) ⟨Nat.le_refl _, Nat.le_refl _⟩ (ct_X8_giveUpJob hS hI.2.1) rfl (fun F1 I1 P1 Y1 hS1 hF1 => ?_)
  have hHI := wInv_halt hI
  obtain ⟨hG1, hL1, ⟨ρ, hB1⟩, -, hl1⟩ := id hS1
  obtain ⟨⟨⟨⟨t0, -⟩, -, -, ⟨t6, tLv⟩, -⟩, -⟩, -⟩ := id hB1
  have tl0 := tLv.1
  refine xg_aloadn 5 dX8_tellFan_4 rfl rfl rfl ?_
  refine xg_iloadn 6 dX8_tellFan_5 rfl rfl rfl ?_
  refine xg_putI 9 kf_RX8_57 dX8_tellFan_6 rfl (by assumption) ?_
  have hB2 := hB1.sc (k := 10) (i := 4) (v := v) hHI.1.1 (by omega)
  have hI2 := hHI.S3 (i := 4) (v := v) (by omega) (by unfold wCell; omega)
  have heq : eqR (sHalt w) (wS (sHalt w) 4 v) := eqR_S _ _ _ (by omega)
  refine xg_aloadn 10 dX8_tellFan_9 rfl rfl rfl ?_
  refine xg_getP 13 kf_RX8_35 dX8_tellFan_10 rfl (by assumption) (by assumption) ?_
  refine xg_aloadn 14 dX8_tellFan_13 rfl rfl rfl ?_
  refine xg_callV 17 5 [_] _ kv_X5_recount ⟨_, _, rfl⟩ kl_RX8_180 dX8_tellFan_14 rfl (by assumption) (by omega) rfl rfl (Nat.le_of_ble_eq_true rfl) (by omega) ⟨Nat.le_refl _, Nat.le_refl _⟩ (ct_X5_recount hB2 hI2.1.1 hI2.2.1.lv tLv) rfl ?_
  subst hX
  exact xg_return dX8_tellFan_17 rfl ⟨Nat.le_refl _, Nat.le_refl _⟩ ⟨rfl, _, _, _, _, rfl, SR.rec hI2.1 (hL1.sf (SF.uF (Y := Y1) (by omega)) (wHi_S _ _ _ (by omega))) hB2 (by rw [upF_na _ _ _ _ (by omega), hl1, heq.left hHI.1.1.2.1 (wS_ne _ _ _ (by omega))]), (hF1.tr (SF.uF (by omega))).tr SF.rec⟩

set_option maxHeartbeats 4000000 in
set_option maxRecDepth 100000 in
theorem ct_X8_tellSize {E : xE} {z : Nat} {T : Nat → Nat × Int} {F : Nat → Nat → Int} {I : Nat → Int → Int} {P : Nat → Nat → Option Nat} {Y : Nat → Int → Option Nat} {a : Nat} {w : Int → Int} (hS : SR T F I P Y a w) (hI : wInv w) {v : Int} (hv : 2 ≤ v ∧ v ≤ 6) : Ct E 2 mX8_tellSize 0 0 [.ref a, J v] (z, T, F, I, P, Y) (xQ a none z T F I P Y (wS (sHalt w) 5 v)) := by
  obtain ⟨⟨hO, hL, hTy⟩, hLw, ⟨π, hB⟩, hV, hLf⟩ := id hS
  obtain ⟨⟨⟨⟨s0, s1, s2, s3⟩, sR, ⟨s4, s5⟩, ⟨s6, sLv⟩, ⟨s7, s8⟩, ⟨s9, sJo⟩, s10, s11, s12⟩, p1, p2, p3, p4, p5⟩, ⟨⟨c1, c9, c10, c11, c12, c13, c14, c15⟩, hTl, j0, j1, j2⟩, hRn, hTb, hOt, hJo⟩ := id hB
  obtain ⟨hR, o0, o1, o2, o3, o4, o5, o6, oc, o13, o14, o16, o17, o18, ov⟩ := id hO
  have hN := wN_i o0.1
  refine Ct.of [some (.ref a), some (J v)] kt_X8_tellSize rfl (Nat.le_of_ble_eq_true rfl) rfl (fun d hd => ?_)
  generalize hX : xN E _ _ _ = X
  refine xg_aloadn 1 dX8_tellSize_0 rfl rfl rfl ?_
  refine xg_callVq 4 8 [] _ kv_X8_giveUpJob ⟨_, _, rfl⟩ kl_RX8_259 dX8_tellSize_1 rfl (by assumption) (by omega) rfl rfl (Nat.le_of_ble_eq_true rfl) (by omega) ⟨Nat.le_refl _, Nat.le_refl _⟩ (ct_X8_giveUpJob hS hI.2.1) rfl (fun F1 I1 P1 Y1 hS1 hF1 => ?_)
  have hHI := wInv_halt hI
  obtain ⟨hG1, hL1, ⟨ρ, hB1⟩, -, hl1⟩ := id hS1
  obtain ⟨⟨⟨⟨t0, -⟩, -, -, ⟨t6, tLv⟩, -⟩, -⟩, -⟩ := id hB1
  have tl0 := tLv.1
  refine xg_aloadn 5 dX8_tellSize_4 rfl rfl rfl ?_
  refine xg_iloadn 6 dX8_tellSize_5 rfl rfl rfl ?_
  refine xg_putI 9 kf_RX8_61 dX8_tellSize_6 rfl (by assumption) ?_
  have hB2 := hB1.sc (k := 11) (i := 5) (v := v) hHI.1.1 (by omega)
  have hI2 := hHI.S3 (i := 5) (v := v) (by omega) (by unfold wCell; omega)
  have heq : eqR (sHalt w) (wS (sHalt w) 5 v) := eqR_S _ _ _ (by omega)
  refine xg_aloadn 10 dX8_tellSize_9 rfl rfl rfl ?_
  refine xg_getP 13 kf_RX8_35 dX8_tellSize_10 rfl (by assumption) (by assumption) ?_
  refine xg_aloadn 14 dX8_tellSize_13 rfl rfl rfl ?_
  refine xg_callV 17 5 [_] _ kv_X5_recount ⟨_, _, rfl⟩ kl_RX8_180 dX8_tellSize_14 rfl (by assumption) (by omega) rfl rfl (Nat.le_of_ble_eq_true rfl) (by omega) ⟨Nat.le_refl _, Nat.le_refl _⟩ (ct_X5_recount hB2 hI2.1.1 hI2.2.1.lv tLv) rfl ?_
  subst hX
  exact xg_return dX8_tellSize_17 rfl ⟨Nat.le_refl _, Nat.le_refl _⟩ ⟨rfl, _, _, _, _, rfl, SR.rec hI2.1 (hL1.sf (SF.uF (Y := Y1) (by omega)) (wHi_S _ _ _ (by omega))) hB2 (by rw [upF_na _ _ _ _ (by omega), hl1, heq.left hHI.1.1.2.1 (wS_ne _ _ _ (by omega))]), (hF1.tr (SF.uF (by omega))).tr SF.rec⟩

