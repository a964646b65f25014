theorem dX8_makeRoom_0 : decode cX8_makeRoom 0 = .ok (.iconst 0, 1) := by decide +kernel
theorem dX8_makeRoom_1 : decode cX8_makeRoom 1 = .ok (.istore_n 1, 1) := by decide +kernel
theorem dX8_makeRoom_2 : decode cX8_makeRoom 2 = .ok (.iconst 0, 1) := by decide +kernel
theorem dX8_makeRoom_3 : decode cX8_makeRoom 3 = .ok (.istore_n 2, 1) := by decide +kernel
theorem dX8_makeRoom_4 : decode cX8_makeRoom 4 = .ok (.iload_n 2, 1) := by decide +kernel
theorem dX8_makeRoom_5 : decode cX8_makeRoom 5 = .ok (.ldc 248, 2) := by decide +kernel
theorem dX8_makeRoom_7 : decode cX8_makeRoom 7 = .ok (.if_icmp .ge 48, 3) := by decide +kernel
theorem dX8_makeRoom_10 : decode cX8_makeRoom 10 = .ok (.aload_n 0, 1) := by decide +kernel
theorem dX8_makeRoom_11 : decode cX8_makeRoom 11 = .ok (.invokevirtual 235, 3) := by decide +kernel
theorem dX8_makeRoom_14 : decode cX8_makeRoom 14 = .ok (.ifCond .ne 41, 3) := by decide +kernel
theorem dX8_makeRoom_17 : decode cX8_makeRoom 17 = .ok (.aload_n 0, 1) := by decide +kernel
theorem dX8_makeRoom_18 : decode cX8_makeRoom 18 = .ok (.invokevirtual 242, 3) := by decide +kernel
theorem dX8_makeRoom_21 : decode cX8_makeRoom 21 = .ok (.aload_n 0, 1) := by decide +kernel
theorem dX8_makeRoom_22 : decode cX8_makeRoom 22 = .ok (.getfield 28, 3) := by decide +kernel
theorem dX8_makeRoom_25 : decode cX8_makeRoom 25 = .ok (.getfield 143, 3) := by decide +kernel
theorem dX8_makeRoom_28 : decode cX8_makeRoom 28 = .ok (.ifCond .ne 5, 3) := by decide +kernel
theorem dX8_makeRoom_31 : decode cX8_makeRoom 31 = .ok (.iload_n 1, 1) := by decide +kernel
theorem dX8_makeRoom_32 : decode cX8_makeRoom 32 = .ok (.ireturn, 1) := by decide +kernel
theorem dX8_makeRoom_33 : decode cX8_makeRoom 33 = .ok (.aload_n 0, 1) := by decide +kernel
theorem dX8_makeRoom_34 : decode cX8_makeRoom 34 = .ok (.iconst 1, 1) := by decide +kernel
theorem dX8_makeRoom_35 : decode cX8_makeRoom 35 = .ok (.invokevirtual 245, 3) := by decide +kernel
theorem dX8_makeRoom_38 : decode cX8_makeRoom 38 = .ok (.pop, 1) := by decide +kernel
theorem dX8_makeRoom_39 : decode cX8_makeRoom 39 = .ok (.aload_n 0, 1) := by decide +kernel
theorem dX8_makeRoom_40 : decode cX8_makeRoom 40 = .ok (.getfield 42, 3) := by decide +kernel
theorem dX8_makeRoom_43 : decode cX8_makeRoom 43 = .ok (.invokevirtual 249, 3) := by decide +kernel
theorem dX8_makeRoom_46 : decode cX8_makeRoom 46 = .ok (.iinc 1 1, 3) := by decide +kernel
theorem dX8_makeRoom_49 : decode cX8_makeRoom 49 = .ok (.iinc 2 1, 3) := by decide +kernel
theorem dX8_makeRoom_52 : decode cX8_makeRoom 52 = .ok (.goto (-48), 3) := by decide +kernel
theorem dX8_makeRoom_55 : decode cX8_makeRoom 55 = .ok (.iload_n 1, 1) := by decide +kernel
theorem dX8_makeRoom_56 : decode cX8_makeRoom 56 = .ok (.ireturn, 1) := by decide +kernel
theorem dX8_writeKey_0 : decode cX8_writeKey 0 = .ok (.aload_n 0, 1) := by decide +kernel
theorem dX8_writeKey_1 : decode cX8_writeKey 1 = .ok (.getfield 42, 3) := by decide +kernel
theorem dX8_writeKey_4 : decode cX8_writeKey 4 = .ok (.invokevirtual 226, 3) := by decide +kernel
theorem dX8_writeKey_7 : decode cX8_writeKey 7 = .ok (.aload_n 0, 1) := by decide +kernel
theorem dX8_writeKey_8 : decode cX8_writeKey 8 = .ok (.getfield 18, 3) := by decide +kernel
theorem dX8_writeKey_11 : decode cX8_writeKey 11 = .ok (.iload_n 1, 1) := by decide +kernel
theorem dX8_writeKey_12 : decode cX8_writeKey 12 = .ok (.iload_n 2, 1) := by decide +kernel
theorem dX8_writeKey_13 : decode cX8_writeKey 13 = .ok (.iconst 0, 1) := by decide +kernel
theorem dX8_writeKey_14 : decode cX8_writeKey 14 = .ok (.invokevirtual 210, 3) := by decide +kernel
theorem dX8_writeKey_17 : decode cX8_writeKey 17 = .ok (.iconst 0, 1) := by decide +kernel
theorem dX8_writeKey_18 : decode cX8_writeKey 18 = .ok (.istore_n 3, 1) := by decide +kernel
theorem dX8_writeKey_19 : decode cX8_writeKey 19 = .ok (.aload_n 0, 1) := by decide +kernel
theorem dX8_writeKey_20 : decode cX8_writeKey 20 = .ok (.getfield 18, 3) := by decide +kernel
theorem dX8_writeKey_23 : decode cX8_writeKey 23 = .ok (.getfield 117, 3) := by decide +kernel
theorem dX8_writeKey_26 : decode cX8_writeKey 26 = .ok (.aload_n 0, 1) := by decide +kernel
theorem dX8_writeKey_27 : decode cX8_writeKey 27 = .ok (.getfield 61, 3) := by decide +kernel
theorem dX8_writeKey_30 : decode cX8_writeKey 30 = .ok (.if_icmp .lt 27, 3) := by decide +kernel
theorem dX8_writeKey_33 : decode cX8_writeKey 33 = .ok (.aload_n 0, 1) := by decide +kernel
theorem dX8_writeKey_34 : decode cX8_writeKey 34 = .ok (.invokevirtual 229, 3) := by decide +kernel
theorem dX8_writeKey_37 : decode cX8_writeKey 37 = .ok (.istore_n 3, 1) := by decide +kernel
theorem dX8_writeKey_38 : decode cX8_writeKey 38 = .ok (.aload_n 0, 1) := by decide +kernel
theorem dX8_writeKey_39 : decode cX8_writeKey 39 = .ok (.getfield 42, 3) := by decide +kernel
theorem dX8_writeKey_42 : decode cX8_writeKey 42 = .ok (.iload_n 3, 1) := by decide +kernel
theorem dX8_writeKey_43 : decode cX8_writeKey 43 = .ok (.invokevirtual 232, 3) := by decide +kernel
theorem dX8_writeKey_46 : decode cX8_writeKey 46 = .ok (.aload_n 0, 1) := by decide +kernel
theorem dX8_writeKey_47 : decode cX8_writeKey 47 = .ok (.invokevirtual 235, 3) := by decide +kernel
theorem dX8_writeKey_50 : decode cX8_writeKey 50 = .ok (.ifCond .eq 7, 3) := by decide +kernel
theorem dX8_writeKey_53 : decode cX8_writeKey 53 = .ok (.aload_n 0, 1) := by decide +kernel
theorem dX8_writeKey_54 : decode cX8_writeKey 54 = .ok (.invokevirtual 239, 3) := by decide +kernel
theorem dX8_writeKey_57 : decode cX8_writeKey 57 = .ok (.aload_n 0, 1) := by decide +kernel
theorem dX8_writeKey_58 : decode cX8_writeKey 58 = .ok (.invokevirtual 242, 3) := by decide +kernel
theorem dX8_writeKey_61 : decode cX8_writeKey 61 = .ok (.aload_n 0, 1) := by decide +kernel
theorem dX8_writeKey_62 : decode cX8_writeKey 62 = .ok (.iconst 0, 1) := by decide +kernel
theorem dX8_writeKey_63 : decode cX8_writeKey 63 = .ok (.invokevirtual 245, 3) := by decide +kernel
theorem dX8_writeKey_66 : decode cX8_writeKey 66 = .ok (.pop, 1) := by decide +kernel
theorem dX8_writeKey_67 : decode cX8_writeKey 67 = .ok (.iload_n 3, 1) := by decide +kernel
theorem dX8_writeKey_68 : decode cX8_writeKey 68 = .ok (.ireturn, 1) := by decide +kernel
theorem ct_X8_paidSlice_any {E : xE} {z : Nat} {T : Nat → Nat × Int} {F : Nat → Nat → Int} {I : Nat → Int → Int} {P : Nat → Nat → Option Nat} {Y : Nat → Int → Option Nat} {a : Nat} {w : Int → Int} (hS : SR T F I P Y a w) (hI : wInv w) {l : Int} (hl : 0 ≤ l ∧ l ≤ 1) : Ct E 3 mX8_paidSlice 0 0 [.ref a, J l] (z, T, F, I, P, Y) (xQ a (some (J (if w 16 = 1 then sPaidD w l else 0))) z T F I P Y (if w 16 = 1 then sPaid w l else w)) := by
  by_cases hb : w 16 = 1
  · rw [if_pos hb, if_pos hb]; exact ct_X8_paidSlice hS hI.2.1 hI.2.2.1 hb hl
  · rw [if_neg hb, if_neg hb]
    have h16 := hS.1.1.2.2.2.2.2.2.2.2.2.2.2.1
    exact fun d hd => ct_X8_paidSlice_0 hS (by omega) d (by omega)
theorem wInv.c11 {w : Int → Int} (h : wInv w) {x : Int} (hx : 0 ≤ x ∧ x ≤ 9999) : wInv (wS w 11 x) := h.S (by omega) (by unfold wCell; omega) (fun _ => hx)
set_option maxHeartbeats 4000000 in
set_option maxRecDepth 100000 in
theorem ct_X8_makeRoom {E : xE} {z : Nat} {T : Nat → Nat × Int} {F : Nat → Nat → Int} {I : Nat → Int → Int} {P : Nat → Nat → Option Nat} {Y : Nat → Int → Option Nat} {a : Nat} {w : Int → Int} (hS : SR T F I P Y a w) (hI : wInv w) (hst : sStop sFu w 0) : Ct E 4 mX8_makeRoom 0 0 [.ref a] (z, T, F, I, P, Y) (xQ a (some (J (sStl sFu w 0).2)) z T F I P Y (wS (sStl sFu w 0).1 11 (w 11))) := by
  have hfu := sFu_eq
  refine Ct.of [some (.ref a), none, none] kt_X8_makeRoom rfl (Nat.le_of_ble_eq_true rfl) rfl (fun d hd => ?_)
  generalize hX : xN E _ _ _ = X
  refine xg_iconst 1 dX8_makeRoom_0 rfl ?_
  refine xg_istoren 2 _ dX8_makeRoom_1 rfl rfl rfl (by decide) (Or.inr rfl) ?_
  refine xg_iconst 3 dX8_makeRoom_2 rfl ?_
  refine xg_istoren 4 _ dX8_makeRoom_3 rfl rfl rfl (by decide) (Or.inr rfl) ?_
  have loop4 : ∀ (mm : Nat) (s f : Nat) (W : Int → Int) (F2 : Nat → Nat → Int) (I2 : Nat → Int → Int) (P2 : Nat → Nat → Option Nat) (Y2 : Nat → Int → Option Nat), (s + f = sFu) → sStl f W (s : Int) = sStl sFu w 0 → sStop f W (s : Int) → wInv W → SR T F2 I2 P2 Y2 a (wS W 11 (w 11)) → SF a F I P Y F2 I2 P2 Y2 → (f : Int) < (mm : Int) → xG E mX8_makeRoom (xR d 0 0) X 4 [some (.ref a), some (J (s : Int)), some (J (s : Int))] [] (z, T, F2, I2, P2, Y2) 0 0 := by
    intro mm
    induction mm with
    | zero => intro s f W F2 I2 P2 Y2 hsf hse hsp hW hS2 hF2 hm; exfalso; omega
    | succ mm ih =>
      intro s f W F2 I2 P2 Y2 hsf hse hsp hW hS2 hF2 hm
      refine xg_iloadn 5 dX8_makeRoom_4 rfl rfl rfl ?_
      refine xg_ldc (z := 1000000) 7 kk_RX8_248 dX8_makeRoom_5 rfl rfl ?_
      refine xg_icge 55 10 dX8_makeRoom_7 rfl rfl (by omega) (fun hb7 => ?_) (fun hb7 => ?_)
      · exfalso; omega
      · skip
        obtain ⟨_, _, ⟨ρ, hB2⟩, hV2, -⟩ := id hS2
        obtain ⟨⟨⟨⟨t0, t1, t2, t3⟩, -, ⟨t4, t5⟩, ⟨t6, tLv⟩, ⟨t7, t8⟩, -⟩, -⟩, ⟨⟨k1, -, k10, -⟩, ⟨-, -, -, k3, -⟩, -⟩, -⟩ := id hB2
        have hm0 := (hV2.1 0 (by omega)).2.1
        have hmb := sMany_bd W 0
        have hN9 := wN_i hW.1.1.2.1.1
        have hcm : sMany (wS W 11 (w 11)) 0 = sMany W 0 := (c11_eqW (w := W)).1.many hW.1.1.2.1 0
        have hw4 : (wS W 11 (w 11)) 4 = W 4 := wS_ne _ _ _ (by omega)
        have hw0 : (wS W 11 (w 11)) 0 = W 0 := wS_ne _ _ _ (by omega)
        have hW0 := hW.1.1.2.1
        have hW4 := hW.1.1.2.2.2.2.2.1
        have hVI := hW.c11 (x := w 11) hI.2.2.2
        have hcd : sCrowd W = decide (W 4 + 2 ≤ sMany W 0 ∨ W 0 = 12) := rfl
        obtain ⟨f, rfl⟩ : ∃ g, f = g + 1 := by
          cases f with
          | zero => exact hsp.elim
          | succ g => exact ⟨g, rfl⟩
        have tl0 := tLv.1
        have tl1 := tLv.2.1.2.1
        have tl2 := tLv.2.2.2.1
        refine xg_aloadn 11 dX8_makeRoom_10 rfl rfl rfl ?_
        refine xg_callV 14 8 [] _ kv_X8_hasRoom ⟨_, _, rfl⟩ kl_RX8_235 dX8_makeRoom_11 rfl (by assumption) (by omega) rfl rfl (Nat.le_of_ble_eq_true rfl) (by omega) ⟨Nat.le_refl _, Nat.le_refl _⟩ (ct_X8_hasRoom t0 t6 tl0 tl1 tl2.1 (by omega) (by have e9 : I2 (a + 45 + 2) 0 = sMany (wS W 11 (w 11)) 0 := hm0; omega) (by omega) (by omega)) rfl ?_
        refine xg_dne 55 17 dX8_makeRoom_14 rfl rfl (fun hb14 => ?_) (fun hb14 => ?_)
        · skip
          refine xg_iloadn 56 dX8_makeRoom_55 rfl rfl rfl ?_
          subst hX
          refine xg_ireturn dX8_makeRoom_56 rfl ⟨Nat.le_refl _, Nat.le_refl _⟩ ?_
          have hcf : sCrowd W = false := by rw [hcd]; exact decide_eq_false (by have e9 : I2 (a + 45 + 2) 0 = sMany (wS W 11 (w 11)) 0 := hm0; omega)
          have e : sStl sFu w 0 = (W, (s : Int)) := by rw [← hse, sStl, if_neg (by unfold sCanB; rw [hcf, Bool.false_and]; decide)]; unfold sCan; rw [if_neg (by rw [hcf]; decide)]
          rw [e]
          exact ⟨rfl, F2, I2, P2, Y2, rfl, hS2, hF2⟩
        · skip
          refine xg_aloadn 18 dX8_makeRoom_17 rfl rfl rfl ?_
          refine xg_callVq 21 8 [] _ kv_X8_beginJob ⟨_, _, rfl⟩ kl_RX8_242 dX8_makeRoom_18 rfl (by assumption) (by omega) rfl rfl (Nat.le_of_ble_eq_true rfl) (by omega) ⟨Nat.le_refl _, Nat.le_refl _⟩ (ct_X8_beginJob hS2 hVI.2.1) rfl (fun F3 I3 P3 Y3 hS3 hF3 => ?_)
          rw [c11_beg hW.1.1.2.1 hW.1.2.1] at hS3
          obtain ⟨_, _, ⟨σ, hB3⟩, -⟩ := id hS3
          obtain ⟨⟨⟨-, -, ⟨y4, y5⟩, -⟩, -⟩, ⟨-, -, y0, -⟩, -⟩ := id hB3
          have y16 : wS (sBeg W) 11 (w 11) 16 = sBeg W 16 := wS_ne _ _ _ (by omega)
          have hBI := wInv_beg hW
          have hBV := hBI.c11 (x := w 11) hI.2.2.2
          have hb16 := hBI.1.1.2.2.2.2.2.2.2.2.2.2.2.1
          have hcr : sCrowd W = true := by rw [hcd]; exact decide_eq_true (by have e9 : I2 (a + 45 + 2) 0 = sMany (wS W 11 (w 11)) 0 := hm0; omega)
          have hcan : sCan W = sBeg W := by unfold sCan; rw [if_pos hcr]
          refine xg_aloadn 22 dX8_makeRoom_21 rfl rfl rfl ?_
          refine xg_getP 25 kf_RX8_28 dX8_makeRoom_22 rfl (by assumption) (by assumption) ?_
          refine xg_getI 28 kf_RX8_143 dX8_makeRoom_25 rfl (by assumption) ?_
          refine xg_ifne 33 31 dX8_makeRoom_28 rfl rfl (by omega) (fun hb28 => ?_) (fun hb28 => ?_)
          · skip
            refine xg_aloadn 34 dX8_makeRoom_33 rfl rfl rfl ?_
            refine xg_iconst 35 dX8_makeRoom_34 rfl ?_
            refine xg_callVq 38 8 [_] _ kv_X8_paidSlice ⟨_, _, rfl⟩ kl_RX8_245 dX8_makeRoom_35 rfl (by assumption) (by omega) rfl rfl (Nat.le_of_ble_eq_true rfl) (by omega) ⟨Nat.le_refl _, Nat.le_refl _⟩ (ct_X8_paidSlice hS3 hBV.2.1 hBV.2.2.1 (y16.trans (by omega)) (by omega)) rfl (fun F4 I4 P4 Y4 hS4 hF4 => ?_)
            rw [c11_paid hBI.1.1.2.1 hBI.1.2.1] at hS4
            obtain ⟨_, _, ⟨τ, hB4⟩, -⟩ := id hS4
            obtain ⟨⟨⟨⟨x0, -⟩, -, -, -, ⟨x7, x8⟩, -⟩, -⟩, ⟨-, ⟨-, -, -, x3, -⟩, -⟩, -⟩ := id hB4
            have hbb : sCanB W = true := by unfold sCanB; rw [hcr, show sBeg W 16 = 1 by omega]; rfl
            have hPI := wInv_paid hBI (show sBeg W 16 = 1 by omega) 1
            have hp10 := hPI.1.1.2.2.2.2.2.2.2.2.1 10 (by omega) (by omega)
            have x10 : wS (sPaid (sBeg W) 1) 11 (w 11) 10 = sPaid (sBeg W) 1 10 := wS_ne _ _ _ (by omega)
            refine xg_pop 39 dX8_makeRoom_38 rfl rfl ?_
            refine xg_aloadn 40 dX8_makeRoom_39 rfl rfl rfl ?_
            refine xg_getP 43 kf_RX8_42 dX8_makeRoom_40 rfl (by assumption) (by assumption) ?_
            refine xg_callV 46 10 [] _ kv_X10_addStall ⟨_, _, rfl⟩ kl_RX8_249 dX8_makeRoom_43 rfl (by assumption) (by omega) rfl rfl (Nat.le_of_ble_eq_true rfl) (by omega) ⟨Nat.le_refl _, Nat.le_refl _⟩ (ct_X10_addStall x8 (by rw [x3, x10]; exact hp10)) rfl ?_
            rw [x3, x10]
            have hS5 := hS4.tal (k := 3) (v := min 9999 (sPaid (sBeg W) 1 10 + 1)) (by omega) (by omega)
            have e5 : wS (wS (sPaid (sBeg W) 1) 11 (w 11)) (7 + ((3 : Nat) : Int)) (min 9999 (sPaid (sBeg W) 1 10 + 1)) = wS (sStp W (s : Int)) 11 (w 11) := by
              unfold sStp; rw [hcan, wS_wS]; exact wS_com _ (by omega) _ _
            rw [e5] at hS5
            refine xg_iinc 49 _ dX8_makeRoom_46 rfl rfl rfl rfl (by decide) (Or.inr rfl) ?_
            refine xg_iinc 52 _ dX8_makeRoom_49 rfl rfl rfl rfl (by decide) (Or.inr rfl) ?_
            refine xg_goto 4 dX8_makeRoom_52 rfl ?_
            exact xg_weak _ (xle_s rfl (xle_s rfl (xle_s rfl xle_0))) (ih (s + 1) f _ _ _ _ _ (by omega) (by rw [← hse, sStl, if_pos hbb]; rfl) (hsp hbb) (wInv_stp hW hbb (by omega)).1 hS5 (((hF2.tr hF3).tr hF4).tr (SF.uF (by omega))) (by omega))
          · skip
            refine xg_iloadn 32 dX8_makeRoom_31 rfl rfl rfl ?_
            subst hX
            refine xg_ireturn dX8_makeRoom_32 rfl ⟨Nat.le_refl _, Nat.le_refl _⟩ ?_
            have hbf : sCanB W = false := by unfold sCanB; rw [show sBeg W 16 = 0 by omega]; simp
            have e : sStl sFu w 0 = (sBeg W, (s : Int)) := by rw [← hse, sStl, if_neg (by rw [hbf]; decide), hcan]
            rw [e]
            exact ⟨rfl, F3, I3, P3, Y3, rfl, hS3, hF2.tr hF3⟩
  exact xg_weak _ (xle_s rfl (xle_s rfl (xle_s rfl xle_0))) (loop4 (sFu + 1) 0 sFu w _ _ _ _ (by omega) rfl hst hI (by rw [wS_id]; exact hS) SF.rf (by omega))

