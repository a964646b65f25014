/-! an act is remembered -/
theorem dX11_remember_0 : decode cX11_remember 0 = .ok (.aload_n 0, 1) := by decide +kernel
theorem dX11_remember_1 : decode cX11_remember 1 = .ok (.getfield 40, 3) := by decide +kernel
theorem dX11_remember_4 : decode cX11_remember 4 = .ok (.bipush 12, 2) := by decide +kernel
theorem dX11_remember_6 : decode cX11_remember 6 = .ok (.if_icmp .lt 26, 3) := by decide +kernel
theorem dX11_remember_9 : decode cX11_remember 9 = .ok (.aload_n 0, 1) := by decide +kernel
theorem dX11_remember_10 : decode cX11_remember 10 = .ok (.aload_n 0, 1) := by decide +kernel
theorem dX11_remember_11 : decode cX11_remember 11 = .ok (.getfield 37, 3) := by decide +kernel
theorem dX11_remember_14 : decode cX11_remember 14 = .ok (.iconst 1, 1) := by decide +kernel
theorem dX11_remember_15 : decode cX11_remember 15 = .ok (.iadd, 1) := by decide +kernel
theorem dX11_remember_16 : decode cX11_remember 16 = .ok (.bipush 12, 2) := by decide +kernel
theorem dX11_remember_18 : decode cX11_remember 18 = .ok (.irem, 1) := by decide +kernel
theorem dX11_remember_19 : decode cX11_remember 19 = .ok (.putfield 37, 3) := by decide +kernel
theorem dX11_remember_22 : decode cX11_remember 22 = .ok (.aload_n 0, 1) := by decide +kernel
theorem dX11_remember_23 : decode cX11_remember 23 = .ok (.dup, 1) := by decide +kernel
theorem dX11_remember_24 : decode cX11_remember 24 = .ok (.getfield 40, 3) := by decide +kernel
theorem dX11_remember_27 : decode cX11_remember 27 = .ok (.iconst 1, 1) := by decide +kernel
theorem dX11_remember_28 : decode cX11_remember 28 = .ok (.isub, 1) := by decide +kernel
theorem dX11_remember_29 : decode cX11_remember 29 = .ok (.putfield 40, 3) := by decide +kernel
theorem dX11_remember_32 : decode cX11_remember 32 = .ok (.aload_n 0, 1) := by decide +kernel
theorem dX11_remember_33 : decode cX11_remember 33 = .ok (.getfield 37, 3) := by decide +kernel
theorem dX11_remember_36 : decode cX11_remember 36 = .ok (.aload_n 0, 1) := by decide +kernel
theorem dX11_remember_37 : decode cX11_remember 37 = .ok (.getfield 40, 3) := by decide +kernel
theorem dX11_remember_40 : decode cX11_remember 40 = .ok (.iadd, 1) := by decide +kernel
theorem dX11_remember_41 : decode cX11_remember 41 = .ok (.bipush 12, 2) := by decide +kernel
theorem dX11_remember_43 : decode cX11_remember 43 = .ok (.irem, 1) := by decide +kernel
theorem dX11_remember_44 : decode cX11_remember 44 = .ok (.istore_n 1, 1) := by decide +kernel
theorem dX11_remember_45 : decode cX11_remember 45 = .ok (.aload_n 0, 1) := by decide +kernel
theorem dX11_remember_46 : decode cX11_remember 46 = .ok (.getfield 33, 3) := by decide +kernel
theorem dX11_remember_49 : decode cX11_remember 49 = .ok (.iload_n 1, 1) := by decide +kernel
theorem dX11_remember_50 : decode cX11_remember 50 = .ok (.aaload, 1) := by decide +kernel
theorem dX11_remember_51 : decode cX11_remember 51 = .ok (.ifnonnull 16, 3) := by decide +kernel
theorem dX11_remember_54 : decode cX11_remember 54 = .ok (.aload_n 0, 1) := by decide +kernel
theorem dX11_remember_55 : decode cX11_remember 55 = .ok (.getfield 33, 3) := by decide +kernel
theorem dX11_remember_58 : decode cX11_remember 58 = .ok (.iload_n 1, 1) := by decide +kernel
theorem dX11_remember_59 : decode cX11_remember 59 = .ok (.new 20, 3) := by decide +kernel
theorem dX11_remember_62 : decode cX11_remember 62 = .ok (.dup, 1) := by decide +kernel
theorem dX11_remember_63 : decode cX11_remember 63 = .ok (.invokespecial 22, 3) := by decide +kernel
theorem dX11_remember_66 : decode cX11_remember 66 = .ok (.aastore, 1) := by decide +kernel
theorem dX11_remember_67 : decode cX11_remember 67 = .ok (.aload_n 0, 1) := by decide +kernel
theorem dX11_remember_68 : decode cX11_remember 68 = .ok (.getfield 33, 3) := by decide +kernel
theorem dX11_remember_71 : decode cX11_remember 71 = .ok (.iload_n 1, 1) := by decide +kernel
theorem dX11_remember_72 : decode cX11_remember 72 = .ok (.aaload, 1) := by decide +kernel
theorem dX11_remember_73 : decode cX11_remember 73 = .ok (.aload_n 0, 1) := by decide +kernel
theorem dX11_remember_74 : decode cX11_remember 74 = .ok (.getfield 23, 3) := by decide +kernel
theorem dX11_remember_77 : decode cX11_remember 77 = .ok (.invokevirtual 81, 3) := by decide +kernel
theorem dX11_remember_80 : decode cX11_remember 80 = .ok (.aload_n 0, 1) := by decide +kernel
theorem dX11_remember_81 : decode cX11_remember 81 = .ok (.dup, 1) := by decide +kernel
theorem dX11_remember_82 : decode cX11_remember 82 = .ok (.getfield 40, 3) := by decide +kernel
theorem dX11_remember_85 : decode cX11_remember 85 = .ok (.iconst 1, 1) := by decide +kernel
theorem dX11_remember_86 : decode cX11_remember 86 = .ok (.iadd, 1) := by decide +kernel
theorem dX11_remember_87 : decode cX11_remember 87 = .ok (.putfield 40, 3) := by decide +kernel
theorem dX11_remember_90 : decode cX11_remember 90 = .ok (.return_, 1) := by decide +kernel
set_option maxHeartbeats 4000000 in
set_option maxRecDepth 100000 in
theorem ct_X11_remember_o {E : xE} {z : Nat} {T : Nat → Nat × Int} {F : Nat → Nat → Int} {I : Nat → Int → Int} {P : Nat → Nat → Option Nat} {Y : Nat → Int → Option Nat} {o m : Nat} {ws : Nat → Option wWo} (hL : LK T F I P Y o m z ws) (hE : ∀ u : State, E.2.2.2.2 u → xOld u) {a : Nat} {u : wWo} (h3 : P o 3 = some a) (hu : ws 0 = some u) (hf : 0 ≤ F o 7 ∧ F o 7 < 12) (hc8 : 0 ≤ F o 8 ∧ F o 8 < 12) {k : Nat} (hY : Y (o + 116) (((F o 7) + (F o 8)) % 12) = some k) : Ct E 3 mX11_remember 57 2100 [.ref o] (z, T, F, I, P, Y) (fun v h' => v = none ∧ ∃ (z' : Nat) (T' : Nat → Nat × Int) (F' : Nat → Nat → Int) (I' : Nat → Int → Int) (P' : Nat → Nat → Option Nat) (Y' : Nat → Int → Option Nat), h' = (z', T', F', I', P', Y') ∧ z ≤ z' ∧ LK T' F' I' P' Y' o m z' (wsU ws ((((F o 7) + (F o 8)) % 12).toNat + 3) (some u)) ∧ P' o = P o ∧ (∀ j : Int, j ≠ (((F o 7) + (F o 8)) % 12) → Y' (o + 116) j = Y (o + 116) j) ∧ (∃ x : Nat, Y' (o + 116) (((F o 7) + (F o 8)) % 12) = some x) ∧ F' o = upF (upF F o 7 (F o 7)) o 8 ((F o 8) + 1) o ∧ I' (o + 1) = I (o + 1) ∧ LF m T F I P Y T' F' I' P' Y') := by
  have h1 : (T o).1 = 12 := hL.1.1
  obtain ⟨h6, h61, h62⟩ := hL.1.2.2.1
  have hz := hL.2.2.2.2.2.1
  have hlG := hL.fr (F' := F) (I' := I) (fun b hb => by rfl) (fun _ _ => rfl) hL.2.2.2.2.1
  have hG := hlG.1
  have g7 : F o 7 = (F o 7) := by rfl
  have g8 : F o 8 = (F o 8) := by rfl
  have hsl : lSl o P Y ((((F o 7) + (F o 8)) % 12).toNat + 3) = Y (o + 116) (((F o 7) + (F o 8)) % 12) := by
    unfold lSl
    rw [if_neg (by omega), if_neg (by omega), if_neg (by omega), show ((((((F o 7) + (F o 8)) % 12)).toNat + 3 : Nat) : Int) - 3 = (((F o 7) + (F o 8)) % 12) by omega]
  have hlt : ((((F o 7) + (F o 8)) % 12).toNat + 3) < 15 := by omega
  have hc := hG.cpy (s0 := ((((F o 7) + (F o 8)) % 12).toNat + 3)) (s1 := 0) hlt (by decide) (by omega) (hsl.trans hY) h3 hu (E := E)
  have k1 : (T k).1 = 9 := (hL.2.2.1 ((((F o 7) + (F o 8)) % 12).toNat + 3) k hlt (hsl.trans hY)).1.1.1
  refine Ct.of [some (.ref o), none] kt_X11_remember rfl (Nat.le_of_ble_eq_true rfl) rfl (fun d hd => ?_)
  generalize hX : xN E _ _ _ = X
  refine xg_aloadn 1 dX11_remember_0 rfl rfl rfl ?_
  refine xg_getI 4 kf_RX11_40 dX11_remember_1 rfl h1 ?_
  refine xg_bipush 6 dX11_remember_4 rfl (by decide) ?_
  refine xg_iclt 32 9 dX11_remember_6 rfl rfl (by omega) (fun hb6 => ?_) (fun hb6 => ?_)
  · skip
    refine xg_aloadn 33 dX11_remember_32 rfl rfl rfl ?_
    refine xg_getI 36 kf_RX11_37 dX11_remember_33 rfl h1 ?_
    rw [g7]
    refine xg_aloadn 37 dX11_remember_36 rfl rfl rfl ?_
    refine xg_getI 40 kf_RX11_40 dX11_remember_37 rfl h1 ?_
    rw [g8]
    refine xg_iadd 41 dX11_remember_40 rfl ?_
    refine xg_bipush 43 dX11_remember_41 rfl (by decide) ?_
    refine xg_irem 44 dX11_remember_43 rfl (by omega) ?_
    refine xg_istoren 45 _ dX11_remember_44 rfl rfl rfl (by decide) (Or.inr rfl) ?_
    refine xg_aloadn 46 dX11_remember_45 rfl rfl rfl ?_
    refine xg_getP 49 kf_RX11_33 dX11_remember_46 rfl h1 h6 ?_
    refine xg_iloadn 50 dX11_remember_49 rfl rfl rfl ?_
    refine xg_sald 51 dX11_remember_50 rfl h61 (by rw [h62]; omega) hY rfl ?_
    refine xg_ifnn 67 dX11_remember_51 rfl ?_
    refine xg_aloadn 68 dX11_remember_67 rfl rfl rfl ?_
    refine xg_getP 71 kf_RX11_33 dX11_remember_68 rfl h1 h6 ?_
    refine xg_iloadn 72 dX11_remember_71 rfl rfl rfl ?_
    refine xg_sald 73 dX11_remember_72 rfl h61 (by rw [h62]; omega) hY rfl ?_
    refine xg_aloadn 74 dX11_remember_73 rfl rfl rfl ?_
    refine xg_getP 77 kf_RX11_23 dX11_remember_74 rfl h1 h3 ?_
    refine xg_callVe 80 8 [_] _ kv_X8_copyFrom ⟨_, _, rfl⟩ kl_RX11_81 dX11_remember_77 rfl k1 (by omega) rfl rfl (Nat.le_of_ble_eq_true rfl) (by omega) ⟨by first | decide | omega, by first | decide | omega⟩ (hc.1) rfl (fun v9 h9 e9 => ?_)
    obtain ⟨rfl, F9, I9, P9, rfl, hS9, hF9, h169⟩ := e9
    obtain ⟨c1, c2, c3, c4, c5⟩ := hG.copy (s0 := ((((F o 7) + (F o 8)) % 12).toNat + 3)) (s1 := 0) hlt (by decide) (by omega) (hsl.trans hY) h3 hu hS9 hc.2 hF9 h169
    refine xg_aloadn 81 dX11_remember_80 rfl rfl rfl ?_
    refine xg_dup 82 dX11_remember_81 rfl rfl ?_
    refine xg_getI 85 kf_RX11_40 dX11_remember_82 rfl h1 ?_
    refine xg_iconst 86 dX11_remember_85 rfl ?_
    refine xg_iadd 87 dX11_remember_86 rfl ?_
    refine xg_putI 90 kf_RX11_40 dX11_remember_87 rfl h1 ?_
    subst hX
    refine xg_return dX11_remember_90 rfl ⟨by first | decide | omega, by first | decide | omega⟩ ?_
    have c3g : F9 o = F o := c3
    have c6 := c1.fr (F' := upF F9 o 8 (F9 o 8 + 1)) (I' := I9) (fun b hb => by rw [upF_na _ _ _ _ (by omega)]) (fun _ _ => rfl) c1.2.2.2.2.1
    have mm : LF m T F I P Y _ _ _ _ _ := fun b b0 b1 => ⟨rfl, (hlG.2 b b0 b1).2.1, rfl, rfl, rfl⟩
    refine ⟨rfl, _, _, _, _, _, _, rfl, Nat.le_refl _, c6.1, c2, fun j _ => rfl, ⟨k, hY⟩, ?_, c4, fun b b0 b1 => ?_⟩
    · rw [c3g, g8]; funext j; unfold upF
      by_cases e8 : j = 8
      · subst e8; simp
      · simp only [e8, and_false, if_false, c3g]; by_cases e7 : j = 7 <;> simp [e7]
    · have e1 := mm b b0 b1
      have e2 := c5 b b0 b1
      have e3 := c6.2 b b0 b1
      exact ⟨e1.1, e3.2.1.trans (e2.2.1.trans e1.2.1), e2.2.2.1.trans e1.2.2.1, e2.2.2.2.1.trans e1.2.2.2.1, e1.2.2.2.2⟩
  · exfalso; omega

set_option maxHeartbeats 4000000 in
set_option maxRecDepth 100000 in
theorem ct_X11_remember_n {E : xE} {z : Nat} {T : Nat → Nat × Int} {F : Nat → Nat → Int} {I : Nat → Int → Int} {P : Nat → Nat → Option Nat} {Y : Nat → Int → Option Nat} {o m : Nat} {ws : Nat → Option wWo} (hL : LK T F I P Y o m z ws) (hE : ∀ u : State, E.2.2.2.2 u → xOld u) {a : Nat} {u : wWo} (h3 : P o 3 = some a) (hu : ws 0 = some u) (hf : 0 ≤ F o 7 ∧ F o 7 < 12) (hc8 : 0 ≤ F o 8 ∧ F o 8 < 12) (hY : Y (o + 116) (((F o 7) + (F o 8)) % 12) = none) : Ct E 3 mX11_remember 57 2100 [.ref o] (z, T, F, I, P, Y) (fun v h' => v = none ∧ ∃ (z' : Nat) (T' : Nat → Nat × Int) (F' : Nat → Nat → Int) (I' : Nat → Int → Int) (P' : Nat → Nat → Option Nat) (Y' : Nat → Int → Option Nat), h' = (z', T', F', I', P', Y') ∧ z ≤ z' ∧ LK T' F' I' P' Y' o m z' (wsU ws ((((F o 7) + (F o 8)) % 12).toNat + 3) (some u)) ∧ P' o = P o ∧ (∀ j : Int, j ≠ (((F o 7) + (F o 8)) % 12) → Y' (o + 116) j = Y (o + 116) j) ∧ (∃ x : Nat, Y' (o + 116) (((F o 7) + (F o 8)) % 12) = some x) ∧ F' o = upF (upF F o 7 (F o 7)) o 8 ((F o 8) + 1) o ∧ I' (o + 1) = I (o + 1) ∧ LF m T F I P Y T' F' I' P' Y') := by
  have h1 : (T o).1 = 12 := hL.1.1
  obtain ⟨h6, h61, h62⟩ := hL.1.2.2.1
  have hz := hL.2.2.2.2.2.1
  have hlG := hL.fr (F' := F) (I' := I) (fun b hb => by rfl) (fun _ _ => rfl) hL.2.2.2.2.1
  have hG := hlG.1
  have g7 : F o 7 = (F o 7) := by rfl
  have g8 : F o 8 = (F o 8) := by rfl
  have hsl : lSl o P Y ((((F o 7) + (F o 8)) % 12).toNat + 3) = Y (o + 116) (((F o 7) + (F o 8)) % 12) := by
    unfold lSl
    rw [if_neg (by omega), if_neg (by omega), if_neg (by omega), show ((((((F o 7) + (F o 8)) % 12)).toNat + 3 : Nat) : Int) - 3 = (((F o 7) + (F o 8)) % 12) by omega]
  have hlt : ((((F o 7) + (F o 8)) % 12).toNat + 3) < 15 := by omega
  refine Ct.of [some (.ref o), none] kt_X11_remember rfl (Nat.le_of_ble_eq_true rfl) rfl (fun d hd => ?_)
  generalize hX : xN E _ _ _ = X
  refine xg_aloadn 1 dX11_remember_0 rfl rfl rfl ?_
  refine xg_getI 4 kf_RX11_40 dX11_remember_1 rfl h1 ?_
  refine xg_bipush 6 dX11_remember_4 rfl (by decide) ?_
  refine xg_iclt 32 9 dX11_remember_6 rfl rfl (by omega) (fun hb6 => ?_) (fun hb6 => ?_)
  · skip
    refine xg_aloadn 33 dX11_remember_32 rfl rfl rfl ?_
    refine xg_getI 36 kf_RX11_37 dX11_remember_33 rfl h1 ?_
    rw [g7]
    refine xg_aloadn 37 dX11_remember_36 rfl rfl rfl ?_
    refine xg_getI 40 kf_RX11_40 dX11_remember_37 rfl h1 ?_
    rw [g8]
    refine xg_iadd 41 dX11_remember_40 rfl ?_
    refine xg_bipush 43 dX11_remember_41 rfl (by decide) ?_
    refine xg_irem 44 dX11_remember_43 rfl (by omega) ?_
    refine xg_istoren 45 _ dX11_remember_44 rfl rfl rfl (by decide) (Or.inr rfl) ?_
    refine xg_aloadn 46 dX11_remember_45 rfl rfl rfl ?_
    refine xg_getP 49 kf_RX11_33 dX11_remember_46 rfl h1 h6 ?_
    refine xg_iloadn 50 dX11_remember_49 rfl rfl rfl ?_
    refine xg_sald 51 dX11_remember_50 rfl h61 (by rw [h62]; omega) hY rfl ?_
    refine xg_ifnn0 54 dX11_remember_51 rfl ?_
    refine xg_aloadn 55 dX11_remember_54 rfl rfl rfl ?_
    refine xg_getP 58 kf_RX11_33 dX11_remember_55 rfl h1 h6 ?_
    refine xg_iloadn 59 dX11_remember_58 rfl rfl rfl ?_
    refine xg_new 62 kc_8 kd_8 kn_RX11_20 kw_RX8 dX11_remember_59 rfl ⟨by first | decide | omega, by first | decide | omega⟩ ?_
    refine xg_dup 63 dX11_remember_62 rfl rfl ?_
    refine xg_callIs 66 [] _ ki_X8_init kl_RX11_22 dX11_remember_63 rfl rfl rfl (Nat.le_of_ble_eq_true rfl) (by omega) ⟨by first | decide | omega, by first | decide | omega⟩ (ct_X8_init hE (by rw [upT_at]) rfl (fun j => by rw [up0_at]) (by rw [up0_at])) (fun T1 F1 I1 P1 Y1 hN1 hL1 => ?_)
    have hL2 : Lo z T F I P Y T1 F1 I1 P1 Y1 := fun b hb => by
      have e := hL1 b hb
      simp (disch := omega) only [upT_na, up0_na] at e
      exact e
    have q1 : (T1 o).1 = 12 := by rw [(hL2 o (by omega)).1]; exact h1
    have q61 : (T1 (o + 116)).1 = 18 := by rw [(hL2 (o + 116) (by omega)).1]; exact h61
    have q62 : (T1 (o + 116)).2 = 12 := by rw [(hL2 (o + 116) (by omega)).1]; exact h62
    have k1 : (T1 z).1 = 9 := hN1.1.1.1
    have r3 : P1 o 3 = some a := by rw [(hL2 o (by omega)).2.2.2.1]; exact h3
    have r6 : P1 o 6 = some (o + 116) := by rw [(hL2 o (by omega)).2.2.2.1]; exact h6
    have rY : upY Y1 (o + 116) (((F o 7) + (F o 8)) % 12) (some z) (o + 116) (((F o 7) + (F o 8)) % 12) = some z := upY_at _ _ _ _
    have hsl2 : lSl o P1 (upY Y1 (o + 116) (((F o 7) + (F o 8)) % 12) (some z)) ((((F o 7) + (F o 8)) % 12).toNat + 3) = some z := by
      unfold lSl
      rw [if_neg (by omega), if_neg (by omega), if_neg (by omega), show ((((((F o 7) + (F o 8)) % 12)).toNat + 3 : Nat) : Int) - 3 = (((F o 7) + (F o 8)) % 12) by omega]
      exact rY
    obtain ⟨hK, hM⟩ := hG.new (s0 := ((((F o 7) + (F o 8)) % 12).toNat + 3)) (P2 := P1) (Y2 := upY Y1 (o + 116) (((F o 7) + (F o 8)) % 12) (some z)) hlt (hsl.trans hY) hL2 hN1.sr.sw hN1.2.2.2.2.1 (fun s hs9 => by
      by_cases e2 : s = ((((F o 7) + (F o 8)) % 12).toNat + 3)
      · rw [if_pos e2, e2]; exact hsl2
      · rw [if_neg e2]; unfold lSl
        rw [(hL2 o (by omega)).2.2.2.1]
        by_cases e3 : s < 3
        · rcases (show s = 0 ∨ s = 1 ∨ s = 2 by omega) with e4 | e4 | e4 <;> subst e4 <;> rfl
        · rw [if_neg (by omega), if_neg (by omega), if_neg (by omega), if_neg (by omega), if_neg (by omega), if_neg (by omega), upY_nk _ _ _ _ (by omega), (hL2 (o + 116) (by omega)).2.2.2.2]) (fun _ _ => rfl) (fun _ _ _ _ => rfl) (fun b hb => upY_na _ _ _ _ hb)
    have hc := hK.cpy (s0 := ((((F o 7) + (F o 8)) % 12).toNat + 3)) (s1 := 0) hlt (by decide) (by omega) hsl2 r3 hu (E := E)
    refine xg_sast 67 dX11_remember_66 rfl q61 k1 (by rw [q62]; omega) ?_
    refine xg_aloadn 68 dX11_remember_67 rfl rfl rfl ?_
    refine xg_getP 71 kf_RX11_33 dX11_remember_68 rfl q1 r6 ?_
    refine xg_iloadn 72 dX11_remember_71 rfl rfl rfl ?_
    refine xg_sald 73 dX11_remember_72 rfl q61 (by rw [q62]; omega) rY rfl ?_
    refine xg_aloadn 74 dX11_remember_73 rfl rfl rfl ?_
    refine xg_getP 77 kf_RX11_23 dX11_remember_74 rfl q1 r3 ?_
    refine xg_callVe 80 8 [_] _ kv_X8_copyFrom ⟨_, _, rfl⟩ kl_RX11_81 dX11_remember_77 rfl k1 (by omega) rfl rfl (Nat.le_of_ble_eq_true rfl) (by omega) ⟨by first | decide | omega, by first | decide | omega⟩ (hc.1) rfl (fun v9 h9 e9 => ?_)
    obtain ⟨rfl, F9, I9, P9, rfl, hS9, hF9, h169⟩ := e9
    obtain ⟨c1, c2, c3, c4, c5⟩ := hK.copy (s0 := ((((F o 7) + (F o 8)) % 12).toNat + 3)) (s1 := 0) hlt (by decide) (by omega) hsl2 r3 hu hS9 hc.2 hF9 h169
    refine xg_aloadn 81 dX11_remember_80 rfl rfl rfl ?_
    refine xg_dup 82 dX11_remember_81 rfl rfl ?_
    refine xg_getI 85 kf_RX11_40 dX11_remember_82 rfl q1 ?_
    refine xg_iconst 86 dX11_remember_85 rfl ?_
    refine xg_iadd 87 dX11_remember_86 rfl ?_
    refine xg_putI 90 kf_RX11_40 dX11_remember_87 rfl q1 ?_
    subst hX
    refine xg_return dX11_remember_90 rfl ⟨by first | decide | omega, by first | decide | omega⟩ ?_
    have c3g : F9 o = F o := c3.trans (hL2 o (by omega)).2.1
    have c6 := c1.fr (F' := upF F9 o 8 (F9 o 8 + 1)) (I' := I9) (fun b hb => by rw [upF_na _ _ _ _ (by omega)]) (fun _ _ => rfl) c1.2.2.2.2.1
    have mm : LF m T F I P Y _ _ _ _ _ := fun b b0 b1 => ⟨(hM b b0 b1).1, (hM b b0 b1).2.1.trans (hlG.2 b b0 b1).2.1, (hM b b0 b1).2.2.1, (hM b b0 b1).2.2.2.1, (hM b b0 b1).2.2.2.2⟩
    refine ⟨rfl, _, _, _, _, _, _, rfl, by omega, c6.1, c2.trans (hL2 o (by omega)).2.2.2.1, fun j hj => by rw [upY_nk _ _ _ _ hj, (hL2 (o + 116) (by omega)).2.2.2.2], ⟨z, rY⟩, ?_, c4.trans (hL2 (o + 1) (by omega)).2.2.1, fun b b0 b1 => ?_⟩
    · rw [c3g, g8]; funext j; unfold upF
      by_cases e8 : j = 8
      · subst e8; simp
      · simp only [e8, and_false, if_false, c3g]; by_cases e7 : j = 7 <;> simp [e7]
    · have e1 := mm b b0 b1
      have e2 := c5 b b0 b1
      have e3 := c6.2 b b0 b1
      exact ⟨e1.1, e3.2.1.trans (e2.2.1.trans e1.2.1), e2.2.2.1.trans e1.2.2.1, e2.2.2.2.1.trans e1.2.2.2.1, e1.2.2.2.2⟩
  · exfalso; omega

set_option maxHeartbeats 4000000 in
set_option maxRecDepth 100000 in
theorem ct_X11_remember_fo {E : xE} {z : Nat} {T : Nat → Nat × Int} {F : Nat → Nat → Int} {I : Nat → Int → Int} {P : Nat → Nat → Option Nat} {Y : Nat → Int → Option Nat} {o m : Nat} {ws : Nat → Option wWo} (hL : LK T F I P Y o m z ws) (hE : ∀ u : State, E.2.2.2.2 u → xOld u) {a : Nat} {u : wWo} (h3 : P o 3 = some a) (hu : ws 0 = some u) (hf : 0 ≤ F o 7 ∧ F o 7 < 12) (hc8 : F o 8 = 12) {k : Nat} (hY : Y (o + 116) ((((F o 7 + 1) % 12) + 11) % 12) = some k) : Ct E 3 mX11_remember 57 2100 [.ref o] (z, T, F, I, P, Y) (fun v h' => v = none ∧ ∃ (z' : Nat) (T' : Nat → Nat × Int) (F' : Nat → Nat → Int) (I' : Nat → Int → Int) (P' : Nat → Nat → Option Nat) (Y' : Nat → Int → Option Nat), h' = (z', T', F', I', P', Y') ∧ z ≤ z' ∧ LK T' F' I' P' Y' o m z' (wsU ws (((((F o 7 + 1) % 12) + 11) % 12).toNat + 3) (some u)) ∧ P' o = P o ∧ (∀ j : Int, j ≠ ((((F o 7 + 1) % 12) + 11) % 12) → Y' (o + 116) j = Y (o + 116) j) ∧ (∃ x : Nat, Y' (o + 116) ((((F o 7 + 1) % 12) + 11) % 12) = some x) ∧ F' o = upF (upF F o 7 ((F o 7 + 1) % 12)) o 8 (11 + 1) o ∧ I' (o + 1) = I (o + 1) ∧ LF m T F I P Y T' F' I' P' Y') := by
  have h1 : (T o).1 = 12 := hL.1.1
  obtain ⟨h6, h61, h62⟩ := hL.1.2.2.1
  have hz := hL.2.2.2.2.2.1
  have hlG := hL.fr (F' := (upF (upF F o 7 ((F o 7 + 1) % 12)) o 8 11)) (I' := I) (fun b hb => by rw [upF_na _ _ _ _ (by omega), upF_na _ _ _ _ (by omega)]) (fun _ _ => rfl) hL.2.2.2.2.1
  have hG := hlG.1
  have g7 : (upF (upF F o 7 ((F o 7 + 1) % 12)) o 8 11) o 7 = ((F o 7 + 1) % 12) := by rw [upF_nk _ _ _ _ (by decide), upF_at]
  have g8 : (upF (upF F o 7 ((F o 7 + 1) % 12)) o 8 11) o 8 = 11 := by rw [upF_at]
  have hsl : lSl o P Y (((((F o 7 + 1) % 12) + 11) % 12).toNat + 3) = Y (o + 116) ((((F o 7 + 1) % 12) + 11) % 12) := by
    unfold lSl
    rw [if_neg (by omega), if_neg (by omega), if_neg (by omega), show (((((((F o 7 + 1) % 12) + 11) % 12)).toNat + 3 : Nat) : Int) - 3 = ((((F o 7 + 1) % 12) + 11) % 12) by omega]
  have hlt : (((((F o 7 + 1) % 12) + 11) % 12).toNat + 3) < 15 := by omega
  have hc := hG.cpy (s0 := (((((F o 7 + 1) % 12) + 11) % 12).toNat + 3)) (s1 := 0) hlt (by decide) (by omega) (hsl.trans hY) h3 hu (E := E)
  have k1 : (T k).1 = 9 := (hL.2.2.1 (((((F o 7 + 1) % 12) + 11) % 12).toNat + 3) k hlt (hsl.trans hY)).1.1.1
  refine Ct.of [some (.ref o), none] kt_X11_remember rfl (Nat.le_of_ble_eq_true rfl) rfl (fun d hd => ?_)
  generalize hX : xN E _ _ _ = X
  refine xg_aloadn 1 dX11_remember_0 rfl rfl rfl ?_
  refine xg_getI 4 kf_RX11_40 dX11_remember_1 rfl h1 ?_
  refine xg_bipush 6 dX11_remember_4 rfl (by decide) ?_
  refine xg_iclt 32 9 dX11_remember_6 rfl rfl (by omega) (fun hb6 => ?_) (fun hb6 => ?_)
  · exfalso; omega
  · skip
    refine xg_aloadn 10 dX11_remember_9 rfl rfl rfl ?_
    refine xg_aloadn 11 dX11_remember_10 rfl rfl rfl ?_
    refine xg_getI 14 kf_RX11_37 dX11_remember_11 rfl h1 ?_
    refine xg_iconst 15 dX11_remember_14 rfl ?_
    refine xg_iadd 16 dX11_remember_15 rfl ?_
    refine xg_bipush 18 dX11_remember_16 rfl (by decide) ?_
    refine xg_irem 19 dX11_remember_18 rfl (by omega) ?_
    refine xg_putI 22 kf_RX11_37 dX11_remember_19 rfl h1 ?_
    refine xg_aloadn 23 dX11_remember_22 rfl rfl rfl ?_
    refine xg_dup 24 dX11_remember_23 rfl rfl ?_
    refine xg_getI 27 kf_RX11_40 dX11_remember_24 rfl h1 ?_
    rw [upF_nk _ _ _ _ (by decide)]
    refine xg_iconst 28 dX11_remember_27 rfl ?_
    refine xg_isub 29 dX11_remember_28 rfl ?_
    refine xg_putI 32 kf_RX11_40 dX11_remember_29 rfl h1 ?_
    rw [show F o 8 - 1 = 11 by omega]
    refine xg_aloadn 33 dX11_remember_32 rfl rfl rfl ?_
    refine xg_getI 36 kf_RX11_37 dX11_remember_33 rfl h1 ?_
    rw [g7]
    refine xg_aloadn 37 dX11_remember_36 rfl rfl rfl ?_
    refine xg_getI 40 kf_RX11_40 dX11_remember_37 rfl h1 ?_
    rw [g8]
    refine xg_iadd 41 dX11_remember_40 rfl ?_
    refine xg_bipush 43 dX11_remember_41 rfl (by decide) ?_
    refine xg_irem 44 dX11_remember_43 rfl (by omega) ?_
    refine xg_istoren 45 _ dX11_remember_44 rfl rfl rfl (by decide) (Or.inr rfl) ?_
    refine xg_aloadn 46 dX11_remember_45 rfl rfl rfl ?_
    refine xg_getP 49 kf_RX11_33 dX11_remember_46 rfl h1 h6 ?_
    refine xg_iloadn 50 dX11_remember_49 rfl rfl rfl ?_
    refine xg_sald 51 dX11_remember_50 rfl h61 (by rw [h62]; omega) hY rfl ?_
    refine xg_ifnn 67 dX11_remember_51 rfl ?_
    refine xg_aloadn 68 dX11_remember_67 rfl rfl rfl ?_
    refine xg_getP 71 kf_RX11_33 dX11_remember_68 rfl h1 h6 ?_
    refine xg_iloadn 72 dX11_remember_71 rfl rfl rfl ?_
    refine xg_sald 73 dX11_remember_72 rfl h61 (by rw [h62]; omega) hY rfl ?_
    refine xg_aloadn 74 dX11_remember_73 rfl rfl rfl ?_
    refine xg_getP 77 kf_RX11_23 dX11_remember_74 rfl h1 h3 ?_
    refine xg_callVe 80 8 [_] _ kv_X8_copyFrom ⟨_, _, rfl⟩ kl_RX11_81 dX11_remember_77 rfl k1 (by omega) rfl rfl (Nat.le_of_ble_eq_true rfl) (by omega) ⟨by first | decide | omega, by first | decide | omega⟩ (hc.1) rfl (fun v9 h9 e9 => ?_)
    obtain ⟨rfl, F9, I9, P9, rfl, hS9, hF9, h169⟩ := e9
    obtain ⟨c1, c2, c3, c4, c5⟩ := hG.copy (s0 := (((((F o 7 + 1) % 12) + 11) % 12).toNat + 3)) (s1 := 0) hlt (by decide) (by omega) (hsl.trans hY) h3 hu hS9 hc.2 hF9 h169
    refine xg_aloadn 81 dX11_remember_80 rfl rfl rfl ?_
    refine xg_dup 82 dX11_remember_81 rfl rfl ?_
    refine xg_getI 85 kf_RX11_40 dX11_remember_82 rfl h1 ?_
    refine xg_iconst 86 dX11_remember_85 rfl ?_
    refine xg_iadd 87 dX11_remember_86 rfl ?_
    refine xg_putI 90 kf_RX11_40 dX11_remember_87 rfl h1 ?_
    subst hX
    refine xg_return dX11_remember_90 rfl ⟨by first | decide | omega, by first | decide | omega⟩ ?_
    have c3g : F9 o = (upF (upF F o 7 ((F o 7 + 1) % 12)) o 8 11) o := c3
    have c6 := c1.fr (F' := upF F9 o 8 (F9 o 8 + 1)) (I' := I9) (fun b hb => by rw [upF_na _ _ _ _ (by omega)]) (fun _ _ => rfl) c1.2.2.2.2.1
    have mm : LF m T F I P Y _ _ _ _ _ := fun b b0 b1 => ⟨rfl, (hlG.2 b b0 b1).2.1, rfl, rfl, rfl⟩
    refine ⟨rfl, _, _, _, _, _, _, rfl, Nat.le_refl _, c6.1, c2, fun j _ => rfl, ⟨k, hY⟩, ?_, c4, fun b b0 b1 => ?_⟩
    · rw [c3g, g8]; funext j; unfold upF
      by_cases e8 : j = 8
      · subst e8; simp
      · simp only [e8, and_false, if_false, c3g]; unfold upF; by_cases e7 : j = 7 <;> simp [e7, e8]
    · have e1 := mm b b0 b1
      have e2 := c5 b b0 b1
      have e3 := c6.2 b b0 b1
      exact ⟨e1.1, e3.2.1.trans (e2.2.1.trans e1.2.1), e2.2.2.1.trans e1.2.2.1, e2.2.2.2.1.trans e1.2.2.2.1, e1.2.2.2.2⟩

set_option maxHeartbeats 4000000 in
set_option maxRecDepth 100000 in
theorem ct_X11_remember_fn {E : xE} {z : Nat} {T : Nat → Nat × Int} {F : Nat → Nat → Int} {I : Nat → Int → Int} {P : Nat → Nat → Option Nat} {Y : Nat → Int → Option Nat} {o m : Nat} {ws : Nat → Option wWo} (hL : LK T F I P Y o m z ws) (hE : ∀ u : State, E.2.2.2.2 u → xOld u) {a : Nat} {u : wWo} (h3 : P o 3 = some a) (hu : ws 0 = some u) (hf : 0 ≤ F o 7 ∧ F o 7 < 12) (hc8 : F o 8 = 12) (hY : Y (o + 116) ((((F o 7 + 1) % 12) + 11) % 12) = none) : Ct E 3 mX11_remember 57 2100 [.ref o] (z, T, F, I, P, Y) (fun v h' => v = none ∧ ∃ (z' : Nat) (T' : Nat → Nat × Int) (F' : Nat → Nat → Int) (I' : Nat → Int → Int) (P' : Nat → Nat → Option Nat) (Y' : Nat → Int → Option Nat), h' = (z', T', F', I', P', Y') ∧ z ≤ z' ∧ LK T' F' I' P' Y' o m z' (wsU ws (((((F o 7 + 1) % 12) + 11) % 12).toNat + 3) (some u)) ∧ P' o = P o ∧ (∀ j : Int, j ≠ ((((F o 7 + 1) % 12) + 11) % 12) → Y' (o + 116) j = Y (o + 116) j) ∧ (∃ x : Nat, Y' (o + 116) ((((F o 7 + 1) % 12) + 11) % 12) = some x) ∧ F' o = upF (upF F o 7 ((F o 7 + 1) % 12)) o 8 (11 + 1) o ∧ I' (o + 1) = I (o + 1) ∧ LF m T F I P Y T' F' I' P' Y') := by
  have h1 : (T o).1 = 12 := hL.1.1
  obtain ⟨h6, h61, h62⟩ := hL.1.2.2.1
  have hz := hL.2.2.2.2.2.1
  have hlG := hL.fr (F' := (upF (upF F o 7 ((F o 7 + 1) % 12)) o 8 11)) (I' := I) (fun b hb => by rw [upF_na _ _ _ _ (by omega), upF_na _ _ _ _ (by omega)]) (fun _ _ => rfl) hL.2.2.2.2.1
  have hG := hlG.1
  have g7 : (upF (upF F o 7 ((F o 7 + 1) % 12)) o 8 11) o 7 = ((F o 7 + 1) % 12) := by rw [upF_nk _ _ _ _ (by decide), upF_at]
  have g8 : (upF (upF F o 7 ((F o 7 + 1) % 12)) o 8 11) o 8 = 11 := by rw [upF_at]
  have hsl : lSl o P Y (((((F o 7 + 1) % 12) + 11) % 12).toNat + 3) = Y (o + 116) ((((F o 7 + 1) % 12) + 11) % 12) := by
    unfold lSl
    rw [if_neg (by omega), if_neg (by omega), if_neg (by omega), show (((((((F o 7 + 1) % 12) + 11) % 12)).toNat + 3 : Nat) : Int) - 3 = ((((F o 7 + 1) % 12) + 11) % 12) by omega]
  have hlt : (((((F o 7 + 1) % 12) + 11) % 12).toNat + 3) < 15 := by omega
  refine Ct.of [some (.ref o), none] kt_X11_remember rfl (Nat.le_of_ble_eq_true rfl) rfl (fun d hd => ?_)
  generalize hX : xN E _ _ _ = X
  refine xg_aloadn 1 dX11_remember_0 rfl rfl rfl ?_
  refine xg_getI 4 kf_RX11_40 dX11_remember_1 rfl h1 ?_
  refine xg_bipush 6 dX11_remember_4 rfl (by decide) ?_
  refine xg_iclt 32 9 dX11_remember_6 rfl rfl (by omega) (fun hb6 => ?_) (fun hb6 => ?_)
  · exfalso; omega
  · skip
    refine xg_aloadn 10 dX11_remember_9 rfl rfl rfl ?_
    refine xg_aloadn 11 dX11_remember_10 rfl rfl rfl ?_
    refine xg_getI 14 kf_RX11_37 dX11_remember_11 rfl h1 ?_
    refine xg_iconst 15 dX11_remember_14 rfl ?_
    refine xg_iadd 16 dX11_remember_15 rfl ?_
    refine xg_bipush 18 dX11_remember_16 rfl (by decide) ?_
    refine xg_irem 19 dX11_remember_18 rfl (by omega) ?_
    refine xg_putI 22 kf_RX11_37 dX11_remember_19 rfl h1 ?_
    refine xg_aloadn 23 dX11_remember_22 rfl rfl rfl ?_
    refine xg_dup 24 dX11_remember_23 rfl rfl ?_
    refine xg_getI 27 kf_RX11_40 dX11_remember_24 rfl h1 ?_
    rw [upF_nk _ _ _ _ (by decide)]
    refine xg_iconst 28 dX11_remember_27 rfl ?_
    refine xg_isub 29 dX11_remember_28 rfl ?_
    refine xg_putI 32 kf_RX11_40 dX11_remember_29 rfl h1 ?_
    rw [show F o 8 - 1 = 11 by omega]
    refine xg_aloadn 33 dX11_remember_32 rfl rfl rfl ?_
    refine xg_getI 36 kf_RX11_37 dX11_remember_33 rfl h1 ?_
    rw [g7]
    refine xg_aloadn 37 dX11_remember_36 rfl rfl rfl ?_
    refine xg_getI 40 kf_RX11_40 dX11_remember_37 rfl h1 ?_
    rw [g8]
    refine xg_iadd 41 dX11_remember_40 rfl ?_
    refine xg_bipush 43 dX11_remember_41 rfl (by decide) ?_
    refine xg_irem 44 dX11_remember_43 rfl (by omega) ?_
    refine xg_istoren 45 _ dX11_remember_44 rfl rfl rfl (by decide) (Or.inr rfl) ?_
    refine xg_aloadn 46 dX11_remember_45 rfl rfl rfl ?_
    refine xg_getP 49 kf_RX11_33 dX11_remember_46 rfl h1 h6 ?_
    refine xg_iloadn 50 dX11_remember_49 rfl rfl rfl ?_
    refine xg_sald 51 dX11_remember_50 rfl h61 (by rw [h62]; omega) hY rfl ?_
    refine xg_ifnn0 54 dX11_remember_51 rfl ?_
    refine xg_aloadn 55 dX11_remember_54 rfl rfl rfl ?_
    refine xg_getP 58 kf_RX11_33 dX11_remember_55 rfl h1 h6 ?_
    refine xg_iloadn 59 dX11_remember_58 rfl rfl rfl ?_
    refine xg_new 62 kc_8 kd_8 kn_RX11_20 kw_RX8 dX11_remember_59 rfl ⟨by first | decide | omega, by first | decide | omega⟩ ?_
    refine xg_dup 63 dX11_remember_62 rfl rfl ?_
    refine xg_callIs 66 [] _ ki_X8_init kl_RX11_22 dX11_remember_63 rfl rfl rfl (Nat.le_of_ble_eq_true rfl) (by omega) ⟨by first | decide | omega, by first | decide | omega⟩ (ct_X8_init hE (by rw [upT_at]) rfl (fun j => by rw [up0_at]) (by rw [up0_at])) (fun T1 F1 I1 P1 Y1 hN1 hL1 => ?_)
    have hL2 : Lo z T (upF (upF F o 7 ((F o 7 + 1) % 12)) o 8 11) I P Y T1 F1 I1 P1 Y1 := fun b hb => by
      have e := hL1 b hb
      simp (disch := omega) only [upT_na, up0_na] at e
      exact e
    have q1 : (T1 o).1 = 12 := by rw [(hL2 o (by omega)).1]; exact h1
    have q61 : (T1 (o + 116)).1 = 18 := by rw [(hL2 (o + 116) (by omega)).1]; exact h61
    have q62 : (T1 (o + 116)).2 = 12 := by rw [(hL2 (o + 116) (by omega)).1]; exact h62
    have k1 : (T1 z).1 = 9 := hN1.1.1.1
    have r3 : P1 o 3 = some a := by rw [(hL2 o (by omega)).2.2.2.1]; exact h3
    have r6 : P1 o 6 = some (o + 116) := by rw [(hL2 o (by omega)).2.2.2.1]; exact h6
    have rY : upY Y1 (o + 116) ((((F o 7 + 1) % 12) + 11) % 12) (some z) (o + 116) ((((F o 7 + 1) % 12) + 11) % 12) = some z := upY_at _ _ _ _
    have hsl2 : lSl o P1 (upY Y1 (o + 116) ((((F o 7 + 1) % 12) + 11) % 12) (some z)) (((((F o 7 + 1) % 12) + 11) % 12).toNat + 3) = some z := by
      unfold lSl
      rw [if_neg (by omega), if_neg (by omega), if_neg (by omega), show (((((((F o 7 + 1) % 12) + 11) % 12)).toNat + 3 : Nat) : Int) - 3 = ((((F o 7 + 1) % 12) + 11) % 12) by omega]
      exact rY
    obtain ⟨hK, hM⟩ := hG.new (s0 := (((((F o 7 + 1) % 12) + 11) % 12).toNat + 3)) (P2 := P1) (Y2 := upY Y1 (o + 116) ((((F o 7 + 1) % 12) + 11) % 12) (some z)) hlt (hsl.trans hY) hL2 hN1.sr.sw hN1.2.2.2.2.1 (fun s hs9 => by
      by_cases e2 : s = (((((F o 7 + 1) % 12) + 11) % 12).toNat + 3)
      · rw [if_pos e2, e2]; exact hsl2
      · rw [if_neg e2]; unfold lSl
        rw [(hL2 o (by omega)).2.2.2.1]
        by_cases e3 : s < 3
        · rcases (show s = 0 ∨ s = 1 ∨ s = 2 by omega) with e4 | e4 | e4 <;> subst e4 <;> rfl
        · rw [if_neg (by omega), if_neg (by omega), if_neg (by omega), if_neg (by omega), if_neg (by omega), if_neg (by omega), upY_nk _ _ _ _ (by omega), (hL2 (o + 116) (by omega)).2.2.2.2]) (fun _ _ => rfl) (fun _ _ _ _ => rfl) (fun b hb => upY_na _ _ _ _ hb)
    have hc := hK.cpy (s0 := (((((F o 7 + 1) % 12) + 11) % 12).toNat + 3)) (s1 := 0) hlt (by decide) (by omega) hsl2 r3 hu (E := E)
    refine xg_sast 67 dX11_remember_66 rfl q61 k1 (by rw [q62]; omega) ?_
    refine xg_aloadn 68 dX11_remember_67 rfl rfl rfl ?_
    refine xg_getP 71 kf_RX11_33 dX11_remember_68 rfl q1 r6 ?_
    refine xg_iloadn 72 dX11_remember_71 rfl rfl rfl ?_
    refine xg_sald 73 dX11_remember_72 rfl q61 (by rw [q62]; omega) rY rfl ?_
    refine xg_aloadn 74 dX11_remember_73 rfl rfl rfl ?_
    refine xg_getP 77 kf_RX11_23 dX11_remember_74 rfl q1 r3 ?_
    refine xg_callVe 80 8 [_] _ kv_X8_copyFrom ⟨_, _, rfl⟩ kl_RX11_81 dX11_remember_77 rfl k1 (by omega) rfl rfl (Nat.le_of_ble_eq_true rfl) (by omega) ⟨by first | decide | omega, by first | decide | omega⟩ (hc.1) rfl (fun v9 h9 e9 => ?_)
    obtain ⟨rfl, F9, I9, P9, rfl, hS9, hF9, h169⟩ := e9
    obtain ⟨c1, c2, c3, c4, c5⟩ := hK.copy (s0 := (((((F o 7 + 1) % 12) + 11) % 12).toNat + 3)) (s1 := 0) hlt (by decide) (by omega) hsl2 r3 hu hS9 hc.2 hF9 h169
    refine xg_aloadn 81 dX11_remember_80 rfl rfl rfl ?_
    refine xg_dup 82 dX11_remember_81 rfl rfl ?_
    refine xg_getI 85 kf_RX11_40 dX11_remember_82 rfl q1 ?_
    refine xg_iconst 86 dX11_remember_85 rfl ?_
    refine xg_iadd 87 dX11_remember_86 rfl ?_
    refine xg_putI 90 kf_RX11_40 dX11_remember_87 rfl q1 ?_
    subst hX
    refine xg_return dX11_remember_90 rfl ⟨by first | decide | omega, by first | decide | omega⟩ ?_
    have c3g : F9 o = (upF (upF F o 7 ((F o 7 + 1) % 12)) o 8 11) o := c3.trans (hL2 o (by omega)).2.1
    have c6 := c1.fr (F' := upF F9 o 8 (F9 o 8 + 1)) (I' := I9) (fun b hb => by rw [upF_na _ _ _ _ (by omega)]) (fun _ _ => rfl) c1.2.2.2.2.1
    have mm : LF m T F I P Y _ _ _ _ _ := fun b b0 b1 => ⟨(hM b b0 b1).1, (hM b b0 b1).2.1.trans (hlG.2 b b0 b1).2.1, (hM b b0 b1).2.2.1, (hM b b0 b1).2.2.2.1, (hM b b0 b1).2.2.2.2⟩
    refine ⟨rfl, _, _, _, _, _, _, rfl, by omega, c6.1, c2.trans (hL2 o (by omega)).2.2.2.1, fun j hj => by rw [upY_nk _ _ _ _ hj, (hL2 (o + 116) (by omega)).2.2.2.2], ⟨z, rY⟩, ?_, c4.trans (hL2 (o + 1) (by omega)).2.2.1, fun b b0 b1 => ?_⟩
    · rw [c3g, g8]; funext j; unfold upF
      by_cases e8 : j = 8
      · subst e8; simp
      · simp only [e8, and_false, if_false, c3g]; unfold upF; by_cases e7 : j = 7 <;> simp [e7, e8]
    · have e1 := mm b b0 b1
      have e2 := c5 b b0 b1
      have e3 := c6.2 b b0 b1
      exact ⟨e1.1, e3.2.1.trans (e2.2.1.trans e1.2.1), e2.2.2.1.trans e1.2.2.1, e2.2.2.2.1.trans e1.2.2.2.1, e1.2.2.2.2⟩

