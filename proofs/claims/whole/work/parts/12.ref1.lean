theorem xdr (z : Int) : 0 ≤ xand (xshr z 16) 32767 ∧ xand (xshr z 16) 32767 < 32768 := by
  unfold xand
  have e : (Int32.ofInt (xshr z 16) &&& Int32.ofInt 32767) = Int32.ofBitVec ((Int32.ofInt (xshr z 16)).toBitVec &&& BitVec.ofNat 32 32767) := rfl
  rw [e]
  have h : ((Int32.ofInt (xshr z 16)).toBitVec &&& BitVec.ofNat 32 32767).toNat < 2 ^ 15 := by
    rw [BitVec.toNat_and]; exact Nat.and_lt_two_pow _ (by decide)
  have h2 := xbv (b := (Int32.ofInt (xshr z 16)).toBitVec &&& BitVec.ofNat 32 32767) rfl (by omega)
  rw [h2]; omega
/-- the reference's object m: where its arrays lie -/
def wM (T : Nat → Nat × Int) (P : Nat → Nat → Option Nat) (m : Nat) : Prop := ((T m).1 = 13 ∧ P m 1 = some (m + 1) ∧ (T (m + 1)).1 = 14 ∧ (T (m + 1)).2 = 3601) ∧
  (P m 2 = some (m + 2) ∧ (T (m + 2)).1 = 14 ∧ (T (m + 2)).2 = 2752) ∧ (P m 3 = some (m + 3) ∧ (T (m + 3)).1 = 14 ∧ (T (m + 3)).2 = 2752) ∧ (P m 4 = some (m + 4) ∧ (T (m + 4)).1 = 14 ∧ (T (m + 4)).2 = 1903) ∧ (P m 5 = some (m + 5) ∧ (T (m + 5)).1 = 14 ∧ (T (m + 5)).2 = 22836) ∧
  (P m 8 = some (m + 6) ∧ (T (m + 6)).1 = 15 ∧ (T (m + 6)).2 = 400) ∧ (P m 15 = some (m + 7) ∧ (T (m + 7)).1 = 14 ∧ (T (m + 7)).2 = 5) ∧ (P m 17 = some (m + 8) ∧ (T (m + 8)).1 = 14 ∧ (T (m + 8)).2 = 400) ∧ (P m 18 = some (m + 9) ∧ (T (m + 9)).1 = 14 ∧ (T (m + 9)).2 = 144) ∧ (P m 19 = some (m + 10) ∧ (T (m + 10)).1 = 14 ∧ (T (m + 10)).2 = 169) ∧ (P m 20 = some (m + 11) ∧ (T (m + 11)).1 = 14 ∧ (T (m + 11)).2 = 256)
def sEnt (w : Int → Int) (row : Int) : Int := pSum (fun k => if w (row + k) = -1 then 0 else 1) 60
theorem sEnt_bd (w : Int → Int) (row : Int) : 0 ≤ sEnt w row ∧ sEnt w row ≤ 60 := by
  have := pSum_bd (f := fun k => if w (row + k) = -1 then 0 else 1) (b := 1) (k := 60) (fun j _ => by split <;> omega)
  unfold sEnt; omega
theorem pEnt_bd (w : Int → Int) (row : Int) (k : Nat) : 0 ≤ pSum (fun k => if w (row + k) = -1 then 0 else 1) k ∧ pSum (fun k => if w (row + k) = -1 then 0 else 1) k ≤ k := by
  have := pSum_bd (f := fun k => if w (row + k) = -1 then 0 else 1) (b := 1) (k := k) (fun j _ => by split <;> omega)
  omega
def wE (w : Int → Int) (row n : Int) : Int → Int := fun j => if row ≤ j ∧ j < row + n then -1 else w j
theorem wE_0 (w : Int → Int) (row : Int) : wE w row 0 = w := by funext j; exact if_neg (by omega)
theorem wE_s (w : Int → Int) (row n : Int) (h : 0 ≤ n) : wS (wE w row n) (row + n) (-1) = wE w row (n + 1) := by
  funext j
  unfold wS wE
  by_cases hj : j = row + n
  · rw [if_pos hj, if_pos (by omega)]
  · rw [if_neg hj]
    by_cases h1 : row ≤ j ∧ j < row + n
    · rw [if_pos h1, if_pos (by omega)]
    · rw [if_neg h1, if_neg (by omega)]
theorem bIz {p : Prop} [Decidable p] : (if p then (1 : Int) else 0) = bI (decide p) := by by_cases h : p <;> simp [bI, h]
theorem dX12_thrown_0 : decode cX12_thrown 0 = .ok (.aload_n 0, 1) := by decide +kernel
theorem dX12_thrown_1 : decode cX12_thrown 1 = .ok (.getfield 3, 3) := by decide +kernel
theorem dX12_thrown_4 : decode cX12_thrown 4 = .ok (.ireturn, 1) := by decide +kernel
set_option maxHeartbeats 4000000 in
set_option maxRecDepth 100000 in
theorem ct_X12_thrown {E : xE} {z : Nat} {T : Nat → Nat × Int} {F : Nat → Nat → Int} {I : Nat → Int → Int} {P : Nat → Nat → Option Nat} {Y : Nat → Int → Option Nat} {m : Nat} {w : Int → Int} (hw : wM T P m)  : Ct E 0 mX12_thrown 0 0 [.ref m] (z, T, F, upA I (m + 1) w, P, Y) (xd (some (J (F m 0))) (z, T, F, upA I (m + 1) w, P, Y)) := by
  obtain ⟨⟨q0, q1, q2, q3⟩, -⟩ := id hw
  refine Ct.of [some (.ref m)] kt_X12_thrown rfl (Nat.le_of_ble_eq_true rfl) rfl (fun d hd => ?_)
  generalize hX : xN E _ _ _ = X
  refine xg_aloadn 1 dX12_thrown_0 rfl rfl rfl ?_
  refine xg_getI 4 kf_RX12_3 dX12_thrown_1 rfl (by assumption) ?_
  subst hX
  exact xg_ireturn dX12_thrown_4 rfl ⟨Nat.le_refl _, Nat.le_refl _⟩ ⟨rfl, rfl⟩

theorem dX12_throwsIf_0 : decode cX12_throwsIf 0 = .ok (.iload_n 1, 1) := by decide +kernel
theorem dX12_throwsIf_1 : decode cX12_throwsIf 1 = .ok (.ifCond .eq 8, 3) := by decide +kernel
theorem dX12_throwsIf_4 : decode cX12_throwsIf 4 = .ok (.aload_n 0, 1) := by decide +kernel
theorem dX12_throwsIf_5 : decode cX12_throwsIf 5 = .ok (.iload_n 2, 1) := by decide +kernel
theorem dX12_throwsIf_6 : decode cX12_throwsIf 6 = .ok (.putfield 3, 3) := by decide +kernel
theorem dX12_throwsIf_9 : decode cX12_throwsIf 9 = .ok (.iload_n 1, 1) := by decide +kernel
theorem dX12_throwsIf_10 : decode cX12_throwsIf 10 = .ok (.ireturn, 1) := by decide +kernel
set_option maxHeartbeats 4000000 in
set_option maxRecDepth 100000 in
theorem ct_X12_throwsIf {E : xE} {z : Nat} {T : Nat → Nat × Int} {F : Nat → Nat → Int} {I : Nat → Int → Int} {P : Nat → Nat → Option Nat} {Y : Nat → Int → Option Nat} {m : Nat} {w : Int → Int} (hw : wM T P m) {b : Bool} {code : Int} : Ct E 0 mX12_throwsIf 0 0 [.ref m, J (bI b), J code] (z, T, F, upA I (m + 1) w, P, Y) (xd (some (J (bI b))) (z, T, (if b = true then upF F m 0 code else F), upA I (m + 1) w, P, Y)) := by
  obtain ⟨⟨q0, q1, q2, q3⟩, -⟩ := id hw
  refine Ct.of [some (.ref m), some (J (bI b)), some (J code)] kt_X12_throwsIf rfl (Nat.le_of_ble_eq_true rfl) rfl (fun d hd => ?_)
  generalize hX : xN E _ _ _ = X
  refine xg_iloadn 1 dX12_throwsIf_0 rfl rfl rfl ?_
  refine xg_beq 9 4 dX12_throwsIf_1 rfl rfl (fun hb => ?_) (fun hb => ?_)
  · subst hb
    refine xg_iloadn 10 dX12_throwsIf_9 rfl rfl rfl ?_
    subst hX
    exact xg_zreturn dX12_throwsIf_10 rfl (bI_01 _) ⟨Nat.le_refl _, Nat.le_refl _⟩ ⟨rfl, rfl⟩
  · subst hb
    refine xg_aloadn 5 dX12_throwsIf_4 rfl rfl rfl ?_
    refine xg_iloadn 6 dX12_throwsIf_5 rfl rfl rfl ?_
    refine xg_putI 9 kf_RX12_3 dX12_throwsIf_6 rfl (by assumption) ?_
    refine xg_iloadn 10 dX12_throwsIf_9 rfl rfl rfl ?_
    subst hX
    exact xg_zreturn dX12_throwsIf_10 rfl (bI_01 _) ⟨Nat.le_refl _, Nat.le_refl _⟩ ⟨rfl, rfl⟩

theorem dX12_in_0 : decode cX12_in 0 = .ok (.iload_n 0, 1) := by decide +kernel
theorem dX12_in_1 : decode cX12_in 1 = .ok (.iload_n 1, 1) := by decide +kernel
theorem dX12_in_2 : decode cX12_in 2 = .ok (.if_icmp .lt 12, 3) := by decide +kernel
theorem dX12_in_5 : decode cX12_in 5 = .ok (.iload_n 0, 1) := by decide +kernel
theorem dX12_in_6 : decode cX12_in 6 = .ok (.iload_n 2, 1) := by decide +kernel
theorem dX12_in_7 : decode cX12_in 7 = .ok (.if_icmp .gt 7, 3) := by decide +kernel
theorem dX12_in_10 : decode cX12_in 10 = .ok (.iconst 1, 1) := by decide +kernel
theorem dX12_in_11 : decode cX12_in 11 = .ok (.goto 4, 3) := by decide +kernel
theorem dX12_in_14 : decode cX12_in 14 = .ok (.iconst 0, 1) := by decide +kernel
theorem dX12_in_15 : decode cX12_in 15 = .ok (.ireturn, 1) := by decide +kernel
set_option maxHeartbeats 4000000 in
set_option maxRecDepth 100000 in
theorem ct_X12_in {E : xE} {z : Nat} {T : Nat → Nat × Int} {F : Nat → Nat → Int} {I : Nat → Int → Int} {P : Nat → Nat → Option Nat} {Y : Nat → Int → Option Nat} {m : Nat} {w : Int → Int} {v lo hi : Int} (hr : (-2147483648 ≤ v ∧ v < 2147483648) ∧ (-2147483648 ≤ lo ∧ lo < 2147483648) ∧ -2147483648 ≤ hi ∧ hi < 2147483648) : Ct E 0 mX12_in 0 0 [J v, J lo, J hi] (z, T, F, upA I (m + 1) w, P, Y) (xd (some (J (bI (decide (lo ≤ v ∧ v ≤ hi))))) (z, T, F, upA I (m + 1) w, P, Y)) := by
  skip
  refine Ct.of [some (J v), some (J lo), some (J hi)] kt_X12_in rfl (Nat.le_of_ble_eq_true rfl) rfl (fun d hd => ?_)
  generalize hX : xN E _ _ _ = X
  refine xg_iloadn 1 dX12_in_0 rfl rfl rfl ?_
  refine xg_iloadn 2 dX12_in_1 rfl rfl rfl ?_
  refine xg_iclt 14 5 dX12_in_2 rfl rfl (by first | omega | exact hR _ | exact ⟨hR _, by omega⟩ | exact ⟨by omega, hR _⟩ | exact ⟨hR _, hR _⟩) (fun hb2 => ?_) (fun hb2 => ?_)
  · skip
    refine xg_iconst 15 dX12_in_14 rfl ?_
    subst hX
    exact xg_zreturn dX12_in_15 rfl (by first | exact bI_01 _ | omega) ⟨Nat.le_refl _, Nat.le_refl _⟩ ⟨congrArg (fun v => some (J v)) (by first | exact (bI_t (by omega)).symm | exact (bI_f (by omega)).symm), rfl⟩
  · skip
    refine xg_iloadn 6 dX12_in_5 rfl rfl rfl ?_
    refine xg_iloadn 7 dX12_in_6 rfl rfl rfl ?_
    refine xg_icgt 14 10 dX12_in_7 rfl rfl (by first | omega | exact hR _ | exact ⟨hR _, by omega⟩ | exact ⟨by omega, hR _⟩ | exact ⟨hR _, hR _⟩) (fun hb7 => ?_) (fun hb7 => ?_)
    · skip
      refine xg_iconst 15 dX12_in_14 rfl ?_
      subst hX
      exact xg_zreturn dX12_in_15 rfl (by first | exact bI_01 _ | omega) ⟨Nat.le_refl _, Nat.le_refl _⟩ ⟨congrArg (fun v => some (J v)) (by first | exact (bI_t (by omega)).symm | exact (bI_f (by omega)).symm), rfl⟩
    · skip
      refine xg_iconst 11 dX12_in_10 rfl ?_
      refine xg_goto 15 dX12_in_11 rfl ?_
      subst hX
      exact xg_zreturn dX12_in_15 rfl (by first | exact bI_01 _ | omega) ⟨Nat.le_refl _, Nat.le_refl _⟩ ⟨congrArg (fun v => some (J v)) (by first | exact (bI_t (by omega)).symm | exact (bI_f (by omega)).symm), rfl⟩

theorem dX12_has_0 : decode cX12_has 0 = .ok (.iload_n 0, 1) := by decide +kernel
theorem dX12_has_1 : decode cX12_has 1 = .ok (.iload_n 1, 1) := by decide +kernel
theorem dX12_has_2 : decode cX12_has 2 = .ok (.ishr, 1) := by decide +kernel
theorem dX12_has_3 : decode cX12_has 3 = .ok (.iconst 1, 1) := by decide +kernel
theorem dX12_has_4 : decode cX12_has 4 = .ok (.iand, 1) := by decide +kernel
theorem dX12_has_5 : decode cX12_has 5 = .ok (.iconst 1, 1) := by decide +kernel
theorem dX12_has_6 : decode cX12_has 6 = .ok (.if_icmp .ne 7, 3) := by decide +kernel
theorem dX12_has_9 : decode cX12_has 9 = .ok (.iconst 1, 1) := by decide +kernel
theorem dX12_has_10 : decode cX12_has 10 = .ok (.goto 4, 3) := by decide +kernel
theorem dX12_has_13 : decode cX12_has 13 = .ok (.iconst 0, 1) := by decide +kernel
theorem dX12_has_14 : decode cX12_has 14 = .ok (.ireturn, 1) := by decide +kernel
set_option maxHeartbeats 4000000 in
set_option maxRecDepth 100000 in
theorem ct_X12_has {E : xE} {z : Nat} {T : Nat → Nat × Int} {F : Nat → Nat → Int} {I : Nat → Int → Int} {P : Nat → Nat → Option Nat} {Y : Nat → Int → Option Nat} {m : Nat} {w : Int → Int} {s r : Nat} (hs : s < 2147483648) (hr : r < 32) : Ct E 0 mX12_has 0 0 [J (s : Int), J (r : Int)] (z, T, F, upA I (m + 1) w, P, Y) (xd (some (J (bI (s.testBit r)))) (z, T, F, upA I (m + 1) w, P, Y)) := by
  skip
  refine Ct.of [some (J (s : Int)), some (J (r : Int))] kt_X12_has rfl (Nat.le_of_ble_eq_true rfl) rfl (fun d hd => ?_)
  generalize hX : xN E _ _ _ = X
  refine xg_iloadn 1 dX12_has_0 rfl rfl rfl ?_
  refine xg_iloadn 2 dX12_has_1 rfl rfl rfl ?_
  refine xg_ishr 3 dX12_has_2 rfl ?_
  refine xg_iconst 4 dX12_has_3 rfl ?_
  refine xg_iand 5 dX12_has_4 rfl ?_
  refine xg_iconst 6 dX12_has_5 rfl ?_
  have hx := xhas hs hr
  have hy : -2147483648 ≤ xand (xshr (s : Int) (r : Int)) 1 ∧ xand (xshr (s : Int) (r : Int)) 1 < 2147483648 := by
    rw [xshr_nat hs hr, show (1 : Int) = ((1 : Nat) : Int) from rfl, xand_nat (by have := Nat.shiftRight_le s r; omega) (by omega), Nat.and_one_is_mod]; omega
  refine xg_icne 13 9 dX12_has_6 rfl rfl (by first | omega | exact hR _ | exact ⟨hR _, by omega⟩ | exact ⟨by omega, hR _⟩ | exact ⟨hR _, hR _⟩) (fun hb6 => ?_) (fun hb6 => ?_)
  · skip
    refine xg_iconst 14 dX12_has_13 rfl ?_
    subst hX
    exact xg_zreturn dX12_has_14 rfl (by first | exact bI_01 _ | omega) ⟨Nat.le_refl _, Nat.le_refl _⟩ ⟨congrArg (fun v => some (J v)) (by first | (rw [hx.mp hb6]; rfl) | (rw [show s.testBit r = false by rw [← Bool.not_eq_true]; exact fun q => hb6 (hx.mpr q)]; rfl)), rfl⟩
  · skip
    refine xg_iconst 10 dX12_has_9 rfl ?_
    refine xg_goto 14 dX12_has_10 rfl ?_
    subst hX
    exact xg_zreturn dX12_has_14 rfl (by first | exact bI_01 _ | omega) ⟨Nat.le_refl _, Nat.le_refl _⟩ ⟨congrArg (fun v => some (J v)) (by first | (rw [hx.mp hb6]; rfl) | (rw [show s.testBit r = false by rw [← Bool.not_eq_true]; exact fun q => hb6 (hx.mpr q)]; rfl)), rfl⟩

theorem dX12_runs_0 : decode cX12_runs 0 = .ok (.aload_n 0, 1) := by decide +kernel
theorem dX12_runs_1 : decode cX12_runs 1 = .ok (.getfield 13, 3) := by decide +kernel
theorem dX12_runs_4 : decode cX12_runs 4 = .ok (.iconst 0, 1) := by decide +kernel
theorem dX12_runs_5 : decode cX12_runs 5 = .ok (.iaload, 1) := by decide +kernel
theorem dX12_runs_6 : decode cX12_runs 6 = .ok (.ireturn, 1) := by decide +kernel
set_option maxHeartbeats 4000000 in
set_option maxRecDepth 100000 in
theorem ct_X12_runs {E : xE} {z : Nat} {T : Nat → Nat × Int} {F : Nat → Nat → Int} {I : Nat → Int → Int} {P : Nat → Nat → Option Nat} {Y : Nat → Int → Option Nat} {m : Nat} {w : Int → Int} (hw : wM T P m) : Ct E 0 mX12_runs 0 0 [.ref m] (z, T, F, upA I (m + 1) w, P, Y) (xd (some (J (w 0))) (z, T, F, upA I (m + 1) w, P, Y)) := by
  obtain ⟨⟨q0, q1, q2, q3⟩, -⟩ := id hw
  refine Ct.of [some (.ref m)] kt_X12_runs rfl (Nat.le_of_ble_eq_true rfl) rfl (fun d hd => ?_)
  generalize hX : xN E _ _ _ = X
  refine xg_aloadn 1 dX12_runs_0 rfl rfl rfl ?_
  refine xg_getP 4 kf_RX12_13 dX12_runs_1 rfl (by assumption) (by assumption) ?_
  refine xg_iconst 5 dX12_runs_4 rfl ?_
  refine xg_ialdW 6 dX12_runs_5 rfl (by assumption) (by first | omega | exact hR _ | exact ⟨hR _, by omega⟩ | exact ⟨by omega, hR _⟩ | exact ⟨hR _, hR _⟩) ?_
  subst hX
  exact xg_ireturn dX12_runs_6 rfl ⟨Nat.le_refl _, Nat.le_refl _⟩ ⟨rfl, rfl⟩

theorem dX12_runAt_0 : decode cX12_runAt 0 = .ok (.sipush 199, 3) := by decide +kernel
theorem dX12_runAt_3 : decode cX12_runAt 3 = .ok (.bipush 122, 2) := by decide +kernel
theorem dX12_runAt_5 : decode cX12_runAt 5 = .ok (.iload_n 0, 1) := by decide +kernel
theorem dX12_runAt_6 : decode cX12_runAt 6 = .ok (.imul, 1) := by decide +kernel
theorem dX12_runAt_7 : decode cX12_runAt 7 = .ok (.iadd, 1) := by decide +kernel
theorem dX12_runAt_8 : decode cX12_runAt 8 = .ok (.iload_n 1, 1) := by decide +kernel
theorem dX12_runAt_9 : decode cX12_runAt 9 = .ok (.iadd, 1) := by decide +kernel
theorem dX12_runAt_10 : decode cX12_runAt 10 = .ok (.ireturn, 1) := by decide +kernel
set_option maxHeartbeats 4000000 in
set_option maxRecDepth 100000 in
theorem ct_X12_runAt {E : xE} {z : Nat} {T : Nat → Nat × Int} {F : Nat → Nat → Int} {I : Nat → Int → Int} {P : Nat → Nat → Option Nat} {Y : Nat → Int → Option Nat} {m : Nat} {w : Int → Int} {r x : Int} : Ct E 0 mX12_runAt 0 0 [J r, J x] (z, T, F, upA I (m + 1) w, P, Y) (xd (some (J (199 + 122 * r + x))) (z, T, F, upA I (m + 1) w, P, Y)) := by
  skip
  refine Ct.of [some (J r), some (J x)] kt_X12_runAt rfl (Nat.le_of_ble_eq_true rfl) rfl (fun d hd => ?_)
  generalize hX : xN E _ _ _ = X
  refine xg_sipush 3 dX12_runAt_0 rfl (by decide) ?_
  refine xg_bipush 5 dX12_runAt_3 rfl (by decide) ?_
  refine xg_iloadn 6 dX12_runAt_5 rfl rfl rfl ?_
  refine xg_imul 7 dX12_runAt_6 rfl ?_
  refine xg_iadd 8 dX12_runAt_7 rfl ?_
  refine xg_iloadn 9 dX12_runAt_8 rfl rfl rfl ?_
  refine xg_iadd 10 dX12_runAt_9 rfl ?_
  subst hX
  exact xg_ireturn dX12_runAt_10 rfl ⟨Nat.le_refl _, Nat.le_refl _⟩ ⟨rfl, rfl⟩

theorem dX12_rowOf_0 : decode cX12_rowOf 0 = .ok (.iload_n 0, 1) := by decide +kernel
theorem dX12_rowOf_1 : decode cX12_rowOf 1 = .ok (.iconst 2, 1) := by decide +kernel
theorem dX12_rowOf_2 : decode cX12_rowOf 2 = .ok (.invokestatic 62, 3) := by decide +kernel
theorem dX12_rowOf_5 : decode cX12_rowOf 5 = .ok (.ireturn, 1) := by decide +kernel
set_option maxHeartbeats 4000000 in
set_option maxRecDepth 100000 in
theorem ct_X12_rowOf {E : xE} {z : Nat} {T : Nat → Nat × Int} {F : Nat → Nat → Int} {I : Nat → Int → Int} {P : Nat → Nat → Option Nat} {Y : Nat → Int → Option Nat} {m : Nat} {w : Int → Int} {r : Int} : Ct E 1 mX12_rowOf 0 0 [J r] (z, T, F, upA I (m + 1) w, P, Y) (xd (some (J (201 + 122 * r))) (z, T, F, upA I (m + 1) w, P, Y)) := by
  skip
  refine Ct.of [some (J r)] kt_X12_rowOf rfl (Nat.le_of_ble_eq_true rfl) rfl (fun d hd => ?_)
  generalize hX : xN E _ _ _ = X
  refine xg_iloadn 1 dX12_rowOf_0 rfl rfl rfl ?_
  refine xg_iconst 2 dX12_rowOf_1 rfl ?_
  refine xg_callS 5 [_, _] _ ks_X12_runAt kl_RX12_62 dX12_rowOf_2 rfl rfl rfl (Nat.le_of_ble_eq_true rfl) (by omega) ⟨Nat.le_refl _, Nat.le_refl _⟩ (ct_X12_runAt) rfl ?_
  subst hX
  exact xg_ireturn dX12_rowOf_5 rfl ⟨Nat.le_refl _, Nat.le_refl _⟩ ⟨congrArg (fun v => some (J v)) (by omega), rfl⟩

theorem dX12_levelOf_0 : decode cX12_levelOf 0 = .ok (.aload_n 0, 1) := by decide +kernel
theorem dX12_levelOf_1 : decode cX12_levelOf 1 = .ok (.getfield 13, 3) := by decide +kernel
theorem dX12_levelOf_4 : decode cX12_levelOf 4 = .ok (.iload_n 1, 1) := by decide +kernel
theorem dX12_levelOf_5 : decode cX12_levelOf 5 = .ok (.iconst 0, 1) := by decide +kernel
theorem dX12_levelOf_6 : decode cX12_levelOf 6 = .ok (.invokestatic 62, 3) := by decide +kernel
theorem dX12_levelOf_9 : decode cX12_levelOf 9 = .ok (.iaload, 1) := by decide +kernel
theorem dX12_levelOf_10 : decode cX12_levelOf 10 = .ok (.ireturn, 1) := by decide +kernel
set_option maxHeartbeats 4000000 in
set_option maxRecDepth 100000 in
theorem ct_X12_levelOf {E : xE} {z : Nat} {T : Nat → Nat × Int} {F : Nat → Nat → Int} {I : Nat → Int → Int} {P : Nat → Nat → Option Nat} {Y : Nat → Int → Option Nat} {m : Nat} {w : Int → Int} (hw : wM T P m){r : Int} (hr : 0 ≤ r ∧ r < 12) : Ct E 1 mX12_levelOf 0 0 [.ref m, J r] (z, T, F, upA I (m + 1) w, P, Y) (xd (some (J (w (199 + 122 * r)))) (z, T, F, upA I (m + 1) w, P, Y)) := by
  obtain ⟨⟨q0, q1, q2, q3⟩, -⟩ := id hw
  refine Ct.of [some (.ref m), some (J r)] kt_X12_levelOf rfl (Nat.le_of_ble_eq_true rfl) rfl (fun d hd => ?_)
  generalize hX : xN E _ _ _ = X
  refine xg_aloadn 1 dX12_levelOf_0 rfl rfl rfl ?_
  refine xg_getP 4 kf_RX12_13 dX12_levelOf_1 rfl (by assumption) (by assumption) ?_
  refine xg_iloadn 5 dX12_levelOf_4 rfl rfl rfl ?_
  refine xg_iconst 6 dX12_levelOf_5 rfl ?_
  refine xg_callS 9 [_, _] _ ks_X12_runAt kl_RX12_62 dX12_levelOf_6 rfl rfl rfl (Nat.le_of_ble_eq_true rfl) (by omega) ⟨Nat.le_refl _, Nat.le_refl _⟩ (ct_X12_runAt) rfl ?_
  refine xg_ialdW 10 dX12_levelOf_9 rfl (by assumption) (by first | omega | exact hR _ | exact ⟨hR _, by omega⟩ | exact ⟨by omega, hR _⟩ | exact ⟨hR _, hR _⟩) ?_
  subst hX
  exact xg_ireturn dX12_levelOf_10 rfl ⟨Nat.le_refl _, Nat.le_refl _⟩ ⟨by rw [Int.add_zero], rfl⟩

theorem dX12_isInput_0 : decode cX12_isInput 0 = .ok (.aload_n 0, 1) := by decide +kernel
theorem dX12_isInput_1 : decode cX12_isInput 1 = .ok (.getfield 13, 3) := by decide +kernel
theorem dX12_isInput_4 : decode cX12_isInput 4 = .ok (.iload_n 1, 1) := by decide +kernel
theorem dX12_isInput_5 : decode cX12_isInput 5 = .ok (.iconst 1, 1) := by decide +kernel
theorem dX12_isInput_6 : decode cX12_isInput 6 = .ok (.invokestatic 62, 3) := by decide +kernel
theorem dX12_isInput_9 : decode cX12_isInput 9 = .ok (.iaload, 1) := by decide +kernel
theorem dX12_isInput_10 : decode cX12_isInput 10 = .ok (.iconst 1, 1) := by decide +kernel
theorem dX12_isInput_11 : decode cX12_isInput 11 = .ok (.if_icmp .ne 7, 3) := by decide +kernel
theorem dX12_isInput_14 : decode cX12_isInput 14 = .ok (.iconst 1, 1) := by decide +kernel
theorem dX12_isInput_15 : decode cX12_isInput 15 = .ok (.goto 4, 3) := by decide +kernel
theorem dX12_isInput_18 : decode cX12_isInput 18 = .ok (.iconst 0, 1) := by decide +kernel
theorem dX12_isInput_19 : decode cX12_isInput 19 = .ok (.ireturn, 1) := by decide +kernel
set_option maxHeartbeats 4000000 in
set_option maxRecDepth 100000 in
theorem ct_X12_isInput {E : xE} {z : Nat} {T : Nat → Nat × Int} {F : Nat → Nat → Int} {I : Nat → Int → Int} {P : Nat → Nat → Option Nat} {Y : Nat → Int → Option Nat} {m : Nat} {w : Int → Int} (hw : wM T P m)(hR : w32 w){r : Int} (hr : 0 ≤ r ∧ r < 12) : Ct E 1 mX12_isInput 0 0 [.ref m, J r] (z, T, F, upA I (m + 1) w, P, Y) (xd (some (J (bI (decide (w (200 + 122 * r) = 1))))) (z, T, F, upA I (m + 1) w, P, Y)) := by
  obtain ⟨⟨q0, q1, q2, q3⟩, -⟩ := id hw
  refine Ct.of [some (.ref m), some (J r)] kt_X12_isInput rfl (Nat.le_of_ble_eq_true rfl) rfl (fun d hd => ?_)
  generalize hX : xN E _ _ _ = X
  refine xg_aloadn 1 dX12_isInput_0 rfl rfl rfl ?_
  refine xg_getP 4 kf_RX12_13 dX12_isInput_1 rfl (by assumption) (by assumption) ?_
  refine xg_iloadn 5 dX12_isInput_4 rfl rfl rfl ?_
  refine xg_iconst 6 dX12_isInput_5 rfl ?_
  refine xg_callS 9 [_, _] _ ks_X12_runAt kl_RX12_62 dX12_isInput_6 rfl rfl rfl (Nat.le_of_ble_eq_true rfl) (by omega) ⟨Nat.le_refl _, Nat.le_refl _⟩ (ct_X12_runAt) rfl ?_
  refine xg_ialdW 10 dX12_isInput_9 rfl (by assumption) (by first | omega | exact hR _ | exact ⟨hR _, by omega⟩ | exact ⟨by omega, hR _⟩ | exact ⟨hR _, hR _⟩) ?_
  rw [show (199 + 122 * r + 1 : Int) = 200 + 122 * r by omega]
  refine xg_iconst 11 dX12_isInput_10 rfl ?_
  refine xg_icne 18 14 dX12_isInput_11 rfl rfl (by first | omega | exact hR _ | exact ⟨hR _, by omega⟩ | exact ⟨by omega, hR _⟩ | exact ⟨hR _, hR _⟩) (fun hb11 => ?_) (fun hb11 => ?_)
  · skip
    refine xg_iconst 19 dX12_isInput_18 rfl ?_
    subst hX
    exact xg_zreturn dX12_isInput_19 rfl (by first | exact bI_01 _ | omega) ⟨Nat.le_refl _, Nat.le_refl _⟩ ⟨congrArg (fun v => some (J v)) (by first | exact (bI_t (by omega)).symm | exact (bI_f (by omega)).symm), rfl⟩
  · skip
    refine xg_iconst 15 dX12_isInput_14 rfl ?_
    refine xg_goto 19 dX12_isInput_15 rfl ?_
    subst hX
    exact xg_zreturn dX12_isInput_19 rfl (by first | exact bI_01 _ | omega) ⟨Nat.le_refl _, Nat.le_refl _⟩ ⟨congrArg (fun v => some (J v)) (by first | exact (bI_t (by omega)).symm | exact (bI_f (by omega)).symm), rfl⟩

theorem dX12_isBusy_0 : decode cX12_isBusy 0 = .ok (.aload_n 0, 1) := by decide +kernel
theorem dX12_isBusy_1 : decode cX12_isBusy 1 = .ok (.getfield 13, 3) := by decide +kernel
theorem dX12_isBusy_4 : decode cX12_isBusy 4 = .ok (.bipush 16, 2) := by decide +kernel
theorem dX12_isBusy_6 : decode cX12_isBusy 6 = .ok (.iaload, 1) := by decide +kernel
theorem dX12_isBusy_7 : decode cX12_isBusy 7 = .ok (.iconst 1, 1) := by decide +kernel
theorem dX12_isBusy_8 : decode cX12_isBusy 8 = .ok (.if_icmp .ne 7, 3) := by decide +kernel
theorem dX12_isBusy_11 : decode cX12_isBusy 11 = .ok (.iconst 1, 1) := by decide +kernel
theorem dX12_isBusy_12 : decode cX12_isBusy 12 = .ok (.goto 4, 3) := by decide +kernel
theorem dX12_isBusy_15 : decode cX12_isBusy 15 = .ok (.iconst 0, 1) := by decide +kernel
theorem dX12_isBusy_16 : decode cX12_isBusy 16 = .ok (.ireturn, 1) := by decide +kernel
set_option maxHeartbeats 4000000 in
set_option maxRecDepth 100000 in
theorem ct_X12_isBusy {E : xE} {z : Nat} {T : Nat → Nat × Int} {F : Nat → Nat → Int} {I : Nat → Int → Int} {P : Nat → Nat → Option Nat} {Y : Nat → Int → Option Nat} {m : Nat} {w : Int → Int} (hw : wM T P m)(hR : w32 w) : Ct E 0 mX12_isBusy 0 0 [.ref m] (z, T, F, upA I (m + 1) w, P, Y) (xd (some (J (bI (decide (w 16 = 1))))) (z, T, F, upA I (m + 1) w, P, Y)) := by
  obtain ⟨⟨q0, q1, q2, q3⟩, -⟩ := id hw
  refine Ct.of [some (.ref m)] kt_X12_isBusy rfl (Nat.le_of_ble_eq_true rfl) rfl (fun d hd => ?_)
  generalize hX : xN E _ _ _ = X
  refine xg_aloadn 1 dX12_isBusy_0 rfl rfl rfl ?_
  refine xg_getP 4 kf_RX12_13 dX12_isBusy_1 rfl (by assumption) (by assumption) ?_
  refine xg_bipush 6 dX12_isBusy_4 rfl (by decide) ?_
  refine xg_ialdW 7 dX12_isBusy_6 rfl (by assumption) (by first | omega | exact hR _ | exact ⟨hR _, by omega⟩ | exact ⟨by omega, hR _⟩ | exact ⟨hR _, hR _⟩) ?_
  refine xg_iconst 8 dX12_isBusy_7 rfl ?_
  refine xg_icne 15 11 dX12_isBusy_8 rfl rfl (by first | omega | exact hR _ | exact ⟨hR _, by omega⟩ | exact ⟨by omega, hR _⟩ | exact ⟨hR _, hR _⟩) (fun hb8 => ?_) (fun hb8 => ?_)
  · skip
    refine xg_iconst 16 dX12_isBusy_15 rfl ?_
    subst hX
    exact xg_zreturn dX12_isBusy_16 rfl (by first | exact bI_01 _ | omega) ⟨Nat.le_refl _, Nat.le_refl _⟩ ⟨congrArg (fun v => some (J v)) (by first | exact (bI_t (by omega)).symm | exact (bI_f (by omega)).symm), rfl⟩
  · skip
    refine xg_iconst 12 dX12_isBusy_11 rfl ?_
    refine xg_goto 16 dX12_isBusy_12 rfl ?_
    subst hX
    exact xg_zreturn dX12_isBusy_16 rfl (by first | exact bI_01 _ | omega) ⟨Nat.le_refl _, Nat.le_refl _⟩ ⟨congrArg (fun v => some (J v)) (by first | exact (bI_t (by omega)).symm | exact (bI_f (by omega)).symm), rfl⟩

theorem dX12_empties_0 : decode cX12_empties 0 = .ok (.iconst 0, 1) := by decide +kernel
theorem dX12_empties_1 : decode cX12_empties 1 = .ok (.istore_n 2, 1) := by decide +kernel
theorem dX12_empties_2 : decode cX12_empties 2 = .ok (.iload_n 2, 1) := by decide +kernel
theorem dX12_empties_3 : decode cX12_empties 3 = .ok (.bipush 60, 2) := by decide +kernel
theorem dX12_empties_5 : decode cX12_empties 5 = .ok (.if_icmp .ge 18, 3) := by decide +kernel
theorem dX12_empties_8 : decode cX12_empties 8 = .ok (.aload_n 0, 1) := by decide +kernel
theorem dX12_empties_9 : decode cX12_empties 9 = .ok (.getfield 13, 3) := by decide +kernel
theorem dX12_empties_12 : decode cX12_empties 12 = .ok (.iload_n 1, 1) := by decide +kernel
theorem dX12_empties_13 : decode cX12_empties 13 = .ok (.iload_n 2, 1) := by decide +kernel
theorem dX12_empties_14 : decode cX12_empties 14 = .ok (.iadd, 1) := by decide +kernel
theorem dX12_empties_15 : decode cX12_empties 15 = .ok (.iconst (-1), 1) := by decide +kernel
theorem dX12_empties_16 : decode cX12_empties 16 = .ok (.iastore, 1) := by decide +kernel
theorem dX12_empties_17 : decode cX12_empties 17 = .ok (.iinc 2 1, 3) := by decide +kernel
theorem dX12_empties_20 : decode cX12_empties 20 = .ok (.goto (-18), 3) := by decide +kernel
theorem dX12_empties_23 : decode cX12_empties 23 = .ok (.return_, 1) := by decide +kernel
set_option maxHeartbeats 4000000 in
set_option maxRecDepth 100000 in
theorem ct_X12_empties {E : xE} {z : Nat} {T : Nat → Nat × Int} {F : Nat → Nat → Int} {I : Nat → Int → Int} {P : Nat → Nat → Option Nat} {Y : Nat → Int → Option Nat} {m : Nat} {w : Int → Int} (hw : wM T P m){row : Int} (hr : 0 ≤ row ∧ row + 60 ≤ 3601) : Ct E 0 mX12_empties 0 0 [.ref m, J row] (z, T, F, upA I (m + 1) w, P, Y) (xd none (z, T, F, upA I (m + 1) (wE w row 60), P, Y)) := by
  obtain ⟨⟨q0, q1, q2, q3⟩, -⟩ := id hw
  refine Ct.of [some (.ref m), some (J row), none] kt_X12_empties rfl (Nat.le_of_ble_eq_true rfl) rfl (fun d hd => ?_)
  generalize hX : xN E _ _ _ = X
  refine xg_iconst 1 dX12_empties_0 rfl ?_
  refine xg_istoren 2 _ dX12_empties_1 rfl rfl rfl (by decide) (Or.inr rfl) ?_
  have loop2 : ∀ (mm : Nat) (k : Nat), k ≤ 60 → 60 - (k : Int) < (mm : Int) → xG E mX12_empties (xR d 0 0) X 2 [some (.ref m), some (J row), some (J (k : Int))] [] (z, T, F, upA I (m + 1) (wE w row k), P, Y) 0 0 := by
    intro mm
    induction mm with
    | zero => intro k hk hm; exfalso; omega
    | succ mm ih =>
      intro k hk hm
      refine xg_iloadn 3 dX12_empties_2 rfl rfl rfl ?_
      refine xg_bipush 5 dX12_empties_3 rfl (by decide) ?_
      refine xg_icge 23 8 dX12_empties_5 rfl rfl (by first | omega | exact hR _ | exact ⟨hR _, by omega⟩ | exact ⟨by omega, hR _⟩ | exact ⟨hR _, hR _⟩) (fun hb5 => ?_) (fun hb5 => ?_)
      · skip
        subst hX
        exact xg_return dX12_empties_23 rfl ⟨Nat.le_refl _, Nat.le_refl _⟩ ⟨rfl, by rw [show k = 60 by omega]; rfl⟩
      · skip
        refine xg_aloadn 9 dX12_empties_8 rfl rfl rfl ?_
        refine xg_getP 12 kf_RX12_13 dX12_empties_9 rfl (by assumption) (by assumption) ?_
        refine xg_iloadn 13 dX12_empties_12 rfl rfl rfl ?_
        refine xg_iloadn 14 dX12_empties_13 rfl rfl rfl ?_
        refine xg_iadd 15 dX12_empties_14 rfl ?_
        refine xg_iconst 16 dX12_empties_15 rfl ?_
        refine xg_iastW 17 dX12_empties_16 rfl (by assumption) (by first | omega | exact hR _ | exact ⟨hR _, by omega⟩ | exact ⟨by omega, hR _⟩ | exact ⟨hR _, hR _⟩) ?_
        refine xg_iinc 20 _ dX12_empties_17 rfl rfl rfl rfl (by decide) (Or.inr rfl) ?_
        refine xg_goto 2 dX12_empties_20 rfl ?_
        rw [wE_s w row k (by omega)]
        exact xg_weak _ (xle_s rfl (xle_s rfl (xle_s rfl xle_0))) (ih (k + 1) (by omega) (by omega))
  have l0 := loop2 61 0 (by omega) (by omega)
  rw [show ((0 : Nat) : Int) = 0 from rfl, wE_0] at l0
  exact xg_weak _ (xle_s rfl (xle_s rfl (xle_s rfl xle_0))) l0

theorem dX12_entriesOf_0 : decode cX12_entriesOf 0 = .ok (.iconst 0, 1) := by decide +kernel
theorem dX12_entriesOf_1 : decode cX12_entriesOf 1 = .ok (.istore_n 2, 1) := by decide +kernel
theorem dX12_entriesOf_2 : decode cX12_entriesOf 2 = .ok (.iconst 0, 1) := by decide +kernel
theorem dX12_entriesOf_3 : decode cX12_entriesOf 3 = .ok (.istore_n 3, 1) := by decide +kernel
theorem dX12_entriesOf_4 : decode cX12_entriesOf 4 = .ok (.iload_n 3, 1) := by decide +kernel
theorem dX12_entriesOf_5 : decode cX12_entriesOf 5 = .ok (.bipush 60, 2) := by decide +kernel
theorem dX12_entriesOf_7 : decode cX12_entriesOf 7 = .ok (.if_icmp .ge 29, 3) := by decide +kernel
theorem dX12_entriesOf_10 : decode cX12_entriesOf 10 = .ok (.iload_n 2, 1) := by decide +kernel
theorem dX12_entriesOf_11 : decode cX12_entriesOf 11 = .ok (.aload_n 0, 1) := by decide +kernel
theorem dX12_entriesOf_12 : decode cX12_entriesOf 12 = .ok (.getfield 13, 3) := by decide +kernel
theorem dX12_entriesOf_15 : decode cX12_entriesOf 15 = .ok (.iload_n 1, 1) := by decide +kernel
theorem dX12_entriesOf_16 : decode cX12_entriesOf 16 = .ok (.iload_n 3, 1) := by decide +kernel
theorem dX12_entriesOf_17 : decode cX12_entriesOf 17 = .ok (.iadd, 1) := by decide +kernel
theorem dX12_entriesOf_18 : decode cX12_entriesOf 18 = .ok (.iaload, 1) := by decide +kernel
theorem dX12_entriesOf_19 : decode cX12_entriesOf 19 = .ok (.iconst (-1), 1) := by decide +kernel
theorem dX12_entriesOf_20 : decode cX12_entriesOf 20 = .ok (.if_icmp .ne 7, 3) := by decide +kernel
theorem dX12_entriesOf_23 : decode cX12_entriesOf 23 = .ok (.iconst 0, 1) := by decide +kernel
theorem dX12_entriesOf_24 : decode cX12_entriesOf 24 = .ok (.goto 4, 3) := by decide +kernel
theorem dX12_entriesOf_27 : decode cX12_entriesOf 27 = .ok (.iconst 1, 1) := by decide +kernel
theorem dX12_entriesOf_28 : decode cX12_entriesOf 28 = .ok (.iadd, 1) := by decide +kernel
theorem dX12_entriesOf_29 : decode cX12_entriesOf 29 = .ok (.istore_n 2, 1) := by decide +kernel
theorem dX12_entriesOf_30 : decode cX12_entriesOf 30 = .ok (.iinc 3 1, 3) := by decide +kernel
theorem dX12_entriesOf_33 : decode cX12_entriesOf 33 = .ok (.goto (-29), 3) := by decide +kernel
theorem dX12_entriesOf_36 : decode cX12_entriesOf 36 = .ok (.iload_n 2, 1) := by decide +kernel
theorem dX12_entriesOf_37 : decode cX12_entriesOf 37 = .ok (.ireturn, 1) := by decide +kernel
set_option maxHeartbeats 4000000 in
set_option maxRecDepth 100000 in
theorem ct_X12_entriesOf {E : xE} {z : Nat} {T : Nat → Nat × Int} {F : Nat → Nat → Int} {I : Nat → Int → Int} {P : Nat → Nat → Option Nat} {Y : Nat → Int → Option Nat} {m : Nat} {w : Int → Int} (hw : wM T P m)(hR : w32 w){row : Int} (hr : 0 ≤ row ∧ row + 60 ≤ 3601) : Ct E 0 mX12_entriesOf 0 0 [.ref m, J row] (z, T, F, upA I (m + 1) w, P, Y) (xd (some (J (sEnt w row))) (z, T, F, upA I (m + 1) w, P, Y)) := by
  obtain ⟨⟨q0, q1, q2, q3⟩, -⟩ := id hw
  refine Ct.of [some (.ref m), some (J row), none, none] kt_X12_entriesOf rfl (Nat.le_of_ble_eq_true rfl) rfl (fun d hd => ?_)
  generalize hX : xN E _ _ _ = X
  refine xg_iconst 1 dX12_entriesOf_0 rfl ?_
  refine xg_istoren 2 _ dX12_entriesOf_1 rfl rfl rfl (by decide) (Or.inr rfl) ?_
  refine xg_iconst 3 dX12_entriesOf_2 rfl ?_
  refine xg_istoren 4 _ dX12_entriesOf_3 rfl rfl rfl (by decide) (Or.inr rfl) ?_
  have loop4 : ∀ (mm : Nat) (k : Nat) (n : Int), k ≤ 60 → n = pSum (fun k => if w (row + k) = -1 then 0 else 1) k → 60 - (k : Int) < (mm : Int) → xG E mX12_entriesOf (xR d 0 0) X 4 [some (.ref m), some (J row), some (J n), some (J (k : Int))] [] (z, T, F, upA I (m + 1) w, P, Y) 0 0 := by
    intro mm
    induction mm with
    | zero => intro k n hk hn hm; exfalso; omega
    | succ mm ih =>
      intro k n hk hn hm
      refine xg_iloadn 5 dX12_entriesOf_4 rfl rfl rfl ?_
      refine xg_bipush 7 dX12_entriesOf_5 rfl (by decide) ?_
      refine xg_icge 36 10 dX12_entriesOf_7 rfl rfl (by first | omega | exact hR _ | exact ⟨hR _, by omega⟩ | exact ⟨by omega, hR _⟩ | exact ⟨hR _, hR _⟩) (fun hb7 => ?_) (fun hb7 => ?_)
      · skip
        refine xg_iloadn 37 dX12_entriesOf_36 rfl rfl rfl ?_
        subst hX
        exact xg_ireturn dX12_entriesOf_37 rfl ⟨Nat.le_refl _, Nat.le_refl _⟩ ⟨by rw [hn, show k = 60 by omega]; rfl, rfl⟩
      · skip
        refine xg_iloadn 11 dX12_entriesOf_10 rfl rfl rfl ?_
        refine xg_aloadn 12 dX12_entriesOf_11 rfl rfl rfl ?_
        refine xg_getP 15 kf_RX12_13 dX12_entriesOf_12 rfl (by assumption) (by assumption) ?_
        refine xg_iloadn 16 dX12_entriesOf_15 rfl rfl rfl ?_
        refine xg_iloadn 17 dX12_entriesOf_16 rfl rfl rfl ?_
        refine xg_iadd 18 dX12_entriesOf_17 rfl ?_
        refine xg_ialdW 19 dX12_entriesOf_18 rfl (by assumption) (by first | omega | exact hR _ | exact ⟨hR _, by omega⟩ | exact ⟨by omega, hR _⟩ | exact ⟨hR _, hR _⟩) ?_
        refine xg_iconst 20 dX12_entriesOf_19 rfl ?_
        refine xg_icne 27 23 dX12_entriesOf_20 rfl rfl (by first | omega | exact hR _ | exact ⟨hR _, by omega⟩ | exact ⟨by omega, hR _⟩ | exact ⟨hR _, hR _⟩) (fun hb20 => ?_) (fun hb20 => ?_)
        · skip
          refine xg_iconst 28 dX12_entriesOf_27 rfl ?_
          refine xg_iadd 29 dX12_entriesOf_28 rfl ?_
          refine xg_istoren 30 _ dX12_entriesOf_29 rfl rfl rfl (by decide) (Or.inr rfl) ?_
          refine xg_iinc 33 _ dX12_entriesOf_30 rfl rfl rfl rfl (by decide) (Or.inr rfl) ?_
          refine xg_goto 4 dX12_entriesOf_33 rfl ?_
          exact xg_weak _ (xle_s rfl (xle_s rfl (xle_s rfl (xle_s rfl xle_0)))) (ih (k + 1) _ (by omega) (by rw [pSum_s, hn]; first | rw [if_pos hb20] | rw [if_neg hb20]) (by omega))
        · skip
          refine xg_iconst 24 dX12_entriesOf_23 rfl ?_
          refine xg_goto 28 dX12_entriesOf_24 rfl ?_
          refine xg_iadd 29 dX12_entriesOf_28 rfl ?_
          refine xg_istoren 30 _ dX12_entriesOf_29 rfl rfl rfl (by decide) (Or.inr rfl) ?_
          refine xg_iinc 33 _ dX12_entriesOf_30 rfl rfl rfl rfl (by decide) (Or.inr rfl) ?_
          refine xg_goto 4 dX12_entriesOf_33 rfl ?_
          exact xg_weak _ (xle_s rfl (xle_s rfl (xle_s rfl (xle_s rfl xle_0)))) (ih (k + 1) _ (by omega) (by rw [pSum_s, hn]; first | rw [if_pos hb20] | rw [if_neg hb20]) (by omega))
  exact xg_weak _ (xle_s rfl (xle_s rfl (xle_s rfl (xle_s rfl xle_0)))) (loop4 61 0 0 (by omega) rfl (by omega))

theorem dX12_noRun_0 : decode cX12_noRun 0 = .ok (.iload_n 1, 1) := by decide +kernel
theorem dX12_noRun_1 : decode cX12_noRun 1 = .ok (.iconst 0, 1) := by decide +kernel
theorem dX12_noRun_2 : decode cX12_noRun 2 = .ok (.aload_n 0, 1) := by decide +kernel
theorem dX12_noRun_3 : decode cX12_noRun 3 = .ok (.invokevirtual 66, 3) := by decide +kernel
theorem dX12_noRun_6 : decode cX12_noRun 6 = .ok (.iconst 1, 1) := by decide +kernel
theorem dX12_noRun_7 : decode cX12_noRun 7 = .ok (.isub, 1) := by decide +kernel
theorem dX12_noRun_8 : decode cX12_noRun 8 = .ok (.invokestatic 70, 3) := by decide +kernel
theorem dX12_noRun_11 : decode cX12_noRun 11 = .ok (.ifCond .ne 7, 3) := by decide +kernel
theorem dX12_noRun_14 : decode cX12_noRun 14 = .ok (.iconst 1, 1) := by decide +kernel
theorem dX12_noRun_15 : decode cX12_noRun 15 = .ok (.goto 4, 3) := by decide +kernel
theorem dX12_noRun_18 : decode cX12_noRun 18 = .ok (.iconst 0, 1) := by decide +kernel
theorem dX12_noRun_19 : decode cX12_noRun 19 = .ok (.ireturn, 1) := by decide +kernel
set_option maxHeartbeats 4000000 in
set_option maxRecDepth 100000 in
theorem ct_X12_noRun {E : xE} {z : Nat} {T : Nat → Nat × Int} {F : Nat → Nat → Int} {I : Nat → Int → Int} {P : Nat → Nat → Option Nat} {Y : Nat → Int → Option Nat} {m : Nat} {w : Int → Int} (hw : wM T P m)(hN : 0 ≤ w 0 ∧ w 0 ≤ 12){v : Int} (hv : -2147483648 ≤ v ∧ v < 2147483648) : Ct E 1 mX12_noRun 0 0 [.ref m, J v] (z, T, F, upA I (m + 1) w, P, Y) (xd (some (J (bI (decide (¬ (0 ≤ v ∧ v < w 0)))))) (z, T, F, upA I (m + 1) w, P, Y)) := by
  obtain ⟨⟨q0, q1, q2, q3⟩, -⟩ := id hw
  refine Ct.of [some (.ref m), some (J v)] kt_X12_noRun rfl (Nat.le_of_ble_eq_true rfl) rfl (fun d hd => ?_)
  generalize hX : xN E _ _ _ = X
  refine xg_iloadn 1 dX12_noRun_0 rfl rfl rfl ?_
  refine xg_iconst 2 dX12_noRun_1 rfl ?_
  refine xg_aloadn 3 dX12_noRun_2 rfl rfl rfl ?_
  refine xg_callV 6 12 [] _ kv_X12_runs ⟨_, _, rfl⟩ kl_RX12_66 dX12_noRun_3 rfl (by assumption) (by omega) rfl rfl (Nat.le_of_ble_eq_true rfl) (by omega) ⟨Nat.le_refl _, Nat.le_refl _⟩ (ct_X12_runs hw) rfl ?_
  refine xg_iconst 7 dX12_noRun_6 rfl ?_
  refine xg_isub 8 dX12_noRun_7 rfl ?_
  refine xg_callS 11 [_, _, _] _ ks_X12_in kl_RX12_70 dX12_noRun_8 rfl rfl rfl (Nat.le_of_ble_eq_true rfl) (by omega) ⟨Nat.le_refl _, Nat.le_refl _⟩ (ct_X12_in (by omega)) rfl ?_
  refine xg_dne 18 14 dX12_noRun_11 rfl rfl (fun hb11 => ?_) (fun hb11 => ?_)
  · skip
    refine xg_iconst 19 dX12_noRun_18 rfl ?_
    subst hX
    exact xg_zreturn dX12_noRun_19 rfl (by first | exact bI_01 _ | omega) ⟨Nat.le_refl _, Nat.le_refl _⟩ ⟨congrArg (fun v => some (J v)) (by first | exact (bI_t (by omega)).symm | exact (bI_f (by omega)).symm), rfl⟩
  · skip
    refine xg_iconst 15 dX12_noRun_14 rfl ?_
    refine xg_goto 19 dX12_noRun_15 rfl ?_
    subst hX
    exact xg_zreturn dX12_noRun_19 rfl (by first | exact bI_01 _ | omega) ⟨Nat.le_refl _, Nat.le_refl _⟩ ⟨congrArg (fun v => some (J v)) (by first | exact (bI_t (by omega)).symm | exact (bI_f (by omega)).symm), rfl⟩

theorem dX12_noKey_0 : decode cX12_noKey 0 = .ok (.iload_n 0, 1) := by decide +kernel
theorem dX12_noKey_1 : decode cX12_noKey 1 = .ok (.iconst 0, 1) := by decide +kernel
theorem dX12_noKey_2 : decode cX12_noKey 2 = .ok (.bipush 59, 2) := by decide +kernel
theorem dX12_noKey_4 : decode cX12_noKey 4 = .ok (.invokestatic 70, 3) := by decide +kernel
theorem dX12_noKey_7 : decode cX12_noKey 7 = .ok (.ifCond .ne 7, 3) := by decide +kernel
theorem dX12_noKey_10 : decode cX12_noKey 10 = .ok (.iconst 1, 1) := by decide +kernel
theorem dX12_noKey_11 : decode cX12_noKey 11 = .ok (.goto 4, 3) := by decide +kernel
theorem dX12_noKey_14 : decode cX12_noKey 14 = .ok (.iconst 0, 1) := by decide +kernel
theorem dX12_noKey_15 : decode cX12_noKey 15 = .ok (.ireturn, 1) := by decide +kernel
set_option maxHeartbeats 4000000 in
set_option maxRecDepth 100000 in
theorem ct_X12_noKey {E : xE} {z : Nat} {T : Nat → Nat × Int} {F : Nat → Nat → Int} {I : Nat → Int → Int} {P : Nat → Nat → Option Nat} {Y : Nat → Int → Option Nat} {m : Nat} {w : Int → Int} {v : Int} (hv : -2147483648 ≤ v ∧ v < 2147483648) : Ct E 1 mX12_noKey 0 0 [J v] (z, T, F, upA I (m + 1) w, P, Y) (xd (some (J (bI (decide (¬ (0 ≤ v ∧ v < 60)))))) (z, T, F, upA I (m + 1) w, P, Y)) := by
  skip
  refine Ct.of [some (J v)] kt_X12_noKey rfl (Nat.le_of_ble_eq_true rfl) rfl (fun d hd => ?_)
  generalize hX : xN E _ _ _ = X
  refine xg_iloadn 1 dX12_noKey_0 rfl rfl rfl ?_
  refine xg_iconst 2 dX12_noKey_1 rfl ?_
  refine xg_bipush 4 dX12_noKey_2 rfl (by decide) ?_
  refine xg_callS 7 [_, _, _] _ ks_X12_in kl_RX12_70 dX12_noKey_4 rfl rfl rfl (Nat.le_of_ble_eq_true rfl) (by omega) ⟨Nat.le_refl _, Nat.le_refl _⟩ (ct_X12_in (by omega)) rfl ?_
  refine xg_dne 14 10 dX12_noKey_7 rfl rfl (fun hb7 => ?_) (fun hb7 => ?_)
  · skip
    refine xg_iconst 15 dX12_noKey_14 rfl ?_
    subst hX
    exact xg_zreturn dX12_noKey_15 rfl (by first | exact bI_01 _ | omega) ⟨Nat.le_refl _, Nat.le_refl _⟩ ⟨congrArg (fun v => some (J v)) (by first | exact (bI_t (by omega)).symm | exact (bI_f (by omega)).symm), rfl⟩
  · skip
    refine xg_iconst 11 dX12_noKey_10 rfl ?_
    refine xg_goto 15 dX12_noKey_11 rfl ?_
    subst hX
    exact xg_zreturn dX12_noKey_15 rfl (by first | exact bI_01 _ | omega) ⟨Nat.le_refl _, Nat.le_refl _⟩ ⟨congrArg (fun v => some (J v)) (by first | exact (bI_t (by omega)).symm | exact (bI_f (by omega)).symm), rfl⟩

theorem dX12_noTicks_0 : decode cX12_noTicks 0 = .ok (.iload_n 0, 1) := by decide +kernel
theorem dX12_noTicks_1 : decode cX12_noTicks 1 = .ok (.iconst 0, 1) := by decide +kernel
theorem dX12_noTicks_2 : decode cX12_noTicks 2 = .ok (.bipush 60, 2) := by decide +kernel
theorem dX12_noTicks_4 : decode cX12_noTicks 4 = .ok (.invokestatic 70, 3) := by decide +kernel
theorem dX12_noTicks_7 : decode cX12_noTicks 7 = .ok (.ifCond .ne 7, 3) := by decide +kernel
theorem dX12_noTicks_10 : decode cX12_noTicks 10 = .ok (.iconst 1, 1) := by decide +kernel
theorem dX12_noTicks_11 : decode cX12_noTicks 11 = .ok (.goto 4, 3) := by decide +kernel
theorem dX12_noTicks_14 : decode cX12_noTicks 14 = .ok (.iconst 0, 1) := by decide +kernel
theorem dX12_noTicks_15 : decode cX12_noTicks 15 = .ok (.ireturn, 1) := by decide +kernel
set_option maxHeartbeats 4000000 in
set_option maxRecDepth 100000 in
theorem ct_X12_noTicks {E : xE} {z : Nat} {T : Nat → Nat × Int} {F : Nat → Nat → Int} {I : Nat → Int → Int} {P : Nat → Nat → Option Nat} {Y : Nat → Int → Option Nat} {m : Nat} {w : Int → Int} {v : Int} (hv : -2147483648 ≤ v ∧ v < 2147483648) : Ct E 1 mX12_noTicks 0 0 [J v] (z, T, F, upA I (m + 1) w, P, Y) (xd (some (J (bI (decide (¬ (0 ≤ v ∧ v ≤ 60)))))) (z, T, F, upA I (m + 1) w, P, Y)) := by
  skip
  refine Ct.of [some (J v)] kt_X12_noTicks rfl (Nat.le_of_ble_eq_true rfl) rfl (fun d hd => ?_)
  generalize hX : xN E _ _ _ = X
  refine xg_iloadn 1 dX12_noTicks_0 rfl rfl rfl ?_
  refine xg_iconst 2 dX12_noTicks_1 rfl ?_
  refine xg_bipush 4 dX12_noTicks_2 rfl (by decide) ?_
  refine xg_callS 7 [_, _, _] _ ks_X12_in kl_RX12_70 dX12_noTicks_4 rfl rfl rfl (Nat.le_of_ble_eq_true rfl) (by omega) ⟨Nat.le_refl _, Nat.le_refl _⟩ (ct_X12_in (by omega)) rfl ?_
  refine xg_dne 14 10 dX12_noTicks_7 rfl rfl (fun hb7 => ?_) (fun hb7 => ?_)
  · skip
    refine xg_iconst 15 dX12_noTicks_14 rfl ?_
    subst hX
    exact xg_zreturn dX12_noTicks_15 rfl (by first | exact bI_01 _ | omega) ⟨Nat.le_refl _, Nat.le_refl _⟩ ⟨congrArg (fun v => some (J v)) (by first | exact (bI_t (by omega)).symm | exact (bI_f (by omega)).symm), rfl⟩
  · skip
    refine xg_iconst 11 dX12_noTicks_10 rfl ?_
    refine xg_goto 15 dX12_noTicks_11 rfl ?_
    subst hX
    exact xg_zreturn dX12_noTicks_15 rfl (by first | exact bI_01 _ | omega) ⟨Nat.le_refl _, Nat.le_refl _⟩ ⟨congrArg (fun v => some (J v)) (by first | exact (bI_t (by omega)).symm | exact (bI_f (by omega)).symm), rfl⟩

theorem dX12_more_0 : decode cX12_more 0 = .ok (.aload_n 0, 1) := by decide +kernel
theorem dX12_more_1 : decode cX12_more 1 = .ok (.getfield 13, 3) := by decide +kernel
theorem dX12_more_4 : decode cX12_more 4 = .ok (.iload_n 1, 1) := by decide +kernel
theorem dX12_more_5 : decode cX12_more 5 = .ok (.iload_n 3, 1) := by decide +kernel
theorem dX12_more_6 : decode cX12_more 6 = .ok (.aload_n 0, 1) := by decide +kernel
theorem dX12_more_7 : decode cX12_more 7 = .ok (.getfield 13, 3) := by decide +kernel
theorem dX12_more_10 : decode cX12_more 10 = .ok (.iload_n 1, 1) := by decide +kernel
theorem dX12_more_11 : decode cX12_more 11 = .ok (.iaload, 1) := by decide +kernel
theorem dX12_more_12 : decode cX12_more 12 = .ok (.iload_n 2, 1) := by decide +kernel
theorem dX12_more_13 : decode cX12_more 13 = .ok (.iadd, 1) := by decide +kernel
theorem dX12_more_14 : decode cX12_more 14 = .ok (.invokestatic 74, 3) := by decide +kernel
theorem dX12_more_17 : decode cX12_more 17 = .ok (.iastore, 1) := by decide +kernel
theorem dX12_more_18 : decode cX12_more 18 = .ok (.return_, 1) := by decide +kernel
set_option maxHeartbeats 4000000 in
set_option maxRecDepth 100000 in
theorem ct_X12_more {E : xE} {z : Nat} {T : Nat → Nat × Int} {F : Nat → Nat → Int} {I : Nat → Int → Int} {P : Nat → Nat → Option Nat} {Y : Nat → Int → Option Nat} {m : Nat} {w : Int → Int} (hw : wM T P m){at_ x most : Int} (ha : 0 ≤ at_ ∧ at_ < 3601) (h1 : -2147483648 ≤ w at_ + x ∧ w at_ + x < 2147483648) (h2 : -2147483648 ≤ most ∧ most < 2147483648) : Ct E 1 mX12_more 0 0 [.ref m, J at_, J x, J most] (z, T, F, upA I (m + 1) w, P, Y) (xd none (z, T, F, upA I (m + 1) (wS w at_ (min most (w at_ + x))), P, Y)) := by
  obtain ⟨⟨q0, q1, q2, q3⟩, -⟩ := id hw
  refine Ct.of [some (.ref m), some (J at_), some (J x), some (J most)] kt_X12_more rfl (Nat.le_of_ble_eq_true rfl) rfl (fun d hd => ?_)
  generalize hX : xN E _ _ _ = X
  refine xg_aloadn 1 dX12_more_0 rfl rfl rfl ?_
  refine xg_getP 4 kf_RX12_13 dX12_more_1 rfl (by assumption) (by assumption) ?_
  refine xg_iloadn 5 dX12_more_4 rfl rfl rfl ?_
  refine xg_iloadn 6 dX12_more_5 rfl rfl rfl ?_
  refine xg_aloadn 7 dX12_more_6 rfl rfl rfl ?_
  refine xg_getP 10 kf_RX12_13 dX12_more_7 rfl (by assumption) (by assumption) ?_
  refine xg_iloadn 11 dX12_more_10 rfl rfl rfl ?_
  refine xg_ialdW 12 dX12_more_11 rfl (by assumption) (by first | omega | exact hR _ | exact ⟨hR _, by omega⟩ | exact ⟨by omega, hR _⟩ | exact ⟨hR _, hR _⟩) ?_
  refine xg_iloadn 13 dX12_more_12 rfl rfl rfl ?_
  refine xg_iadd 14 dX12_more_13 rfl ?_
  refine xg_mmin 17 kl_RX12_74 dX12_more_14 rfl (by first | omega | exact hR _ | exact ⟨hR _, by omega⟩ | exact ⟨by omega, hR _⟩ | exact ⟨hR _, hR _⟩) (Nat.le_of_ble_eq_true rfl) (by omega) ⟨Nat.le_refl _, Nat.le_refl _⟩ ?_
  refine xg_iastW 18 dX12_more_17 rfl (by assumption) (by first | omega | exact hR _ | exact ⟨hR _, by omega⟩ | exact ⟨by omega, hR _⟩ | exact ⟨hR _, hR _⟩) ?_
  subst hX
  exact xg_return dX12_more_18 rfl ⟨Nat.le_refl _, Nat.le_refl _⟩ ⟨rfl, rfl⟩

theorem dX12_drawn_0 : decode cX12_drawn 0 = .ok (.aload_n 0, 1) := by decide +kernel
theorem dX12_drawn_1 : decode cX12_drawn 1 = .ok (.getfield 13, 3) := by decide +kernel
theorem dX12_drawn_4 : decode cX12_drawn 4 = .ok (.bipush 15, 2) := by decide +kernel
theorem dX12_drawn_6 : decode cX12_drawn 6 = .ok (.ldc 79, 2) := by decide +kernel
theorem dX12_drawn_8 : decode cX12_drawn 8 = .ok (.aload_n 0, 1) := by decide +kernel
theorem dX12_drawn_9 : decode cX12_drawn 9 = .ok (.getfield 13, 3) := by decide +kernel
theorem dX12_drawn_12 : decode cX12_drawn 12 = .ok (.bipush 15, 2) := by decide +kernel
theorem dX12_drawn_14 : decode cX12_drawn 14 = .ok (.iaload, 1) := by decide +kernel
theorem dX12_drawn_15 : decode cX12_drawn 15 = .ok (.imul, 1) := by decide +kernel
theorem dX12_drawn_16 : decode cX12_drawn 16 = .ok (.sipush 12345, 3) := by decide +kernel
theorem dX12_drawn_19 : decode cX12_drawn 19 = .ok (.iadd, 1) := by decide +kernel
theorem dX12_drawn_20 : decode cX12_drawn 20 = .ok (.iastore, 1) := by decide +kernel
theorem dX12_drawn_21 : decode cX12_drawn 21 = .ok (.aload_n 0, 1) := by decide +kernel
theorem dX12_drawn_22 : decode cX12_drawn 22 = .ok (.getfield 13, 3) := by decide +kernel
theorem dX12_drawn_25 : decode cX12_drawn 25 = .ok (.bipush 15, 2) := by decide +kernel
theorem dX12_drawn_27 : decode cX12_drawn 27 = .ok (.iaload, 1) := by decide +kernel
theorem dX12_drawn_28 : decode cX12_drawn 28 = .ok (.bipush 16, 2) := by decide +kernel
theorem dX12_drawn_30 : decode cX12_drawn 30 = .ok (.ishr, 1) := by decide +kernel
theorem dX12_drawn_31 : decode cX12_drawn 31 = .ok (.sipush 32767, 3) := by decide +kernel
theorem dX12_drawn_34 : decode cX12_drawn 34 = .ok (.iand, 1) := by decide +kernel
theorem dX12_drawn_35 : decode cX12_drawn 35 = .ok (.iload_n 1, 1) := by decide +kernel
theorem dX12_drawn_36 : decode cX12_drawn 36 = .ok (.irem, 1) := by decide +kernel
theorem dX12_drawn_37 : decode cX12_drawn 37 = .ok (.ireturn, 1) := by decide +kernel
set_option maxHeartbeats 4000000 in
set_option maxRecDepth 100000 in
theorem ct_X12_drawn {E : xE} {z : Nat} {T : Nat → Nat × Int} {F : Nat → Nat → Int} {I : Nat → Int → Int} {P : Nat → Nat → Option Nat} {Y : Nat → Int → Option Nat} {m : Nat} {w : Int → Int} (hw : wM T P m){x : Int} (hx : 0 < x ∧ x < 2147483648) : Ct E 0 mX12_drawn 0 0 [.ref m, J x] (z, T, F, upA I (m + 1) w, P, Y) (xd (some (J (xand (xshr (xw (1103515245 * w 15 + 12345)) 16) 32767 % x))) (z, T, F, upA I (m + 1) (wS w 15 (xw (1103515245 * w 15 + 12345))), P, Y)) := by
  obtain ⟨⟨q0, q1, q2, q3⟩, -⟩ := id hw
  refine Ct.of [some (.ref m), some (J x)] kt_X12_drawn rfl (Nat.le_of_ble_eq_true rfl) rfl (fun d hd => ?_)
  generalize hX : xN E _ _ _ = X
  refine xg_aloadn 1 dX12_drawn_0 rfl rfl rfl ?_
  refine xg_getP 4 kf_RX12_13 dX12_drawn_1 rfl (by assumption) (by assumption) ?_
  refine xg_bipush 6 dX12_drawn_4 rfl (by decide) ?_
  refine xg_ldc (z := 1103515245) 8 kk_RX12_79 dX12_drawn_6 rfl rfl ?_
  refine xg_aloadn 9 dX12_drawn_8 rfl rfl rfl ?_
  refine xg_getP 12 kf_RX12_13 dX12_drawn_9 rfl (by assumption) (by assumption) ?_
  refine xg_bipush 14 dX12_drawn_12 rfl (by decide) ?_
  refine xg_ialdW 15 dX12_drawn_14 rfl (by assumption) (by first | omega | exact hR _ | exact ⟨hR _, by omega⟩ | exact ⟨by omega, hR _⟩ | exact ⟨hR _, hR _⟩) ?_
  refine xg_imul 16 dX12_drawn_15 rfl ?_
  refine xg_sipush 19 dX12_drawn_16 rfl (by decide) ?_
  refine xg_iadd 20 dX12_drawn_19 rfl ?_
  rw [← J_xw (1103515245 * w 15 + 12345)]
  refine xg_iastW 21 dX12_drawn_20 rfl (by assumption) (by first | omega | exact hR _ | exact ⟨hR _, by omega⟩ | exact ⟨by omega, hR _⟩ | exact ⟨hR _, hR _⟩) ?_
  refine xg_aloadn 22 dX12_drawn_21 rfl rfl rfl ?_
  refine xg_getP 25 kf_RX12_13 dX12_drawn_22 rfl (by assumption) (by assumption) ?_
  refine xg_bipush 27 dX12_drawn_25 rfl (by decide) ?_
  refine xg_ialdW 28 dX12_drawn_27 rfl (by assumption) (by first | omega | exact hR _ | exact ⟨hR _, by omega⟩ | exact ⟨by omega, hR _⟩ | exact ⟨hR _, hR _⟩) ?_
  rw [wS_at]
  refine xg_bipush 30 dX12_drawn_28 rfl (by decide) ?_
  refine xg_ishr 31 dX12_drawn_30 rfl ?_
  refine xg_sipush 34 dX12_drawn_31 rfl (by decide) ?_
  refine xg_iand 35 dX12_drawn_34 rfl ?_
  refine xg_iloadn 36 dX12_drawn_35 rfl rfl rfl ?_
  have hx2 := xdr (xw (1103515245 * w 15 + 12345))
  refine xg_irem 37 dX12_drawn_36 rfl (by first | omega | exact hR _ | exact ⟨hR _, by omega⟩ | exact ⟨by omega, hR _⟩ | exact ⟨hR _, hR _⟩) ?_
  subst hX
  exact xg_ireturn dX12_drawn_37 rfl ⟨Nat.le_refl _, Nat.le_refl _⟩ ⟨rfl, rfl⟩

