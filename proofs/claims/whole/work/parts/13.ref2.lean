def wOk (w : Int → Int) : Prop := w32 w ∧ (0 ≤ w 0 ∧ w 0 ≤ 12) ∧ (0 ≤ w 1 ∧ w 1 ≤ 12) ∧ (w 2 = 0 ∨ w 2 = 1) ∧ (w 3 = 0 ∨ w 3 = 1) ∧ (2 ≤ w 4 ∧ w 4 ≤ 4) ∧ (2 ≤ w 5 ∧ w 5 ≤ 6) ∧ (0 ≤ w 6 ∧ w 6 ≤ 9) ∧ (∀ i : Int, 7 ≤ i → i ≤ 12 → 0 ≤ w i ∧ w i ≤ 99999) ∧ (0 ≤ w 13 ∧ w 13 ≤ 9999) ∧ (0 ≤ w 14 ∧ w 14 ≤ 60) ∧ (w 16 = 0 ∨ w 16 = 1) ∧ (0 ≤ w 17 ∧ w 17 ≤ 3) ∧ (0 ≤ w 18 ∧ w 18 ≤ 60) ∧ (∀ i : Int, 19 ≤ i → i < 1663 → -1 ≤ w i ∧ w i ≤ 100)
theorem nSet_t {p : Nat → Bool} {r : Nat} (h : p r = true) (hr : r < 30) : xor2 (nSet p r : Nat) (xshl 1 (r : Int)) = (nSet p (r + 1) : Nat) := by
  have h1 := nSet_lt p r
  have h2 : (2 : Nat) ^ r ≤ 2 ^ 30 := Nat.pow_le_pow_right (by omega) (by omega)
  rw [xshl1' (by omega), xor2_nat (by omega) (by omega), nSet, if_pos h]
theorem nSet_f {p : Nat → Bool} {r : Nat} (h : p r = false) (hr : r < 30) : xor2 (nSet p r : Nat) 0 = (nSet p (r + 1) : Nat) := by
  have h1 := nSet_lt p r
  have h2 : (2 : Nat) ^ r ≤ 2 ^ 30 := Nat.pow_le_pow_right (by omega) (by omega)
  rw [show (0 : Int) = ((0 : Nat) : Int) from rfl, xor2_nat (by omega) (by omega), nSet, h]; rfl
theorem nSet_31 (p : Nat → Bool) {r : Nat} (h : r ≤ 12) : nSet p r < 4096 := Nat.lt_of_lt_of_le (nSet_lt p r) (show 2 ^ r ≤ 2 ^ 12 from Nat.pow_le_pow_right (by omega) h)
def wN (w : Int → Int) : Nat := (w 0).toNat
def sRuns (w : Int → Int) (l : Int) : Nat := nSet (fun r => decide (w (199 + 122 * (r : Int)) = l)) (wN w)
def sInp (w : Int → Int) : Nat := nSet (fun r => decide (w (200 + 122 * (r : Int)) = 1)) (wN w)
def sEntIn (w : Int → Int) (s : Nat) : Int := pSum (fun r => if s.testBit r.toNat = true then sEnt w (201 + 122 * r) else 0) (wN w)
def sMany (w : Int → Int) (l : Int) : Int := pSum (fun r => if w (199 + 122 * r) = l then 1 else 0) (wN w)
def sDue (w : Int → Int) (l : Int) : Prop := if w 3 = 0 then (if l = 3 then 2 else w 4) ≤ sMany w l else if l = 0 then w 4 ≤ sMany w l else if l = 3 then 1 < sMany w l else (1 < sMany w l ∨ w 5 * w 4 * (if l = 2 then w 4 else 1) < sEntIn w (sRuns w l))
theorem xbc_runs {w : Int → Int} (l : Int) (h : w 0 ≤ 12) : xbc (sRuns w l : Nat) = sMany w l := by
  unfold sRuns sMany
  rw [xbc_set _ (by unfold wN; omega)]
  refine pSum_congr (fun j _ => ?_)
  simp
theorem sMany_bd (w : Int → Int) (l : Int) : 0 ≤ sMany w l ∧ sMany w l ≤ wN w := by
  have := pSum_bd (f := fun r => if w (199 + 122 * r) = l then 1 else 0) (b := 1) (k := wN w) (fun j _ => by split <;> omega)
  unfold sMany; omega
theorem pEI_bd (w : Int → Int) (s : Nat) (k : Nat) : 0 ≤ pSum (fun r => if s.testBit r.toNat = true then sEnt w (201 + 122 * r) else 0) k ∧ pSum (fun r => if s.testBit r.toNat = true then sEnt w (201 + 122 * r) else 0) k ≤ 60 * k :=
  pSum_bd (f := fun r => if s.testBit r.toNat = true then sEnt w (201 + 122 * r) else 0) (b := 60) (k := k) (fun j _ => by have := sEnt_bd w (201 + 122 * j); split <;> omega)
theorem sEntIn_bd {w : Int → Int} (s : Nat) (h : w 0 ≤ 12) : 0 ≤ sEntIn w s ∧ sEntIn w s ≤ 720 := by
  have := pEI_bd w s (wN w)
  unfold sEntIn
  have : wN w ≤ 12 := by unfold wN; omega
  omega
theorem wN_i {w : Int → Int} (h : 0 ≤ w 0) : ((wN w : Nat) : Int) = w 0 := by unfold wN; omega
def sFind (p : Nat → Bool) : Nat → Nat → Nat
  | 0, lo => lo
  | k + 1, lo => if p lo = true then lo else sFind p k (lo + 1)
def pAll (p : Nat → Bool) (lo : Nat) : Nat → Bool
  | 0 => true
  | k + 1 => pAll p lo k && p (lo + k)
def wInp (w : Int → Int) (r : Nat) : Bool := decide (w (200 + 122 * (r : Int)) = 1)
def wHas (w : Int → Int) (key : Int) (r : Nat) : Bool := decide (w (201 + 122 * (r : Int) + key) ≠ -1)
def sNewI (w : Int → Int) (key : Int) : Nat := sFind (fun r => wInp w r && wHas w key r) (wN w) 0
def sNewW (w : Int → Int) (key : Int) : Int := if sNewI w key = wN w then -1 else (sNewI w key : Int)
def sNewR (w : Int → Int) (key : Int) : Nat := sFind (fun r => wHas w key r) (wN w) 0
def sNewO (w : Int → Int) (key : Int) : Int := if w (19 + key) ≠ -1 then 0 else if sNewR w key = wN w then -1 else (sNewR w key : Int) + 1
theorem sFind_ge (p : Nat → Bool) : ∀ k lo : Nat, lo ≤ sFind p k lo ∧ sFind p k lo ≤ lo + k
  | 0, lo => by simp [sFind]
  | k + 1, lo => by
    have := sFind_ge p k (lo + 1)
    rw [sFind]
    split <;> omega
def sNext (w : Int → Int) : Nat := sFind (fun k => decide (sNewW w (k : Int) ≠ -1)) (60 - (w 18).toNat) (w 18).toNat
def sLow (w : Int → Int) (key : Int) : Nat → Bool
  | 0 => false
  | r + 1 => !(wInp w r) && (sLow w key r || (wHas w key r && pAll (fun e => !(wInp w e)) r (wN w - r)))
def sFnd (w : Int → Int) (key : Int) : Int :=
  let v := if sNewO w key = -1 then 100 else if sNewO w key = 0 then w (19 + key) else w (201 + 122 * (sNewO w key - 1) + key)
  if v = 100 then -1 else v
def sTook (w : Int → Int) (key : Int) : Int := (if 0 < sEnt w 19 then 1 else 0) + (if sNewO w key = -1 then w 0 else if sNewO w key = 0 then 0 else sNewO w key)
def sFndN (w : Int → Int) : Int := pSum (fun k => if sFnd w k = -1 then 0 else 1) 60
theorem sNewO_bd {w : Int → Int} (key : Int) (h : 0 ≤ w 0 ∧ w 0 ≤ 12) : -1 ≤ sNewO w key ∧ sNewO w key ≤ 12 := by
  have h1 := sFind_ge (fun r => wHas w key r) (wN w) 0
  have h2 := wN_i h.1
  unfold sNewO sNewR
  split
  · omega
  · split <;> omega
theorem sNewW_bd {w : Int → Int} (key : Int) (h : 0 ≤ w 0 ∧ w 0 ≤ 12) : -1 ≤ sNewW w key ∧ sNewW w key < 12 := by
  have h1 := sFind_ge (fun r => wInp w r && wHas w key r) (wN w) 0
  have h2 := wN_i h.1
  unfold sNewW sNewI
  split <;> omega
theorem dJ6_bitCount_0f7a4_0 : decode cJ6_bitCount_0f7a4 0 = .ok (.iload_n 0, 1) := by decide +kernel
theorem dJ6_bitCount_0f7a4_1 : decode cJ6_bitCount_0f7a4 1 = .ok (.iload_n 0, 1) := by decide +kernel
theorem dJ6_bitCount_0f7a4_2 : decode cJ6_bitCount_0f7a4 2 = .ok (.iconst 1, 1) := by decide +kernel
theorem dJ6_bitCount_0f7a4_3 : decode cJ6_bitCount_0f7a4 3 = .ok (.iushr, 1) := by decide +kernel
theorem dJ6_bitCount_0f7a4_4 : decode cJ6_bitCount_0f7a4 4 = .ok (.ldc_w 265, 3) := by decide +kernel
theorem dJ6_bitCount_0f7a4_7 : decode cJ6_bitCount_0f7a4 7 = .ok (.iand, 1) := by decide +kernel
theorem dJ6_bitCount_0f7a4_8 : decode cJ6_bitCount_0f7a4 8 = .ok (.isub, 1) := by decide +kernel
theorem dJ6_bitCount_0f7a4_9 : decode cJ6_bitCount_0f7a4 9 = .ok (.istore_n 0, 1) := by decide +kernel
theorem dJ6_bitCount_0f7a4_10 : decode cJ6_bitCount_0f7a4 10 = .ok (.iload_n 0, 1) := by decide +kernel
theorem dJ6_bitCount_0f7a4_11 : decode cJ6_bitCount_0f7a4 11 = .ok (.ldc_w 266, 3) := by decide +kernel
theorem dJ6_bitCount_0f7a4_14 : decode cJ6_bitCount_0f7a4 14 = .ok (.iand, 1) := by decide +kernel
theorem dJ6_bitCount_0f7a4_15 : decode cJ6_bitCount_0f7a4 15 = .ok (.iload_n 0, 1) := by decide +kernel
theorem dJ6_bitCount_0f7a4_16 : decode cJ6_bitCount_0f7a4 16 = .ok (.iconst 2, 1) := by decide +kernel
theorem dJ6_bitCount_0f7a4_17 : decode cJ6_bitCount_0f7a4 17 = .ok (.iushr, 1) := by decide +kernel
theorem dJ6_bitCount_0f7a4_18 : decode cJ6_bitCount_0f7a4 18 = .ok (.ldc_w 266, 3) := by decide +kernel
theorem dJ6_bitCount_0f7a4_21 : decode cJ6_bitCount_0f7a4 21 = .ok (.iand, 1) := by decide +kernel
theorem dJ6_bitCount_0f7a4_22 : decode cJ6_bitCount_0f7a4 22 = .ok (.iadd, 1) := by decide +kernel
theorem dJ6_bitCount_0f7a4_23 : decode cJ6_bitCount_0f7a4 23 = .ok (.istore_n 0, 1) := by decide +kernel
theorem dJ6_bitCount_0f7a4_24 : decode cJ6_bitCount_0f7a4 24 = .ok (.iload_n 0, 1) := by decide +kernel
theorem dJ6_bitCount_0f7a4_25 : decode cJ6_bitCount_0f7a4 25 = .ok (.iload_n 0, 1) := by decide +kernel
theorem dJ6_bitCount_0f7a4_26 : decode cJ6_bitCount_0f7a4 26 = .ok (.iconst 4, 1) := by decide +kernel
theorem dJ6_bitCount_0f7a4_27 : decode cJ6_bitCount_0f7a4 27 = .ok (.iushr, 1) := by decide +kernel
theorem dJ6_bitCount_0f7a4_28 : decode cJ6_bitCount_0f7a4 28 = .ok (.iadd, 1) := by decide +kernel
theorem dJ6_bitCount_0f7a4_29 : decode cJ6_bitCount_0f7a4 29 = .ok (.ldc_w 267, 3) := by decide +kernel
theorem dJ6_bitCount_0f7a4_32 : decode cJ6_bitCount_0f7a4 32 = .ok (.iand, 1) := by decide +kernel
theorem dJ6_bitCount_0f7a4_33 : decode cJ6_bitCount_0f7a4 33 = .ok (.istore_n 0, 1) := by decide +kernel
theorem dJ6_bitCount_0f7a4_34 : decode cJ6_bitCount_0f7a4 34 = .ok (.iload_n 0, 1) := by decide +kernel
theorem dJ6_bitCount_0f7a4_35 : decode cJ6_bitCount_0f7a4 35 = .ok (.iload_n 0, 1) := by decide +kernel
theorem dJ6_bitCount_0f7a4_36 : decode cJ6_bitCount_0f7a4 36 = .ok (.bipush 8, 2) := by decide +kernel
theorem dJ6_bitCount_0f7a4_38 : decode cJ6_bitCount_0f7a4 38 = .ok (.iushr, 1) := by decide +kernel
theorem dJ6_bitCount_0f7a4_39 : decode cJ6_bitCount_0f7a4 39 = .ok (.iadd, 1) := by decide +kernel
theorem dJ6_bitCount_0f7a4_40 : decode cJ6_bitCount_0f7a4 40 = .ok (.istore_n 0, 1) := by decide +kernel
theorem dJ6_bitCount_0f7a4_41 : decode cJ6_bitCount_0f7a4 41 = .ok (.iload_n 0, 1) := by decide +kernel
theorem dJ6_bitCount_0f7a4_42 : decode cJ6_bitCount_0f7a4 42 = .ok (.iload_n 0, 1) := by decide +kernel
theorem dJ6_bitCount_0f7a4_43 : decode cJ6_bitCount_0f7a4 43 = .ok (.bipush 16, 2) := by decide +kernel
theorem dJ6_bitCount_0f7a4_45 : decode cJ6_bitCount_0f7a4 45 = .ok (.iushr, 1) := by decide +kernel
theorem dJ6_bitCount_0f7a4_46 : decode cJ6_bitCount_0f7a4 46 = .ok (.iadd, 1) := by decide +kernel
theorem dJ6_bitCount_0f7a4_47 : decode cJ6_bitCount_0f7a4 47 = .ok (.istore_n 0, 1) := by decide +kernel
theorem dJ6_bitCount_0f7a4_48 : decode cJ6_bitCount_0f7a4 48 = .ok (.iload_n 0, 1) := by decide +kernel
theorem dJ6_bitCount_0f7a4_49 : decode cJ6_bitCount_0f7a4 49 = .ok (.bipush 63, 2) := by decide +kernel
theorem dJ6_bitCount_0f7a4_51 : decode cJ6_bitCount_0f7a4 51 = .ok (.iand, 1) := by decide +kernel
theorem dJ6_bitCount_0f7a4_52 : decode cJ6_bitCount_0f7a4 52 = .ok (.ireturn, 1) := by decide +kernel
set_option maxHeartbeats 4000000 in
set_option maxRecDepth 100000 in
theorem ct_J6_bitCount_0f7a4 {E : xE} {h : xH} {a : Int} : Ct E 0 mJ6_bitCount_0f7a4 0 0 [J a] h (xd (some (J (xbc a))) h) := by
  skip
  refine Ct.of [some (J a)] kt_J6_bitCount_0f7a4 rfl (Nat.le_of_ble_eq_true rfl) rfl (fun d hd => ?_)
  generalize hX : xN E _ _ _ = X
  refine xg_iloadn 1 dJ6_bitCount_0f7a4_0 rfl rfl rfl ?_
  refine xg_iloadn 2 dJ6_bitCount_0f7a4_1 rfl rfl rfl ?_
  refine xg_iconst 3 dJ6_bitCount_0f7a4_2 rfl ?_
  refine xg_iushr 4 dJ6_bitCount_0f7a4_3 rfl ?_
  refine xg_ldcw (z := 1431655765) 7 kk_RJ6_265 dJ6_bitCount_0f7a4_4 rfl rfl ?_
  refine xg_iand 8 dJ6_bitCount_0f7a4_7 rfl ?_
  refine xg_isub 9 dJ6_bitCount_0f7a4_8 rfl ?_
  refine xg_istoren 10 _ dJ6_bitCount_0f7a4_9 rfl rfl rfl (by decide) (Or.inl rfl) ?_
  refine xg_iloadn 11 dJ6_bitCount_0f7a4_10 rfl rfl rfl ?_
  refine xg_ldcw (z := 858993459) 14 kk_RJ6_266 dJ6_bitCount_0f7a4_11 rfl rfl ?_
  refine xg_iand 15 dJ6_bitCount_0f7a4_14 rfl ?_
  refine xg_iloadn 16 dJ6_bitCount_0f7a4_15 rfl rfl rfl ?_
  refine xg_iconst 17 dJ6_bitCount_0f7a4_16 rfl ?_
  refine xg_iushr 18 dJ6_bitCount_0f7a4_17 rfl ?_
  refine xg_ldcw (z := 858993459) 21 kk_RJ6_266 dJ6_bitCount_0f7a4_18 rfl rfl ?_
  refine xg_iand 22 dJ6_bitCount_0f7a4_21 rfl ?_
  refine xg_iadd 23 dJ6_bitCount_0f7a4_22 rfl ?_
  refine xg_istoren 24 _ dJ6_bitCount_0f7a4_23 rfl rfl rfl (by decide) (Or.inl rfl) ?_
  refine xg_iloadn 25 dJ6_bitCount_0f7a4_24 rfl rfl rfl ?_
  refine xg_iloadn 26 dJ6_bitCount_0f7a4_25 rfl rfl rfl ?_
  refine xg_iconst 27 dJ6_bitCount_0f7a4_26 rfl ?_
  refine xg_iushr 28 dJ6_bitCount_0f7a4_27 rfl ?_
  refine xg_iadd 29 dJ6_bitCount_0f7a4_28 rfl ?_
  refine xg_ldcw (z := 252645135) 32 kk_RJ6_267 dJ6_bitCount_0f7a4_29 rfl rfl ?_
  refine xg_iand 33 dJ6_bitCount_0f7a4_32 rfl ?_
  refine xg_istoren 34 _ dJ6_bitCount_0f7a4_33 rfl rfl rfl (by decide) (Or.inl rfl) ?_
  refine xg_iloadn 35 dJ6_bitCount_0f7a4_34 rfl rfl rfl ?_
  refine xg_iloadn 36 dJ6_bitCount_0f7a4_35 rfl rfl rfl ?_
  refine xg_bipush 38 dJ6_bitCount_0f7a4_36 rfl (by decide) ?_
  refine xg_iushr 39 dJ6_bitCount_0f7a4_38 rfl ?_
  refine xg_iadd 40 dJ6_bitCount_0f7a4_39 rfl ?_
  refine xg_istoren 41 _ dJ6_bitCount_0f7a4_40 rfl rfl rfl (by decide) (Or.inl rfl) ?_
  refine xg_iloadn 42 dJ6_bitCount_0f7a4_41 rfl rfl rfl ?_
  refine xg_iloadn 43 dJ6_bitCount_0f7a4_42 rfl rfl rfl ?_
  refine xg_bipush 45 dJ6_bitCount_0f7a4_43 rfl (by decide) ?_
  refine xg_iushr 46 dJ6_bitCount_0f7a4_45 rfl ?_
  refine xg_iadd 47 dJ6_bitCount_0f7a4_46 rfl ?_
  refine xg_istoren 48 _ dJ6_bitCount_0f7a4_47 rfl rfl rfl (by decide) (Or.inl rfl) ?_
  refine xg_iloadn 49 dJ6_bitCount_0f7a4_48 rfl rfl rfl ?_
  refine xg_bipush 51 dJ6_bitCount_0f7a4_49 rfl (by decide) ?_
  refine xg_iand 52 dJ6_bitCount_0f7a4_51 rfl ?_
  subst hX
  exact xg_ireturn dJ6_bitCount_0f7a4_52 rfl ⟨Nat.le_refl _, Nat.le_refl _⟩ ⟨rfl, rfl⟩

theorem dX12_runsOf_0 : decode cX12_runsOf 0 = .ok (.iconst 0, 1) := by decide +kernel
theorem dX12_runsOf_1 : decode cX12_runsOf 1 = .ok (.istore_n 2, 1) := by decide +kernel
theorem dX12_runsOf_2 : decode cX12_runsOf 2 = .ok (.iconst 0, 1) := by decide +kernel
theorem dX12_runsOf_3 : decode cX12_runsOf 3 = .ok (.istore_n 3, 1) := by decide +kernel
theorem dX12_runsOf_4 : decode cX12_runsOf 4 = .ok (.iload_n 3, 1) := by decide +kernel
theorem dX12_runsOf_5 : decode cX12_runsOf 5 = .ok (.aload_n 0, 1) := by decide +kernel
theorem dX12_runsOf_6 : decode cX12_runsOf 6 = .ok (.invokevirtual 66, 3) := by decide +kernel
theorem dX12_runsOf_9 : decode cX12_runsOf 9 = .ok (.if_icmp .ge 28, 3) := by decide +kernel
theorem dX12_runsOf_12 : decode cX12_runsOf 12 = .ok (.iload_n 2, 1) := by decide +kernel
theorem dX12_runsOf_13 : decode cX12_runsOf 13 = .ok (.aload_n 0, 1) := by decide +kernel
theorem dX12_runsOf_14 : decode cX12_runsOf 14 = .ok (.iload_n 3, 1) := by decide +kernel
theorem dX12_runsOf_15 : decode cX12_runsOf 15 = .ok (.invokevirtual 120, 3) := by decide +kernel
theorem dX12_runsOf_18 : decode cX12_runsOf 18 = .ok (.iload_n 1, 1) := by decide +kernel
theorem dX12_runsOf_19 : decode cX12_runsOf 19 = .ok (.if_icmp .ne 9, 3) := by decide +kernel
theorem dX12_runsOf_22 : decode cX12_runsOf 22 = .ok (.iconst 1, 1) := by decide +kernel
theorem dX12_runsOf_23 : decode cX12_runsOf 23 = .ok (.iload_n 3, 1) := by decide +kernel
theorem dX12_runsOf_24 : decode cX12_runsOf 24 = .ok (.ishl, 1) := by decide +kernel
theorem dX12_runsOf_25 : decode cX12_runsOf 25 = .ok (.goto 4, 3) := by decide +kernel
theorem dX12_runsOf_28 : decode cX12_runsOf 28 = .ok (.iconst 0, 1) := by decide +kernel
theorem dX12_runsOf_29 : decode cX12_runsOf 29 = .ok (.ior, 1) := by decide +kernel
theorem dX12_runsOf_30 : decode cX12_runsOf 30 = .ok (.istore_n 2, 1) := by decide +kernel
theorem dX12_runsOf_31 : decode cX12_runsOf 31 = .ok (.iinc 3 1, 3) := by decide +kernel
theorem dX12_runsOf_34 : decode cX12_runsOf 34 = .ok (.goto (-30), 3) := by decide +kernel
theorem dX12_runsOf_37 : decode cX12_runsOf 37 = .ok (.iload_n 2, 1) := by decide +kernel
theorem dX12_runsOf_38 : decode cX12_runsOf 38 = .ok (.ireturn, 1) := by decide +kernel
set_option maxHeartbeats 4000000 in
set_option maxRecDepth 100000 in
theorem ct_X12_runsOf {E : xE} {z : Nat} {T : Nat → Nat × Int} {F : Nat → Nat → Int} {I : Nat → Int → Int} {P : Nat → Nat → Option Nat} {Y : Nat → Int → Option Nat} {m : Nat} {w : Int → Int} (hw : wM T P m) (hO : wOk w){l : Int} (hl : -2147483648 ≤ l ∧ l < 2147483648) : Ct E 2 mX12_runsOf 0 0 [.ref m, J l] (z, T, F, upA I (m + 1) w, P, Y) (xd (some (J (sRuns w l : Nat))) (z, T, F, upA I (m + 1) w, P, Y)) := by
  obtain ⟨⟨q0, q1, q2, q3⟩, -⟩ := id hw
  obtain ⟨hR, o0, o1, o2, o3, o4, o5, o6, oc, o13, o14, o16, o17, o18, ov⟩ := id hO
  have hN := wN_i o0.1
  refine Ct.of [some (.ref m), some (J l), none, none] kt_X12_runsOf rfl (Nat.le_of_ble_eq_true rfl) rfl (fun d hd => ?_)
  generalize hX : xN E _ _ _ = X
  refine xg_iconst 1 dX12_runsOf_0 rfl ?_
  refine xg_istoren 2 _ dX12_runsOf_1 rfl rfl rfl (by decide) (Or.inr rfl) ?_
  refine xg_iconst 3 dX12_runsOf_2 rfl ?_
  refine xg_istoren 4 _ dX12_runsOf_3 rfl rfl rfl (by decide) (Or.inr rfl) ?_
  have loop4 : ∀ (mm : Nat) (r : Nat) (n : Int), (r : Int) ≤ w 0 → n = (nSet (fun r => decide (w (199 + 122 * (r : Int)) = l)) r : Nat) → w 0 - (r : Int) < (mm : Int) → xG E mX12_runsOf (xR d 0 0) X 4 [some (.ref m), some (J l), some (J n), some (J (r : Int))] [] (z, T, F, upA I (m + 1) w, P, Y) 0 0 := by
    intro mm
    induction mm with
    | zero => intro r n hr hn hm; exfalso; omega
    | succ mm ih =>
      intro r n hr hn hm
      refine xg_iloadn 5 dX12_runsOf_4 rfl rfl rfl ?_
      refine xg_aloadn 6 dX12_runsOf_5 rfl rfl rfl ?_
      refine xg_callV 9 12 [] _ kv_X12_runs ⟨_, _, rfl⟩ kl_RX12_66 dX12_runsOf_6 rfl (by assumption) (by omega) rfl rfl (Nat.le_of_ble_eq_true rfl) (by omega) ⟨Nat.le_refl _, Nat.le_refl _⟩ (ct_X12_runs hw) rfl ?_
      refine xg_icge 37 12 dX12_runsOf_9 rfl rfl (by first | omega | exact hR _ | exact ⟨hR _, by omega⟩ | exact ⟨by omega, hR _⟩ | exact ⟨hR _, hR _⟩) (fun hb9 => ?_) (fun hb9 => ?_)
      · skip
        refine xg_iloadn 38 dX12_runsOf_37 rfl rfl rfl ?_
        subst hX
        exact xg_ireturn dX12_runsOf_38 rfl ⟨Nat.le_refl _, Nat.le_refl _⟩ ⟨by rw [hn, show r = wN w by omega]; rfl, rfl⟩
      · skip
        refine xg_iloadn 13 dX12_runsOf_12 rfl rfl rfl ?_
        refine xg_aloadn 14 dX12_runsOf_13 rfl rfl rfl ?_
        refine xg_iloadn 15 dX12_runsOf_14 rfl rfl rfl ?_
        refine xg_callV 18 12 [_] _ kv_X12_levelOf ⟨_, _, rfl⟩ kl_RX12_120 dX12_runsOf_15 rfl (by assumption) (by omega) rfl rfl (Nat.le_of_ble_eq_true rfl) (by omega) ⟨Nat.le_refl _, Nat.le_refl _⟩ (ct_X12_levelOf hw (by omega)) rfl ?_
        have hlv := hR (199 + 122 * (r : Int))
        refine xg_iloadn 19 dX12_runsOf_18 rfl rfl rfl ?_
        refine xg_icne 28 22 dX12_runsOf_19 rfl rfl (by first | omega | exact hR _ | exact ⟨hR _, by omega⟩ | exact ⟨by omega, hR _⟩ | exact ⟨hR _, hR _⟩) (fun hb19 => ?_) (fun hb19 => ?_)
        · skip
          refine xg_iconst 29 dX12_runsOf_28 rfl ?_
          refine xg_ior 30 dX12_runsOf_29 rfl ?_
          refine xg_istoren 31 _ dX12_runsOf_30 rfl rfl rfl (by decide) (Or.inr rfl) ?_
          refine xg_iinc 34 _ dX12_runsOf_31 rfl rfl rfl rfl (by decide) (Or.inr rfl) ?_
          refine xg_goto 4 dX12_runsOf_34 rfl ?_
          exact xg_weak _ (xle_s rfl (xle_s rfl (xle_s rfl (xle_s rfl xle_0)))) (ih (r + 1) _ (by omega) (by rw [hn]; first | exact nSet_t (decide_eq_true hb19) (by omega) | exact nSet_f (decide_eq_false hb19) (by omega)) (by omega))
        · skip
          refine xg_iconst 23 dX12_runsOf_22 rfl ?_
          refine xg_iloadn 24 dX12_runsOf_23 rfl rfl rfl ?_
          refine xg_ishl 25 dX12_runsOf_24 rfl ?_
          refine xg_goto 29 dX12_runsOf_25 rfl ?_
          refine xg_ior 30 dX12_runsOf_29 rfl ?_
          refine xg_istoren 31 _ dX12_runsOf_30 rfl rfl rfl (by decide) (Or.inr rfl) ?_
          refine xg_iinc 34 _ dX12_runsOf_31 rfl rfl rfl rfl (by decide) (Or.inr rfl) ?_
          refine xg_goto 4 dX12_runsOf_34 rfl ?_
          exact xg_weak _ (xle_s rfl (xle_s rfl (xle_s rfl (xle_s rfl xle_0)))) (ih (r + 1) _ (by omega) (by rw [hn]; first | exact nSet_t (decide_eq_true hb19) (by omega) | exact nSet_f (decide_eq_false hb19) (by omega)) (by omega))
  exact xg_weak _ (xle_s rfl (xle_s rfl (xle_s rfl (xle_s rfl xle_0)))) (loop4 20 0 0 (by omega) rfl (by omega))

theorem dX12_entriesIn_0 : decode cX12_entriesIn 0 = .ok (.iconst 0, 1) := by decide +kernel
theorem dX12_entriesIn_1 : decode cX12_entriesIn 1 = .ok (.istore_n 2, 1) := by decide +kernel
theorem dX12_entriesIn_2 : decode cX12_entriesIn 2 = .ok (.iconst 0, 1) := by decide +kernel
theorem dX12_entriesIn_3 : decode cX12_entriesIn 3 = .ok (.istore_n 3, 1) := by decide +kernel
theorem dX12_entriesIn_4 : decode cX12_entriesIn 4 = .ok (.iload_n 3, 1) := by decide +kernel
theorem dX12_entriesIn_5 : decode cX12_entriesIn 5 = .ok (.aload_n 0, 1) := by decide +kernel
theorem dX12_entriesIn_6 : decode cX12_entriesIn 6 = .ok (.invokevirtual 66, 3) := by decide +kernel
theorem dX12_entriesIn_9 : decode cX12_entriesIn 9 = .ok (.if_icmp .ge 32, 3) := by decide +kernel
theorem dX12_entriesIn_12 : decode cX12_entriesIn 12 = .ok (.iload_n 2, 1) := by decide +kernel
theorem dX12_entriesIn_13 : decode cX12_entriesIn 13 = .ok (.iload_n 1, 1) := by decide +kernel
theorem dX12_entriesIn_14 : decode cX12_entriesIn 14 = .ok (.iload_n 3, 1) := by decide +kernel
theorem dX12_entriesIn_15 : decode cX12_entriesIn 15 = .ok (.invokestatic 287, 3) := by decide +kernel
theorem dX12_entriesIn_18 : decode cX12_entriesIn 18 = .ok (.ifCond .eq 14, 3) := by decide +kernel
theorem dX12_entriesIn_21 : decode cX12_entriesIn 21 = .ok (.aload_n 0, 1) := by decide +kernel
theorem dX12_entriesIn_22 : decode cX12_entriesIn 22 = .ok (.iload_n 3, 1) := by decide +kernel
theorem dX12_entriesIn_23 : decode cX12_entriesIn 23 = .ok (.invokestatic 133, 3) := by decide +kernel
theorem dX12_entriesIn_26 : decode cX12_entriesIn 26 = .ok (.invokevirtual 268, 3) := by decide +kernel
theorem dX12_entriesIn_29 : decode cX12_entriesIn 29 = .ok (.goto 4, 3) := by decide +kernel
theorem dX12_entriesIn_32 : decode cX12_entriesIn 32 = .ok (.iconst 0, 1) := by decide +kernel
theorem dX12_entriesIn_33 : decode cX12_entriesIn 33 = .ok (.iadd, 1) := by decide +kernel
theorem dX12_entriesIn_34 : decode cX12_entriesIn 34 = .ok (.istore_n 2, 1) := by decide +kernel
theorem dX12_entriesIn_35 : decode cX12_entriesIn 35 = .ok (.iinc 3 1, 3) := by decide +kernel
theorem dX12_entriesIn_38 : decode cX12_entriesIn 38 = .ok (.goto (-34), 3) := by decide +kernel
theorem dX12_entriesIn_41 : decode cX12_entriesIn 41 = .ok (.iload_n 2, 1) := by decide +kernel
theorem dX12_entriesIn_42 : decode cX12_entriesIn 42 = .ok (.ireturn, 1) := by decide +kernel
set_option maxHeartbeats 4000000 in
set_option maxRecDepth 100000 in
theorem ct_X12_entriesIn {E : xE} {z : Nat} {T : Nat → Nat × Int} {F : Nat → Nat → Int} {I : Nat → Int → Int} {P : Nat → Nat → Option Nat} {Y : Nat → Int → Option Nat} {m : Nat} {w : Int → Int} (hw : wM T P m) (hO : wOk w){s : Nat} (hs : s < 2147483648) : Ct E 2 mX12_entriesIn 0 0 [.ref m, J (s : Int)] (z, T, F, upA I (m + 1) w, P, Y) (xd (some (J (sEntIn w s))) (z, T, F, upA I (m + 1) w, P, Y)) := by
  obtain ⟨⟨q0, q1, q2, q3⟩, -⟩ := id hw
  obtain ⟨hR, o0, o1, o2, o3, o4, o5, o6, oc, o13, o14, o16, o17, o18, ov⟩ := id hO
  have hN := wN_i o0.1
  refine Ct.of [some (.ref m), some (J (s : Int)), none, none] kt_X12_entriesIn rfl (Nat.le_of_ble_eq_true rfl) rfl (fun d hd => ?_)
  generalize hX : xN E _ _ _ = X
  refine xg_iconst 1 dX12_entriesIn_0 rfl ?_
  refine xg_istoren 2 _ dX12_entriesIn_1 rfl rfl rfl (by decide) (Or.inr rfl) ?_
  refine xg_iconst 3 dX12_entriesIn_2 rfl ?_
  refine xg_istoren 4 _ dX12_entriesIn_3 rfl rfl rfl (by decide) (Or.inr rfl) ?_
  have loop4 : ∀ (mm : Nat) (r : Nat) (n : Int), (r : Int) ≤ w 0 → n = pSum (fun r => if s.testBit r.toNat = true then sEnt w (201 + 122 * r) else 0) r → w 0 - (r : Int) < (mm : Int) → xG E mX12_entriesIn (xR d 0 0) X 4 [some (.ref m), some (J (s : Int)), some (J n), some (J (r : Int))] [] (z, T, F, upA I (m + 1) w, P, Y) 0 0 := by
    intro mm
    induction mm with
    | zero => intro r n hr hn hm; exfalso; omega
    | succ mm ih =>
      intro r n hr hn hm
      refine xg_iloadn 5 dX12_entriesIn_4 rfl rfl rfl ?_
      refine xg_aloadn 6 dX12_entriesIn_5 rfl rfl rfl ?_
      refine xg_callV 9 12 [] _ kv_X12_runs ⟨_, _, rfl⟩ kl_RX12_66 dX12_entriesIn_6 rfl (by assumption) (by omega) rfl rfl (Nat.le_of_ble_eq_true rfl) (by omega) ⟨Nat.le_refl _, Nat.le_refl _⟩ (ct_X12_runs hw) rfl ?_
      refine xg_icge 41 12 dX12_entriesIn_9 rfl rfl (by first | omega | exact hR _ | exact ⟨hR _, by omega⟩ | exact ⟨by omega, hR _⟩ | exact ⟨hR _, hR _⟩) (fun hb9 => ?_) (fun hb9 => ?_)
      · skip
        refine xg_iloadn 42 dX12_entriesIn_41 rfl rfl rfl ?_
        subst hX
        exact xg_ireturn dX12_entriesIn_42 rfl ⟨Nat.le_refl _, Nat.le_refl _⟩ ⟨by rw [hn, show r = wN w by omega]; rfl, rfl⟩
      · skip
        refine xg_iloadn 13 dX12_entriesIn_12 rfl rfl rfl ?_
        refine xg_iloadn 14 dX12_entriesIn_13 rfl rfl rfl ?_
        refine xg_iloadn 15 dX12_entriesIn_14 rfl rfl rfl ?_
        refine xg_callS 18 [_, _] _ ks_X12_has kl_RX12_287 dX12_entriesIn_15 rfl rfl rfl (Nat.le_of_ble_eq_true rfl) (by omega) ⟨Nat.le_refl _, Nat.le_refl _⟩ (ct_X12_has hs (by omega)) rfl ?_
        refine xg_beq 32 21 dX12_entriesIn_18 rfl rfl (fun hb18 => ?_) (fun hb18 => ?_)
        · skip
          refine xg_iconst 33 dX12_entriesIn_32 rfl ?_
          refine xg_iadd 34 dX12_entriesIn_33 rfl ?_
          refine xg_istoren 35 _ dX12_entriesIn_34 rfl rfl rfl (by decide) (Or.inr rfl) ?_
          refine xg_iinc 38 _ dX12_entriesIn_35 rfl rfl rfl rfl (by decide) (Or.inr rfl) ?_
          refine xg_goto 4 dX12_entriesIn_38 rfl ?_
          exact xg_weak _ (xle_s rfl (xle_s rfl (xle_s rfl (xle_s rfl xle_0)))) (ih (r + 1) _ (by omega) (by rw [hn, pSum_s, Int.toNat_natCast]; first | rw [if_pos hb18] | rw [if_neg (by rw [hb18]; decide)]) (by omega))
        · skip
          refine xg_aloadn 22 dX12_entriesIn_21 rfl rfl rfl ?_
          refine xg_iloadn 23 dX12_entriesIn_22 rfl rfl rfl ?_
          refine xg_callS 26 [_] _ ks_X12_rowOf kl_RX12_133 dX12_entriesIn_23 rfl rfl rfl (Nat.le_of_ble_eq_true rfl) (by omega) ⟨Nat.le_refl _, Nat.le_refl _⟩ (ct_X12_rowOf) rfl ?_
          refine xg_callV 29 12 [_] _ kv_X12_entriesOf ⟨_, _, rfl⟩ kl_RX12_268 dX12_entriesIn_26 rfl (by assumption) (by omega) rfl rfl (Nat.le_of_ble_eq_true rfl) (by omega) ⟨Nat.le_refl _, Nat.le_refl _⟩ (ct_X12_entriesOf hw hR (by omega)) rfl ?_
          refine xg_goto 33 dX12_entriesIn_29 rfl ?_
          refine xg_iadd 34 dX12_entriesIn_33 rfl ?_
          refine xg_istoren 35 _ dX12_entriesIn_34 rfl rfl rfl (by decide) (Or.inr rfl) ?_
          refine xg_iinc 38 _ dX12_entriesIn_35 rfl rfl rfl rfl (by decide) (Or.inr rfl) ?_
          refine xg_goto 4 dX12_entriesIn_38 rfl ?_
          exact xg_weak _ (xle_s rfl (xle_s rfl (xle_s rfl (xle_s rfl xle_0)))) (ih (r + 1) _ (by omega) (by rw [hn, pSum_s, Int.toNat_natCast]; first | rw [if_pos hb18] | rw [if_neg (by rw [hb18]; decide)]) (by omega))
  exact xg_weak _ (xle_s rfl (xle_s rfl (xle_s rfl (xle_s rfl xle_0)))) (loop4 20 0 0 (by omega) rfl (by omega))

theorem dX12_inputs_0 : decode cX12_inputs 0 = .ok (.iconst 0, 1) := by decide +kernel
theorem dX12_inputs_1 : decode cX12_inputs 1 = .ok (.istore_n 1, 1) := by decide +kernel
theorem dX12_inputs_2 : decode cX12_inputs 2 = .ok (.iconst 0, 1) := by decide +kernel
theorem dX12_inputs_3 : decode cX12_inputs 3 = .ok (.istore_n 2, 1) := by decide +kernel
theorem dX12_inputs_4 : decode cX12_inputs 4 = .ok (.iload_n 2, 1) := by decide +kernel
theorem dX12_inputs_5 : decode cX12_inputs 5 = .ok (.aload_n 0, 1) := by decide +kernel
theorem dX12_inputs_6 : decode cX12_inputs 6 = .ok (.invokevirtual 66, 3) := by decide +kernel
theorem dX12_inputs_9 : decode cX12_inputs 9 = .ok (.if_icmp .ge 27, 3) := by decide +kernel
theorem dX12_inputs_12 : decode cX12_inputs 12 = .ok (.iload_n 1, 1) := by decide +kernel
theorem dX12_inputs_13 : decode cX12_inputs 13 = .ok (.aload_n 0, 1) := by decide +kernel
theorem dX12_inputs_14 : decode cX12_inputs 14 = .ok (.iload_n 2, 1) := by decide +kernel
theorem dX12_inputs_15 : decode cX12_inputs 15 = .ok (.invokevirtual 290, 3) := by decide +kernel
theorem dX12_inputs_18 : decode cX12_inputs 18 = .ok (.ifCond .eq 9, 3) := by decide +kernel
theorem dX12_inputs_21 : decode cX12_inputs 21 = .ok (.iconst 1, 1) := by decide +kernel
theorem dX12_inputs_22 : decode cX12_inputs 22 = .ok (.iload_n 2, 1) := by decide +kernel
theorem dX12_inputs_23 : decode cX12_inputs 23 = .ok (.ishl, 1) := by decide +kernel
theorem dX12_inputs_24 : decode cX12_inputs 24 = .ok (.goto 4, 3) := by decide +kernel
theorem dX12_inputs_27 : decode cX12_inputs 27 = .ok (.iconst 0, 1) := by decide +kernel
theorem dX12_inputs_28 : decode cX12_inputs 28 = .ok (.ior, 1) := by decide +kernel
theorem dX12_inputs_29 : decode cX12_inputs 29 = .ok (.istore_n 1, 1) := by decide +kernel
theorem dX12_inputs_30 : decode cX12_inputs 30 = .ok (.iinc 2 1, 3) := by decide +kernel
theorem dX12_inputs_33 : decode cX12_inputs 33 = .ok (.goto (-29), 3) := by decide +kernel
theorem dX12_inputs_36 : decode cX12_inputs 36 = .ok (.iload_n 1, 1) := by decide +kernel
theorem dX12_inputs_37 : decode cX12_inputs 37 = .ok (.ireturn, 1) := by decide +kernel
set_option maxHeartbeats 4000000 in
set_option maxRecDepth 100000 in
theorem ct_X12_inputs {E : xE} {z : Nat} {T : Nat → Nat × Int} {F : Nat → Nat → Int} {I : Nat → Int → Int} {P : Nat → Nat → Option Nat} {Y : Nat → Int → Option Nat} {m : Nat} {w : Int → Int} (hw : wM T P m) (hO : wOk w) : Ct E 2 mX12_inputs 0 0 [.ref m] (z, T, F, upA I (m + 1) w, P, Y) (xd (some (J (sInp w : Nat))) (z, T, F, upA I (m + 1) w, P, Y)) := by
  obtain ⟨⟨q0, q1, q2, q3⟩, -⟩ := id hw
  obtain ⟨hR, o0, o1, o2, o3, o4, o5, o6, oc, o13, o14, o16, o17, o18, ov⟩ := id hO
  have hN := wN_i o0.1
  refine Ct.of [some (.ref m), none, none] kt_X12_inputs rfl (Nat.le_of_ble_eq_true rfl) rfl (fun d hd => ?_)
  generalize hX : xN E _ _ _ = X
  refine xg_iconst 1 dX12_inputs_0 rfl ?_
  refine xg_istoren 2 _ dX12_inputs_1 rfl rfl rfl (by decide) (Or.inr rfl) ?_
  refine xg_iconst 3 dX12_inputs_2 rfl ?_
  refine xg_istoren 4 _ dX12_inputs_3 rfl rfl rfl (by decide) (Or.inr rfl) ?_
  have loop4 : ∀ (mm : Nat) (r : Nat) (n : Int), (r : Int) ≤ w 0 → n = (nSet (fun r => decide (w (200 + 122 * (r : Int)) = 1)) r : Nat) → w 0 - (r : Int) < (mm : Int) → xG E mX12_inputs (xR d 0 0) X 4 [some (.ref m), some (J n), some (J (r : Int))] [] (z, T, F, upA I (m + 1) w, P, Y) 0 0 := by
    intro mm
    induction mm with
    | zero => intro r n hr hn hm; exfalso; omega
    | succ mm ih =>
      intro r n hr hn hm
      refine xg_iloadn 5 dX12_inputs_4 rfl rfl rfl ?_
      refine xg_aloadn 6 dX12_inputs_5 rfl rfl rfl ?_
      refine xg_callV 9 12 [] _ kv_X12_runs ⟨_, _, rfl⟩ kl_RX12_66 dX12_inputs_6 rfl (by assumption) (by omega) rfl rfl (Nat.le_of_ble_eq_true rfl) (by omega) ⟨Nat.le_refl _, Nat.le_refl _⟩ (ct_X12_runs hw) rfl ?_
      refine xg_icge 36 12 dX12_inputs_9 rfl rfl (by first | omega | exact hR _ | exact ⟨hR _, by omega⟩ | exact ⟨by omega, hR _⟩ | exact ⟨hR _, hR _⟩) (fun hb9 => ?_) (fun hb9 => ?_)
      · skip
        refine xg_iloadn 37 dX12_inputs_36 rfl rfl rfl ?_
        subst hX
        exact xg_ireturn dX12_inputs_37 rfl ⟨Nat.le_refl _, Nat.le_refl _⟩ ⟨by rw [hn, show r = wN w by omega]; rfl, rfl⟩
      · skip
        refine xg_iloadn 13 dX12_inputs_12 rfl rfl rfl ?_
        refine xg_aloadn 14 dX12_inputs_13 rfl rfl rfl ?_
        refine xg_iloadn 15 dX12_inputs_14 rfl rfl rfl ?_
        refine xg_callV 18 12 [_] _ kv_X12_isInput ⟨_, _, rfl⟩ kl_RX12_290 dX12_inputs_15 rfl (by assumption) (by omega) rfl rfl (Nat.le_of_ble_eq_true rfl) (by omega) ⟨Nat.le_refl _, Nat.le_refl _⟩ (ct_X12_isInput hw hR (by omega)) rfl ?_
        refine xg_deq 27 21 dX12_inputs_18 rfl rfl (fun hb18 => ?_) (fun hb18 => ?_)
        · skip
          refine xg_iconst 28 dX12_inputs_27 rfl ?_
          refine xg_ior 29 dX12_inputs_28 rfl ?_
          refine xg_istoren 30 _ dX12_inputs_29 rfl rfl rfl (by decide) (Or.inr rfl) ?_
          refine xg_iinc 33 _ dX12_inputs_30 rfl rfl rfl rfl (by decide) (Or.inr rfl) ?_
          refine xg_goto 4 dX12_inputs_33 rfl ?_
          exact xg_weak _ (xle_s rfl (xle_s rfl (xle_s rfl xle_0))) (ih (r + 1) _ (by omega) (by rw [hn]; first | exact nSet_t (decide_eq_true hb18) (by omega) | exact nSet_f (decide_eq_false hb18) (by omega)) (by omega))
        · skip
          refine xg_iconst 22 dX12_inputs_21 rfl ?_
          refine xg_iloadn 23 dX12_inputs_22 rfl rfl rfl ?_
          refine xg_ishl 24 dX12_inputs_23 rfl ?_
          refine xg_goto 28 dX12_inputs_24 rfl ?_
          refine xg_ior 29 dX12_inputs_28 rfl ?_
          refine xg_istoren 30 _ dX12_inputs_29 rfl rfl rfl (by decide) (Or.inr rfl) ?_
          refine xg_iinc 33 _ dX12_inputs_30 rfl rfl rfl rfl (by decide) (Or.inr rfl) ?_
          refine xg_goto 4 dX12_inputs_33 rfl ?_
          exact xg_weak _ (xle_s rfl (xle_s rfl (xle_s rfl xle_0))) (ih (r + 1) _ (by omega) (by rw [hn]; first | exact nSet_t (decide_eq_true hb18) (by omega) | exact nSet_f (decide_eq_false hb18) (by omega)) (by omega))
  exact xg_weak _ (xle_s rfl (xle_s rfl (xle_s rfl xle_0))) (loop4 20 0 0 (by omega) rfl (by omega))

theorem sDue_1 {w : Int → Int} {l : Int} (h3 : w 3 = 0) : sDue w l ↔ (if l = 3 then 2 else w 4) ≤ sMany w l := by unfold sDue; rw [if_pos h3]
theorem sDue_2 {w : Int → Int} {l : Int} (h3 : w 3 ≠ 0) (h0 : l = 0) : sDue w l ↔ w 4 ≤ sMany w l := by unfold sDue; rw [if_neg h3, if_pos h0]
theorem sDue_3 {w : Int → Int} {l : Int} (h3 : w 3 ≠ 0) (h0 : l ≠ 0) (h : l = 3) : sDue w l ↔ 1 < sMany w l := by unfold sDue; rw [if_neg h3, if_neg h0, if_pos h]
theorem sDue_4 {w : Int → Int} {l : Int} (h3 : w 3 ≠ 0) (h0 : l ≠ 0) (h : l ≠ 3) : sDue w l ↔ (1 < sMany w l ∨ w 5 * w 4 * (if l = 2 then w 4 else 1) < sEntIn w (sRuns w l)) := by unfold sDue; rw [if_neg h3, if_neg h0, if_neg h]
theorem dX12_isDue_0 : decode cX12_isDue 0 = .ok (.aload_n 0, 1) := by decide +kernel
theorem dX12_isDue_1 : decode cX12_isDue 1 = .ok (.iload_n 1, 1) := by decide +kernel
theorem dX12_isDue_2 : decode cX12_isDue 2 = .ok (.invokevirtual 254, 3) := by decide +kernel
theorem dX12_isDue_5 : decode cX12_isDue 5 = .ok (.istore_n 2, 1) := by decide +kernel
theorem dX12_isDue_6 : decode cX12_isDue 6 = .ok (.iload_n 2, 1) := by decide +kernel
theorem dX12_isDue_7 : decode cX12_isDue 7 = .ok (.invokestatic 257, 3) := by decide +kernel
theorem dX12_isDue_10 : decode cX12_isDue 10 = .ok (.istore_n 3, 1) := by decide +kernel
theorem dX12_isDue_11 : decode cX12_isDue 11 = .ok (.aload_n 0, 1) := by decide +kernel
theorem dX12_isDue_12 : decode cX12_isDue 12 = .ok (.getfield 13, 3) := by decide +kernel
theorem dX12_isDue_15 : decode cX12_isDue 15 = .ok (.iconst 3, 1) := by decide +kernel
theorem dX12_isDue_16 : decode cX12_isDue 16 = .ok (.iaload, 1) := by decide +kernel
theorem dX12_isDue_17 : decode cX12_isDue 17 = .ok (.ifCond .ne 28, 3) := by decide +kernel
theorem dX12_isDue_20 : decode cX12_isDue 20 = .ok (.iload_n 3, 1) := by decide +kernel
theorem dX12_isDue_21 : decode cX12_isDue 21 = .ok (.iload_n 1, 1) := by decide +kernel
theorem dX12_isDue_22 : decode cX12_isDue 22 = .ok (.iconst 3, 1) := by decide +kernel
theorem dX12_isDue_23 : decode cX12_isDue 23 = .ok (.if_icmp .ne 7, 3) := by decide +kernel
theorem dX12_isDue_26 : decode cX12_isDue 26 = .ok (.iconst 2, 1) := by decide +kernel
theorem dX12_isDue_27 : decode cX12_isDue 27 = .ok (.goto 9, 3) := by decide +kernel
theorem dX12_isDue_30 : decode cX12_isDue 30 = .ok (.aload_n 0, 1) := by decide +kernel
theorem dX12_isDue_31 : decode cX12_isDue 31 = .ok (.getfield 13, 3) := by decide +kernel
theorem dX12_isDue_34 : decode cX12_isDue 34 = .ok (.iconst 4, 1) := by decide +kernel
theorem dX12_isDue_35 : decode cX12_isDue 35 = .ok (.iaload, 1) := by decide +kernel
theorem dX12_isDue_36 : decode cX12_isDue 36 = .ok (.if_icmp .lt 7, 3) := by decide +kernel
theorem dX12_isDue_39 : decode cX12_isDue 39 = .ok (.iconst 1, 1) := by decide +kernel
theorem dX12_isDue_40 : decode cX12_isDue 40 = .ok (.goto 4, 3) := by decide +kernel
theorem dX12_isDue_43 : decode cX12_isDue 43 = .ok (.iconst 0, 1) := by decide +kernel
theorem dX12_isDue_44 : decode cX12_isDue 44 = .ok (.ireturn, 1) := by decide +kernel
theorem dX12_isDue_45 : decode cX12_isDue 45 = .ok (.iload_n 1, 1) := by decide +kernel
theorem dX12_isDue_46 : decode cX12_isDue 46 = .ok (.ifCond .ne 19, 3) := by decide +kernel
theorem dX12_isDue_49 : decode cX12_isDue 49 = .ok (.iload_n 3, 1) := by decide +kernel
theorem dX12_isDue_50 : decode cX12_isDue 50 = .ok (.aload_n 0, 1) := by decide +kernel
theorem dX12_isDue_51 : decode cX12_isDue 51 = .ok (.getfield 13, 3) := by decide +kernel
theorem dX12_isDue_54 : decode cX12_isDue 54 = .ok (.iconst 4, 1) := by decide +kernel
theorem dX12_isDue_55 : decode cX12_isDue 55 = .ok (.iaload, 1) := by decide +kernel
theorem dX12_isDue_56 : decode cX12_isDue 56 = .ok (.if_icmp .lt 7, 3) := by decide +kernel
theorem dX12_isDue_59 : decode cX12_isDue 59 = .ok (.iconst 1, 1) := by decide +kernel
theorem dX12_isDue_60 : decode cX12_isDue 60 = .ok (.goto 4, 3) := by decide +kernel
theorem dX12_isDue_63 : decode cX12_isDue 63 = .ok (.iconst 0, 1) := by decide +kernel
theorem dX12_isDue_64 : decode cX12_isDue 64 = .ok (.ireturn, 1) := by decide +kernel
theorem dX12_isDue_65 : decode cX12_isDue 65 = .ok (.iload_n 1, 1) := by decide +kernel
theorem dX12_isDue_66 : decode cX12_isDue 66 = .ok (.iconst 3, 1) := by decide +kernel
theorem dX12_isDue_67 : decode cX12_isDue 67 = .ok (.if_icmp .ne 14, 3) := by decide +kernel
theorem dX12_isDue_70 : decode cX12_isDue 70 = .ok (.iload_n 3, 1) := by decide +kernel
theorem dX12_isDue_71 : decode cX12_isDue 71 = .ok (.iconst 1, 1) := by decide +kernel
theorem dX12_isDue_72 : decode cX12_isDue 72 = .ok (.if_icmp .le 7, 3) := by decide +kernel
theorem dX12_isDue_75 : decode cX12_isDue 75 = .ok (.iconst 1, 1) := by decide +kernel
theorem dX12_isDue_76 : decode cX12_isDue 76 = .ok (.goto 4, 3) := by decide +kernel
theorem dX12_isDue_79 : decode cX12_isDue 79 = .ok (.iconst 0, 1) := by decide +kernel
theorem dX12_isDue_80 : decode cX12_isDue 80 = .ok (.ireturn, 1) := by decide +kernel
theorem dX12_isDue_81 : decode cX12_isDue 81 = .ok (.aload_n 0, 1) := by decide +kernel
theorem dX12_isDue_82 : decode cX12_isDue 82 = .ok (.getfield 13, 3) := by decide +kernel
theorem dX12_isDue_85 : decode cX12_isDue 85 = .ok (.iconst 5, 1) := by decide +kernel
theorem dX12_isDue_86 : decode cX12_isDue 86 = .ok (.iaload, 1) := by decide +kernel
theorem dX12_isDue_87 : decode cX12_isDue 87 = .ok (.aload_n 0, 1) := by decide +kernel
theorem dX12_isDue_88 : decode cX12_isDue 88 = .ok (.getfield 13, 3) := by decide +kernel
theorem dX12_isDue_91 : decode cX12_isDue 91 = .ok (.iconst 4, 1) := by decide +kernel
theorem dX12_isDue_92 : decode cX12_isDue 92 = .ok (.iaload, 1) := by decide +kernel
theorem dX12_isDue_93 : decode cX12_isDue 93 = .ok (.imul, 1) := by decide +kernel
theorem dX12_isDue_94 : decode cX12_isDue 94 = .ok (.iload_n 1, 1) := by decide +kernel
theorem dX12_isDue_95 : decode cX12_isDue 95 = .ok (.iconst 2, 1) := by decide +kernel
theorem dX12_isDue_96 : decode cX12_isDue 96 = .ok (.if_icmp .ne 12, 3) := by decide +kernel
theorem dX12_isDue_99 : decode cX12_isDue 99 = .ok (.aload_n 0, 1) := by decide +kernel
theorem dX12_isDue_100 : decode cX12_isDue 100 = .ok (.getfield 13, 3) := by decide +kernel
theorem dX12_isDue_103 : decode cX12_isDue 103 = .ok (.iconst 4, 1) := by decide +kernel
theorem dX12_isDue_104 : decode cX12_isDue 104 = .ok (.iaload, 1) := by decide +kernel
theorem dX12_isDue_105 : decode cX12_isDue 105 = .ok (.goto 4, 3) := by decide +kernel
theorem dX12_isDue_108 : decode cX12_isDue 108 = .ok (.iconst 1, 1) := by decide +kernel
theorem dX12_isDue_109 : decode cX12_isDue 109 = .ok (.imul, 1) := by decide +kernel
theorem dX12_isDue_110 : decode cX12_isDue 110 = .ok (.istore 4, 2) := by decide +kernel
theorem dX12_isDue_112 : decode cX12_isDue 112 = .ok (.iload_n 3, 1) := by decide +kernel
theorem dX12_isDue_113 : decode cX12_isDue 113 = .ok (.iconst 1, 1) := by decide +kernel
theorem dX12_isDue_114 : decode cX12_isDue 114 = .ok (.if_icmp .gt 13, 3) := by decide +kernel
theorem dX12_isDue_117 : decode cX12_isDue 117 = .ok (.aload_n 0, 1) := by decide +kernel
theorem dX12_isDue_118 : decode cX12_isDue 118 = .ok (.iload_n 2, 1) := by decide +kernel
theorem dX12_isDue_119 : decode cX12_isDue 119 = .ok (.invokevirtual 262, 3) := by decide +kernel
theorem dX12_isDue_122 : decode cX12_isDue 122 = .ok (.iload 4, 2) := by decide +kernel
theorem dX12_isDue_124 : decode cX12_isDue 124 = .ok (.if_icmp .le 7, 3) := by decide +kernel
theorem dX12_isDue_127 : decode cX12_isDue 127 = .ok (.iconst 1, 1) := by decide +kernel
theorem dX12_isDue_128 : decode cX12_isDue 128 = .ok (.goto 4, 3) := by decide +kernel
theorem dX12_isDue_131 : decode cX12_isDue 131 = .ok (.iconst 0, 1) := by decide +kernel
theorem dX12_isDue_132 : decode cX12_isDue 132 = .ok (.ireturn, 1) := by decide +kernel
set_option maxHeartbeats 4000000 in
set_option maxRecDepth 100000 in
theorem ct_X12_isDue {E : xE} {z : Nat} {T : Nat → Nat × Int} {F : Nat → Nat → Int} {I : Nat → Int → Int} {P : Nat → Nat → Option Nat} {Y : Nat → Int → Option Nat} {m : Nat} {w : Int → Int} (hw : wM T P m) (hO : wOk w){l : Int} (hl : 0 ≤ l ∧ l < 4) : Ct E 3 mX12_isDue 0 0 [.ref m, J l] (z, T, F, upA I (m + 1) w, P, Y) (xd (some (J (bI (@decide (sDue w l) (Classical.propDecidable _))))) (z, T, F, upA I (m + 1) w, P, Y)) := by
  obtain ⟨⟨q0, q1, q2, q3⟩, -⟩ := id hw
  obtain ⟨hR, o0, o1, o2, o3, o4, o5, o6, oc, o13, o14, o16, o17, o18, ov⟩ := id hO
  have hN := wN_i o0.1
  have hs : sRuns w l < 2147483648 := by have := nSet_31 (fun r => decide (w (199 + 122 * (r : Int)) = l)) (r := wN w) (by omega); unfold sRuns; omega
  have hmb := sMany_bd w l
  have heb := sEntIn_bd (w := w) (sRuns w l) o0.2
  have hpr : 0 ≤ w 5 * w 4 ∧ w 5 * w 4 ≤ 24 := by
    obtain h | h | h : w 4 = 2 ∨ w 4 = 3 ∨ w 4 = 4 := by omega
    all_goals rw [h]; omega
  have hpr2 : 0 ≤ w 5 * w 4 * w 4 ∧ w 5 * w 4 * w 4 ≤ 96 := by
    obtain h | h | h : w 4 = 2 ∨ w 4 = 3 ∨ w 4 = 4 := by omega
    all_goals rw [h]; omega
  refine Ct.of [some (.ref m), some (J l), none, none, none] kt_X12_isDue rfl (Nat.le_of_ble_eq_true rfl) rfl (fun d hd => ?_)
  generalize hX : xN E _ _ _ = X
  refine xg_aloadn 1 dX12_isDue_0 rfl rfl rfl ?_
  refine xg_iloadn 2 dX12_isDue_1 rfl rfl rfl ?_
  refine xg_callV 5 12 [_] _ kv_X12_runsOf ⟨_, _, rfl⟩ kl_RX12_254 dX12_isDue_2 rfl (by assumption) (by omega) rfl rfl (Nat.le_of_ble_eq_true rfl) (by omega) ⟨Nat.le_refl _, Nat.le_refl _⟩ (ct_X12_runsOf hw hO (by omega)) rfl ?_
  refine xg_istoren 6 _ dX12_isDue_5 rfl rfl rfl (by decide) (Or.inr rfl) ?_
  refine xg_iloadn 7 dX12_isDue_6 rfl rfl rfl ?_
  refine xg_callS 10 [_] _ ks_J6_bitCount_0f7a4 kl_RX12_257 dX12_isDue_7 rfl rfl rfl (Nat.le_of_ble_eq_true rfl) (by omega) ⟨Nat.le_refl _, Nat.le_refl _⟩ (ct_J6_bitCount_0f7a4) rfl ?_
  rw [xbc_runs l o0.2]
  refine xg_istoren 11 _ dX12_isDue_10 rfl rfl rfl (by decide) (Or.inr rfl) ?_
  refine xg_aloadn 12 dX12_isDue_11 rfl rfl rfl ?_
  refine xg_getP 15 kf_RX12_13 dX12_isDue_12 rfl (by assumption) (by assumption) ?_
  refine xg_iconst 16 dX12_isDue_15 rfl ?_
  refine xg_ialdW 17 dX12_isDue_16 rfl (by assumption) (by first | omega | exact hR _ | exact ⟨hR _, by omega⟩ | exact ⟨by omega, hR _⟩ | exact ⟨hR _, hR _⟩) ?_
  refine xg_ifne 45 20 dX12_isDue_17 rfl rfl (by first | omega | exact hR _ | exact ⟨hR _, by omega⟩ | exact ⟨by omega, hR _⟩ | exact ⟨hR _, hR _⟩) (fun hb17 => ?_) (fun hb17 => ?_)
  · skip
    refine xg_iloadn 46 dX12_isDue_45 rfl rfl rfl ?_
    refine xg_ifne 65 49 dX12_isDue_46 rfl rfl (by first | omega | exact hR _ | exact ⟨hR _, by omega⟩ | exact ⟨by omega, hR _⟩ | exact ⟨hR _, hR _⟩) (fun hb46 => ?_) (fun hb46 => ?_)
    · skip
      refine xg_iloadn 66 dX12_isDue_65 rfl rfl rfl ?_
      refine xg_iconst 67 dX12_isDue_66 rfl ?_
      refine xg_icne 81 70 dX12_isDue_67 rfl rfl (by first | omega | exact hR _ | exact ⟨hR _, by omega⟩ | exact ⟨by omega, hR _⟩ | exact ⟨hR _, hR _⟩) (fun hb67 => ?_) (fun hb67 => ?_)
      · skip
        refine xg_aloadn 82 dX12_isDue_81 rfl rfl rfl ?_
        refine xg_getP 85 kf_RX12_13 dX12_isDue_82 rfl (by assumption) (by assumption) ?_
        refine xg_iconst 86 dX12_isDue_85 rfl ?_
        refine xg_ialdW 87 dX12_isDue_86 rfl (by assumption) (by first | omega | exact hR _ | exact ⟨hR _, by omega⟩ | exact ⟨by omega, hR _⟩ | exact ⟨hR _, hR _⟩) ?_
        refine xg_aloadn 88 dX12_isDue_87 rfl rfl rfl ?_
        refine xg_getP 91 kf_RX12_13 dX12_isDue_88 rfl (by assumption) (by assumption) ?_
        refine xg_iconst 92 dX12_isDue_91 rfl ?_
        refine xg_ialdW 93 dX12_isDue_92 rfl (by assumption) (by first | omega | exact hR _ | exact ⟨hR _, by omega⟩ | exact ⟨by omega, hR _⟩ | exact ⟨hR _, hR _⟩) ?_
        refine xg_imul 94 dX12_isDue_93 rfl ?_
        refine xg_iloadn 95 dX12_isDue_94 rfl rfl rfl ?_
        refine xg_iconst 96 dX12_isDue_95 rfl ?_
        refine xg_icne 108 99 dX12_isDue_96 rfl rfl (by first | omega | exact hR _ | exact ⟨hR _, by omega⟩ | exact ⟨by omega, hR _⟩ | exact ⟨hR _, hR _⟩) (fun hb96 => ?_) (fun hb96 => ?_)
        · skip
          refine xg_iconst 109 dX12_isDue_108 rfl ?_
          refine xg_imul 110 dX12_isDue_109 rfl ?_
          refine xg_istore 112 _ dX12_isDue_110 rfl rfl (by decide) (Or.inr rfl) ?_
          refine xg_iloadn 113 dX12_isDue_112 rfl rfl rfl ?_
          refine xg_iconst 114 dX12_isDue_113 rfl ?_
          refine xg_icgt 127 117 dX12_isDue_114 rfl rfl (by first | omega | exact hR _ | exact ⟨hR _, by omega⟩ | exact ⟨by omega, hR _⟩ | exact ⟨hR _, hR _⟩) (fun hb114 => ?_) (fun hb114 => ?_)
          · skip
            refine xg_iconst 128 dX12_isDue_127 rfl ?_
            refine xg_goto 132 dX12_isDue_128 rfl ?_
            subst hX
            exact xg_zreturn dX12_isDue_132 rfl (by first | exact bI_01 _ | omega) ⟨Nat.le_refl _, Nat.le_refl _⟩ ⟨congrArg (fun v => some (J v)) (by first | exact (@bI_t _ (Classical.propDecidable _) ((sDue_4 (by assumption) (by assumption) (by assumption)).mpr (by first | assumption | omega | (rw [if_pos (by assumption)]; omega) | (rw [if_neg (by assumption)]; omega)))).symm | exact (@bI_f _ (Classical.propDecidable _) (fun q => by have q := (sDue_4 (by assumption) (by assumption) (by assumption)).mp q; first | omega | (rw [if_pos (by assumption)] at q; omega) | (rw [if_neg (by assumption)] at q; omega))).symm), rfl⟩
          · skip
            refine xg_aloadn 118 dX12_isDue_117 rfl rfl rfl ?_
            refine xg_iloadn 119 dX12_isDue_118 rfl rfl rfl ?_
            refine xg_callV 122 12 [_] _ kv_X12_entriesIn ⟨_, _, rfl⟩ kl_RX12_262 dX12_isDue_119 rfl (by assumption) (by omega) rfl rfl (Nat.le_of_ble_eq_true rfl) (by omega) ⟨Nat.le_refl _, Nat.le_refl _⟩ (ct_X12_entriesIn hw hO (by assumption)) rfl ?_
            refine xg_iload 124 dX12_isDue_122 rfl rfl ?_
            refine xg_icle 131 127 dX12_isDue_124 rfl rfl (by first | omega | exact hR _ | exact ⟨hR _, by omega⟩ | exact ⟨by omega, hR _⟩ | exact ⟨hR _, hR _⟩) (fun hb124 => ?_) (fun hb124 => ?_)
            · skip
              refine xg_iconst 132 dX12_isDue_131 rfl ?_
              subst hX
              exact xg_zreturn dX12_isDue_132 rfl (by first | exact bI_01 _ | omega) ⟨Nat.le_refl _, Nat.le_refl _⟩ ⟨congrArg (fun v => some (J v)) (by first | exact (@bI_t _ (Classical.propDecidable _) ((sDue_4 (by assumption) (by assumption) (by assumption)).mpr (by first | assumption | omega | (rw [if_pos (by assumption)]; omega) | (rw [if_neg (by assumption)]; omega)))).symm | exact (@bI_f _ (Classical.propDecidable _) (fun q => by have q := (sDue_4 (by assumption) (by assumption) (by assumption)).mp q; first | omega | (rw [if_pos (by assumption)] at q; omega) | (rw [if_neg (by assumption)] at q; omega))).symm), rfl⟩
            · skip
              refine xg_iconst 128 dX12_isDue_127 rfl ?_
              refine xg_goto 132 dX12_isDue_128 rfl ?_
              subst hX
              exact xg_zreturn dX12_isDue_132 rfl (by first | exact bI_01 _ | omega) ⟨Nat.le_refl _, Nat.le_refl _⟩ ⟨congrArg (fun v => some (J v)) (by first | exact (@bI_t _ (Classical.propDecidable _) ((sDue_4 (by assumption) (by assumption) (by assumption)).mpr (by first | assumption | omega | (rw [if_pos (by assumption)]; omega) | (rw [if_neg (by assumption)]; omega)))).symm | exact (@bI_f _ (Classical.propDecidable _) (fun q => by have q := (sDue_4 (by assumption) (by assumption) (by assumption)).mp q; first | omega | (rw [if_pos (by assumption)] at q; omega) | (rw [if_neg (by assumption)] at q; omega))).symm), rfl⟩
        · skip
          refine xg_aloadn 100 dX12_isDue_99 rfl rfl rfl ?_
          refine xg_getP 103 kf_RX12_13 dX12_isDue_100 rfl (by assumption) (by assumption) ?_
          refine xg_iconst 104 dX12_isDue_103 rfl ?_
          refine xg_ialdW 105 dX12_isDue_104 rfl (by assumption) (by first | omega | exact hR _ | exact ⟨hR _, by omega⟩ | exact ⟨by omega, hR _⟩ | exact ⟨hR _, hR _⟩) ?_
          refine xg_goto 109 dX12_isDue_105 rfl ?_
          refine xg_imul 110 dX12_isDue_109 rfl ?_
          refine xg_istore 112 _ dX12_isDue_110 rfl rfl (by decide) (Or.inr rfl) ?_
          refine xg_iloadn 113 dX12_isDue_112 rfl rfl rfl ?_
          refine xg_iconst 114 dX12_isDue_113 rfl ?_
          refine xg_icgt 127 117 dX12_isDue_114 rfl rfl (by first | omega | exact hR _ | exact ⟨hR _, by omega⟩ | exact ⟨by omega, hR _⟩ | exact ⟨hR _, hR _⟩) (fun hb114 => ?_) (fun hb114 => ?_)
          · skip
            refine xg_iconst 128 dX12_isDue_127 rfl ?_
            refine xg_goto 132 dX12_isDue_128 rfl ?_
            subst hX
            exact xg_zreturn dX12_isDue_132 rfl (by first | exact bI_01 _ | omega) ⟨Nat.le_refl _, Nat.le_refl _⟩ ⟨congrArg (fun v => some (J v)) (by first | exact (@bI_t _ (Classical.propDecidable _) ((sDue_4 (by assumption) (by assumption) (by assumption)).mpr (by first | assumption | omega | (rw [if_pos (by assumption)]; omega) | (rw [if_neg (by assumption)]; omega)))).symm | exact (@bI_f _ (Classical.propDecidable _) (fun q => by have q := (sDue_4 (by assumption) (by assumption) (by assumption)).mp q; first | omega | (rw [if_pos (by assumption)] at q; omega) | (rw [if_neg (by assumption)] at q; omega))).symm), rfl⟩
          · skip
            refine xg_aloadn 118 dX12_isDue_117 rfl rfl rfl ?_
            refine xg_iloadn 119 dX12_isDue_118 rfl rfl rfl ?_
            refine xg_callV 122 12 [_] _ kv_X12_entriesIn ⟨_, _, rfl⟩ kl_RX12_262 dX12_isDue_119 rfl (by assumption) (by omega) rfl rfl (Nat.le_of_ble_eq_true rfl) (by omega) ⟨Nat.le_refl _, Nat.le_refl _⟩ (ct_X12_entriesIn hw hO (by assumption)) rfl ?_
            refine xg_iload 124 dX12_isDue_122 rfl rfl ?_
            refine xg_icle 131 127 dX12_isDue_124 rfl rfl (by first | omega | exact hR _ | exact ⟨hR _, by omega⟩ | exact ⟨by omega, hR _⟩ | exact ⟨hR _, hR _⟩) (fun hb124 => ?_) (fun hb124 => ?_)
            · skip
              refine xg_iconst 132 dX12_isDue_131 rfl ?_
              subst hX
              exact xg_zreturn dX12_isDue_132 rfl (by first | exact bI_01 _ | omega) ⟨Nat.le_refl _, Nat.le_refl _⟩ ⟨congrArg (fun v => some (J v)) (by first | exact (@bI_t _ (Classical.propDecidable _) ((sDue_4 (by assumption) (by assumption) (by assumption)).mpr (by first | assumption | omega | (rw [if_pos (by assumption)]; omega) | (rw [if_neg (by assumption)]; omega)))).symm | exact (@bI_f _ (Classical.propDecidable _) (fun q => by have q := (sDue_4 (by assumption) (by assumption) (by assumption)).mp q; first | omega | (rw [if_pos (by assumption)] at q; omega) | (rw [if_neg (by assumption)] at q; omega))).symm), rfl⟩
            · skip
              refine xg_iconst 128 dX12_isDue_127 rfl ?_
              refine xg_goto 132 dX12_isDue_128 rfl ?_
              subst hX
              exact xg_zreturn dX12_isDue_132 rfl (by first | exact bI_01 _ | omega) ⟨Nat.le_refl _, Nat.le_refl _⟩ ⟨congrArg (fun v => some (J v)) (by first | exact (@bI_t _ (Classical.propDecidable _) ((sDue_4 (by assumption) (by assumption) (by assumption)).mpr (by first | assumption | omega | (rw [if_pos (by assumption)]; omega) | (rw [if_neg (by assumption)]; omega)))).symm | exact (@bI_f _ (Classical.propDecidable _) (fun q => by have q := (sDue_4 (by assumption) (by assumption) (by assumption)).mp q; first | omega | (rw [if_pos (by assumption)] at q; omega) | (rw [if_neg (by assumption)] at q; omega))).symm), rfl⟩
      · skip
        refine xg_iloadn 71 dX12_isDue_70 rfl rfl rfl ?_
        refine xg_iconst 72 dX12_isDue_71 rfl ?_
        refine xg_icle 79 75 dX12_isDue_72 rfl rfl (by first | omega | exact hR _ | exact ⟨hR _, by omega⟩ | exact ⟨by omega, hR _⟩ | exact ⟨hR _, hR _⟩) (fun hb72 => ?_) (fun hb72 => ?_)
        · skip
          refine xg_iconst 80 dX12_isDue_79 rfl ?_
          subst hX
          exact xg_zreturn dX12_isDue_80 rfl (by first | exact bI_01 _ | omega) ⟨Nat.le_refl _, Nat.le_refl _⟩ ⟨congrArg (fun v => some (J v)) (by first | exact (@bI_t _ (Classical.propDecidable _) ((sDue_3 (by assumption) (by assumption) (by assumption)).mpr (by first | assumption | omega | (rw [if_pos (by assumption)]; omega) | (rw [if_neg (by assumption)]; omega)))).symm | exact (@bI_f _ (Classical.propDecidable _) (fun q => by have q := (sDue_3 (by assumption) (by assumption) (by assumption)).mp q; first | omega | (rw [if_pos (by assumption)] at q; omega) | (rw [if_neg (by assumption)] at q; omega))).symm), rfl⟩
        · skip
          refine xg_iconst 76 dX12_isDue_75 rfl ?_
          refine xg_goto 80 dX12_isDue_76 rfl ?_
          subst hX
          exact xg_zreturn dX12_isDue_80 rfl (by first | exact bI_01 _ | omega) ⟨Nat.le_refl _, Nat.le_refl _⟩ ⟨congrArg (fun v => some (J v)) (by first | exact (@bI_t _ (Classical.propDecidable _) ((sDue_3 (by assumption) (by assumption) (by assumption)).mpr (by first | assumption | omega | (rw [if_pos (by assumption)]; omega) | (rw [if_neg (by assumption)]; omega)))).symm | exact (@bI_f _ (Classical.propDecidable _) (fun q => by have q := (sDue_3 (by assumption) (by assumption) (by assumption)).mp q; first | omega | (rw [if_pos (by assumption)] at q; omega) | (rw [if_neg (by assumption)] at q; omega))).symm), rfl⟩
    · skip
      refine xg_iloadn 50 dX12_isDue_49 rfl rfl rfl ?_
      refine xg_aloadn 51 dX12_isDue_50 rfl rfl rfl ?_
      refine xg_getP 54 kf_RX12_13 dX12_isDue_51 rfl (by assumption) (by assumption) ?_
      refine xg_iconst 55 dX12_isDue_54 rfl ?_
      refine xg_ialdW 56 dX12_isDue_55 rfl (by assumption) (by first | omega | exact hR _ | exact ⟨hR _, by omega⟩ | exact ⟨by omega, hR _⟩ | exact ⟨hR _, hR _⟩) ?_
      refine xg_iclt 63 59 dX12_isDue_56 rfl rfl (by first | omega | exact hR _ | exact ⟨hR _, by omega⟩ | exact ⟨by omega, hR _⟩ | exact ⟨hR _, hR _⟩) (fun hb56 => ?_) (fun hb56 => ?_)
      · skip
        refine xg_iconst 64 dX12_isDue_63 rfl ?_
        subst hX
        exact xg_zreturn dX12_isDue_64 rfl (by first | exact bI_01 _ | omega) ⟨Nat.le_refl _, Nat.le_refl _⟩ ⟨congrArg (fun v => some (J v)) (by first | exact (@bI_t _ (Classical.propDecidable _) ((sDue_2 (by assumption) (by assumption)).mpr (by first | assumption | omega | (rw [if_pos (by assumption)]; omega) | (rw [if_neg (by assumption)]; omega)))).symm | exact (@bI_f _ (Classical.propDecidable _) (fun q => by have q := (sDue_2 (by assumption) (by assumption)).mp q; first | omega | (rw [if_pos (by assumption)] at q; omega) | (rw [if_neg (by assumption)] at q; omega))).symm), rfl⟩
      · skip
        refine xg_iconst 60 dX12_isDue_59 rfl ?_
        refine xg_goto 64 dX12_isDue_60 rfl ?_
        subst hX
        exact xg_zreturn dX12_isDue_64 rfl (by first | exact bI_01 _ | omega) ⟨Nat.le_refl _, Nat.le_refl _⟩ ⟨congrArg (fun v => some (J v)) (by first | exact (@bI_t _ (Classical.propDecidable _) ((sDue_2 (by assumption) (by assumption)).mpr (by first | assumption | omega | (rw [if_pos (by assumption)]; omega) | (rw [if_neg (by assumption)]; omega)))).symm | exact (@bI_f _ (Classical.propDecidable _) (fun q => by have q := (sDue_2 (by assumption) (by assumption)).mp q; first | omega | (rw [if_pos (by assumption)] at q; omega) | (rw [if_neg (by assumption)] at q; omega))).symm), rfl⟩
  · skip
    refine xg_iloadn 21 dX12_isDue_20 rfl rfl rfl ?_
    refine xg_iloadn 22 dX12_isDue_21 rfl rfl rfl ?_
    refine xg_iconst 23 dX12_isDue_22 rfl ?_
    refine xg_icne 30 26 dX12_isDue_23 rfl rfl (by first | omega | exact hR _ | exact ⟨hR _, by omega⟩ | exact ⟨by omega, hR _⟩ | exact ⟨hR _, hR _⟩) (fun hb23 => ?_) (fun hb23 => ?_)
    · skip
      refine xg_aloadn 31 dX12_isDue_30 rfl rfl rfl ?_
      refine xg_getP 34 kf_RX12_13 dX12_isDue_31 rfl (by assumption) (by assumption) ?_
      refine xg_iconst 35 dX12_isDue_34 rfl ?_
      refine xg_ialdW 36 dX12_isDue_35 rfl (by assumption) (by first | omega | exact hR _ | exact ⟨hR _, by omega⟩ | exact ⟨by omega, hR _⟩ | exact ⟨hR _, hR _⟩) ?_
      refine xg_iclt 43 39 dX12_isDue_36 rfl rfl (by first | omega | exact hR _ | exact ⟨hR _, by omega⟩ | exact ⟨by omega, hR _⟩ | exact ⟨hR _, hR _⟩) (fun hb36 => ?_) (fun hb36 => ?_)
      · skip
        refine xg_iconst 44 dX12_isDue_43 rfl ?_
        subst hX
        exact xg_zreturn dX12_isDue_44 rfl (by first | exact bI_01 _ | omega) ⟨Nat.le_refl _, Nat.le_refl _⟩ ⟨congrArg (fun v => some (J v)) (by first | exact (@bI_t _ (Classical.propDecidable _) ((sDue_1 (by assumption)).mpr (by first | assumption | omega | (rw [if_pos (by assumption)]; omega) | (rw [if_neg (by assumption)]; omega)))).symm | exact (@bI_f _ (Classical.propDecidable _) (fun q => by have q := (sDue_1 (by assumption)).mp q; first | omega | (rw [if_pos (by assumption)] at q; omega) | (rw [if_neg (by assumption)] at q; omega))).symm), rfl⟩
      · skip
        refine xg_iconst 40 dX12_isDue_39 rfl ?_
        refine xg_goto 44 dX12_isDue_40 rfl ?_
        subst hX
        exact xg_zreturn dX12_isDue_44 rfl (by first | exact bI_01 _ | omega) ⟨Nat.le_refl _, Nat.le_refl _⟩ ⟨congrArg (fun v => some (J v)) (by first | exact (@bI_t _ (Classical.propDecidable _) ((sDue_1 (by assumption)).mpr (by first | assumption | omega | (rw [if_pos (by assumption)]; omega) | (rw [if_neg (by assumption)]; omega)))).symm | exact (@bI_f _ (Classical.propDecidable _) (fun q => by have q := (sDue_1 (by assumption)).mp q; first | omega | (rw [if_pos (by assumption)] at q; omega) | (rw [if_neg (by assumption)] at q; omega))).symm), rfl⟩
    · skip
      refine xg_iconst 27 dX12_isDue_26 rfl ?_
      refine xg_goto 36 dX12_isDue_27 rfl ?_
      refine xg_iclt 43 39 dX12_isDue_36 rfl rfl (by first | omega | exact hR _ | exact ⟨hR _, by omega⟩ | exact ⟨by omega, hR _⟩ | exact ⟨hR _, hR _⟩) (fun hb36 => ?_) (fun hb36 => ?_)
      · skip
        refine xg_iconst 44 dX12_isDue_43 rfl ?_
        subst hX
        exact xg_zreturn dX12_isDue_44 rfl (by first | exact bI_01 _ | omega) ⟨Nat.le_refl _, Nat.le_refl _⟩ ⟨congrArg (fun v => some (J v)) (by first | exact (@bI_t _ (Classical.propDecidable _) ((sDue_1 (by assumption)).mpr (by first | assumption | omega | (rw [if_pos (by assumption)]; omega) | (rw [if_neg (by assumption)]; omega)))).symm | exact (@bI_f _ (Classical.propDecidable _) (fun q => by have q := (sDue_1 (by assumption)).mp q; first | omega | (rw [if_pos (by assumption)] at q; omega) | (rw [if_neg (by assumption)] at q; omega))).symm), rfl⟩
      · skip
        refine xg_iconst 40 dX12_isDue_39 rfl ?_
        refine xg_goto 44 dX12_isDue_40 rfl ?_
        subst hX
        exact xg_zreturn dX12_isDue_44 rfl (by first | exact bI_01 _ | omega) ⟨Nat.le_refl _, Nat.le_refl _⟩ ⟨congrArg (fun v => some (J v)) (by first | exact (@bI_t _ (Classical.propDecidable _) ((sDue_1 (by assumption)).mpr (by first | assumption | omega | (rw [if_pos (by assumption)]; omega) | (rw [if_neg (by assumption)]; omega)))).symm | exact (@bI_f _ (Classical.propDecidable _) (fun q => by have q := (sDue_1 (by assumption)).mp q; first | omega | (rw [if_pos (by assumption)] at q; omega) | (rw [if_neg (by assumption)] at q; omega))).symm), rfl⟩

section XGC
variable {E : xE} {M : xM} {R : Room} {X : xX} {pc : Nat} {L : List (Option Value)} {st : List Value} {h : xH} {c n : Nat}
theorem xg_ceq {p : Prop} {o : Int} (q r : Nat) (d : decode M.2.1 pc = .ok (.ifCond .eq o, 3)) (hq : (pc : Int) + o = (q : Int)) (hq2 : pc + 3 = r) (kt : ¬ p → xG E M R X q L st h c n) (kf : p → xG E M R X r L st h c n) : xG E M R X pc L (J (bI (@decide p (Classical.propDecidable p))) :: st) h c n :=
  @xg_deq E M R X pc L st h c n p (Classical.propDecidable p) o q r d hq hq2 kt kf
theorem xg_cne {p : Prop} {o : Int} (q r : Nat) (d : decode M.2.1 pc = .ok (.ifCond .ne o, 3)) (hq : (pc : Int) + o = (q : Int)) (hq2 : pc + 3 = r) (kt : p → xG E M R X q L st h c n) (kf : ¬ p → xG E M R X r L st h c n) : xG E M R X pc L (J (bI (@decide p (Classical.propDecidable p))) :: st) h c n :=
  @xg_dne E M R X pc L st h c n p (Classical.propDecidable p) o q r d hq hq2 kt kf
end XGC
