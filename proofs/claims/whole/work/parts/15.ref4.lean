theorem xor_all {a : Nat} (ha : a < 2147483648) (b : Nat) (hb : b < 2147483648) : xand (a : Int) (xxor (b : Int) (-1)) = ((a &&& (b ^^^ 4294967295) : Nat) : Int) := by
  have e : (Int32.ofInt (a : Int) &&& Int32.ofInt (xxor (b : Int) (-1))) = Int32.ofBitVec (BitVec.ofNat 32 a &&& (BitVec.ofNat 32 b ^^^ BitVec.ofNat 32 4294967295)) := by
    unfold xxor
    rw [Int32.ofInt_toInt, Int32.ofInt_eq_ofNat, Int32.ofInt_eq_ofNat]; rfl
  have h : (a &&& (b ^^^ 4294967295)) ≤ a := Nat.and_le_left
  unfold xand
  rw [e]
  refine xbv ?_ (by omega)
  rw [BitVec.toNat_and, BitVec.toNat_xor, BitVec.toNat_ofNat, BitVec.toNat_ofNat, BitVec.toNat_ofNat, Nat.mod_eq_of_lt (by omega), Nat.mod_eq_of_lt (by omega)]
def nAndn (a b : Nat) : Nat := a &&& (b ^^^ 4294967295)
theorem nAndn_bit (a b : Nat) {r : Nat} (hr : r < 32) : (nAndn a b).testBit r = (a.testBit r && !(b.testBit r)) := by
  unfold nAndn
  rw [Nat.testBit_and, Nat.testBit_xor, show (4294967295 : Nat) = 2 ^ 32 - 1 from rfl, Nat.testBit_two_pow_sub_one]
  simp [hr]
theorem nAndn_le (a b : Nat) : nAndn a b ≤ a := Nat.and_le_left
noncomputable abbrev sDueB (w : Int → Int) (l : Int) : Bool := @decide (sDue w l) (Classical.propDecidable _)
def sLeftR (w : Int → Int) (r : Int) (k : Nat) : Int := pSum (fun k => if k < w 18 then 0 else if w (201 + 122 * r + k) = -1 then 0 else 1) k
def sLeft (w : Int → Int) : Int := pSum (fun r => if w (200 + 122 * r) = 1 then sLeftR w r 60 else 0) (wN w)
theorem sLeftR_0 (w : Int → Int) (r : Int) : ∀ k : Nat, (k : Int) ≤ w 18 → sLeftR w r k = 0
  | 0, _ => rfl
  | k + 1, h => by
    have h1 := sLeftR_0 w r k (by omega)
    unfold sLeftR at h1 ⊢
    rw [pSum_s, h1, if_pos (by omega)]; rfl
theorem sLeftR_bd (w : Int → Int) (r : Int) (k : Nat) : 0 ≤ sLeftR w r k ∧ sLeftR w r k ≤ k := by
  have := pSum_bd (f := fun k => if k < w 18 then 0 else if w (201 + 122 * r + k) = -1 then 0 else 1) (b := 1) (k := k) (fun j _ => by split <;> (try split) <;> omega)
  unfold sLeftR; omega
theorem pLeft_bd (w : Int → Int) (k : Nat) : 0 ≤ pSum (fun r => if w (200 + 122 * r) = 1 then sLeftR w r 60 else 0) k ∧ pSum (fun r => if w (200 + 122 * r) = 1 then sLeftR w r 60 else 0) k ≤ 60 * k :=
  pSum_bd (b := 60) (fun j _ => by have := sLeftR_bd w (j : Int) 60; split <;> omega)
theorem sLeft_bd {w : Int → Int} (h : w 0 ≤ 12) : 0 ≤ sLeft w ∧ sLeft w ≤ 720 := by
  have := pLeft_bd w (wN w)
  have : wN w ≤ 12 := by unfold wN; omega
  unfold sLeft; omega
noncomputable def sDebtS (w : Int → Int) : Nat → Nat
  | 0 => 0
  | l + 1 => sDebtS w l ||| (if sDueB w (l : Int) = true then sRuns w (l : Int) else 0)
theorem sRuns_lt {w : Int → Int} (l : Int) (h : w 0 ≤ 12) : sRuns w l < 4096 := nSet_31 _ (by unfold wN; omega)
theorem sInp_lt {w : Int → Int} (h : w 0 ≤ 12) : sInp w < 4096 := nSet_31 _ (by unfold wN; omega)
theorem sDebtS_lt {w : Int → Int} (h : w 0 ≤ 12) : ∀ l : Nat, sDebtS w l < 4096
  | 0 => by simp [sDebtS]
  | l + 1 => by
    have h1 := sDebtS_lt h l
    have h2 := sRuns_lt (w := w) (l : Int) h
    rw [sDebtS]
    refine Nat.or_lt_two_pow (n := 12) h1 ?_
    split <;> omega
noncomputable def sDebt (w : Int → Int) : Int := sLeft w + sEntIn w (nAndn (sDebtS w 4) (sInp w))
theorem sDebt_bd {w : Int → Int} (h : w 0 ≤ 12) : 0 ≤ sDebt w ∧ sDebt w ≤ 1440 := by
  have h1 := sLeft_bd h
  have h2 := sEntIn_bd (w := w) (nAndn (sDebtS w 4) (sInp w)) h
  unfold sDebt; omega
def pMost (f g : Int → Int) : Nat → Int
  | 0 => 0
  | k + 1 => if f (k : Int) = -1 then pMost f g k else max (pMost f g k) (g (k : Int))
theorem pMost_bd {f g : Int → Int} (h : ∀ k : Nat, k < 60 → g k ≤ 100) : ∀ k : Nat, k ≤ 60 → 0 ≤ pMost f g k ∧ pMost f g k ≤ 100
  | 0, _ => by simp [pMost]
  | k + 1, hk => by
    have h1 := pMost_bd (f := f) h k (by omega)
    have h2 := h k (by omega)
    rw [pMost]
    split
    · exact h1
    · omega
def sMostR (w : Int → Int) (r : Int) : Int := pMost (fun k => w (201 + 122 * r + k)) (fun k => w (261 + 122 * r + k)) 60
def sAllE (w : Int → Int) : Int := sEntIn w (2 ^ wN w - 1)
theorem sLow_s (w : Int → Int) (key : Int) (r : Nat) : sLow w key (r + 1) = (!(wInp w r) && (sLow w key r || (wHas w key r && pAll (fun e => !(wInp w e)) r (wN w - r)))) := rfl
def sCrowd (w : Int → Int) : Bool := decide (w 4 + 2 ≤ sMany w 0 ∨ w 0 = 12)
theorem sFnd_bd {w : Int → Int} (hO : wOk w) {key : Int} : -2147483648 ≤ sFnd w key ∧ sFnd w key < 2147483648 := by
  have h1 := hO.1 (19 + key)
  have h2 := hO.1 (201 + 122 * (sNewO w key - 1) + key)
  unfold sFnd
  dsimp only
  repeat' split
  all_goals omega
theorem sNewR_bd (w : Int → Int) (key : Int) : sNewR w key ≤ wN w := by
  have := sFind_ge (fun r => wHas w key r) (wN w) 0
  unfold sNewR; omega
theorem dX12_leftNow_0 : decode cX12_leftNow 0 = .ok (.iconst 0, 1) := by decide +kernel
theorem dX12_leftNow_1 : decode cX12_leftNow 1 = .ok (.istore_n 1, 1) := by decide +kernel
theorem dX12_leftNow_2 : decode cX12_leftNow 2 = .ok (.iconst 0, 1) := by decide +kernel
theorem dX12_leftNow_3 : decode cX12_leftNow 3 = .ok (.istore_n 2, 1) := by decide +kernel
theorem dX12_leftNow_4 : decode cX12_leftNow 4 = .ok (.iload_n 2, 1) := by decide +kernel
theorem dX12_leftNow_5 : decode cX12_leftNow 5 = .ok (.aload_n 0, 1) := by decide +kernel
theorem dX12_leftNow_6 : decode cX12_leftNow 6 = .ok (.invokevirtual 66, 3) := by decide +kernel
theorem dX12_leftNow_9 : decode cX12_leftNow 9 = .ok (.if_icmp .ge 60, 3) := by decide +kernel
theorem dX12_leftNow_12 : decode cX12_leftNow 12 = .ok (.aload_n 0, 1) := by decide +kernel
theorem dX12_leftNow_13 : decode cX12_leftNow 13 = .ok (.getfield 13, 3) := by decide +kernel
theorem dX12_leftNow_16 : decode cX12_leftNow 16 = .ok (.bipush 18, 2) := by decide +kernel
theorem dX12_leftNow_18 : decode cX12_leftNow 18 = .ok (.iaload, 1) := by decide +kernel
theorem dX12_leftNow_19 : decode cX12_leftNow 19 = .ok (.istore_n 3, 1) := by decide +kernel
theorem dX12_leftNow_20 : decode cX12_leftNow 20 = .ok (.aload_n 0, 1) := by decide +kernel
theorem dX12_leftNow_21 : decode cX12_leftNow 21 = .ok (.iload_n 2, 1) := by decide +kernel
theorem dX12_leftNow_22 : decode cX12_leftNow 22 = .ok (.invokevirtual 290, 3) := by decide +kernel
theorem dX12_leftNow_25 : decode cX12_leftNow 25 = .ok (.ifCond .eq 38, 3) := by decide +kernel
theorem dX12_leftNow_28 : decode cX12_leftNow 28 = .ok (.iload_n 3, 1) := by decide +kernel
theorem dX12_leftNow_29 : decode cX12_leftNow 29 = .ok (.bipush 60, 2) := by decide +kernel
theorem dX12_leftNow_31 : decode cX12_leftNow 31 = .ok (.if_icmp .ge 32, 3) := by decide +kernel
theorem dX12_leftNow_34 : decode cX12_leftNow 34 = .ok (.iload_n 1, 1) := by decide +kernel
theorem dX12_leftNow_35 : decode cX12_leftNow 35 = .ok (.aload_n 0, 1) := by decide +kernel
theorem dX12_leftNow_36 : decode cX12_leftNow 36 = .ok (.getfield 13, 3) := by decide +kernel
theorem dX12_leftNow_39 : decode cX12_leftNow 39 = .ok (.iload_n 2, 1) := by decide +kernel
theorem dX12_leftNow_40 : decode cX12_leftNow 40 = .ok (.invokestatic 133, 3) := by decide +kernel
theorem dX12_leftNow_43 : decode cX12_leftNow 43 = .ok (.iload_n 3, 1) := by decide +kernel
theorem dX12_leftNow_44 : decode cX12_leftNow 44 = .ok (.iadd, 1) := by decide +kernel
theorem dX12_leftNow_45 : decode cX12_leftNow 45 = .ok (.iaload, 1) := by decide +kernel
theorem dX12_leftNow_46 : decode cX12_leftNow 46 = .ok (.iconst (-1), 1) := by decide +kernel
theorem dX12_leftNow_47 : decode cX12_leftNow 47 = .ok (.if_icmp .ne 7, 3) := by decide +kernel
theorem dX12_leftNow_50 : decode cX12_leftNow 50 = .ok (.iconst 0, 1) := by decide +kernel
theorem dX12_leftNow_51 : decode cX12_leftNow 51 = .ok (.goto 4, 3) := by decide +kernel
theorem dX12_leftNow_54 : decode cX12_leftNow 54 = .ok (.iconst 1, 1) := by decide +kernel
theorem dX12_leftNow_55 : decode cX12_leftNow 55 = .ok (.iadd, 1) := by decide +kernel
theorem dX12_leftNow_56 : decode cX12_leftNow 56 = .ok (.istore_n 1, 1) := by decide +kernel
theorem dX12_leftNow_57 : decode cX12_leftNow 57 = .ok (.iinc 3 1, 3) := by decide +kernel
theorem dX12_leftNow_60 : decode cX12_leftNow 60 = .ok (.goto (-40), 3) := by decide +kernel
theorem dX12_leftNow_63 : decode cX12_leftNow 63 = .ok (.iinc 2 1, 3) := by decide +kernel
theorem dX12_leftNow_66 : decode cX12_leftNow 66 = .ok (.goto (-62), 3) := by decide +kernel
theorem dX12_leftNow_69 : decode cX12_leftNow 69 = .ok (.iload_n 1, 1) := by decide +kernel
theorem dX12_leftNow_70 : decode cX12_leftNow 70 = .ok (.ireturn, 1) := by decide +kernel
set_option maxHeartbeats 4000000 in
set_option maxRecDepth 100000 in
theorem ct_X12_leftNow {E : xE} {z : Nat} {T : Nat → Nat × Int} {F : Nat → Nat → Int} {I : Nat → Int → Int} {P : Nat → Nat → Option Nat} {Y : Nat → Int → Option Nat} {m : Nat} {w : Int → Int} (hw : wM T P m) (hO : wOk w) : Ct E 2 mX12_leftNow 0 0 [.ref m] (z, T, F, upA I (m + 1) w, P, Y) (xd (some (J (sLeft w))) (z, T, F, upA I (m + 1) w, P, Y)) := by
  obtain ⟨⟨q0, q1, q2, q3⟩, -⟩ := id hw
  obtain ⟨hR, o0, o1, o2, o3, o4, o5, o6, oc, o13, o14, o16, o17, o18, ov⟩ := id hO
  have hN := wN_i o0.1
  refine Ct.of [some (.ref m), none, none, none] kt_X12_leftNow rfl (Nat.le_of_ble_eq_true rfl) rfl (fun d hd => ?_)
  generalize hX : xN E _ _ _ = X
  refine xg_iconst 1 dX12_leftNow_0 rfl ?_
  refine xg_istoren 2 _ dX12_leftNow_1 rfl rfl rfl (by decide) (Or.inr rfl) ?_
  refine xg_iconst 3 dX12_leftNow_2 rfl ?_
  refine xg_istoren 4 _ dX12_leftNow_3 rfl rfl rfl (by decide) (Or.inr rfl) ?_
  have loop4 : ∀ (mm : Nat) (r : Nat) (n : Int) (v : Option Value), (r : Int) ≤ w 0 → n = pSum (fun r => if w (200 + 122 * r) = 1 then sLeftR w r 60 else 0) r → w 0 - (r : Int) < (mm : Int) → xG E mX12_leftNow (xR d 0 0) X 4 [some (.ref m), some (J n), some (J (r : Int)), none] [] (z, T, F, upA I (m + 1) w, P, Y) 0 0 := by
    intro mm
    induction mm with
    | zero => intro r n v hr hn hm; exfalso; omega
    | succ mm ih =>
      intro r n v hr hn hm
      refine xg_iloadn 5 dX12_leftNow_4 rfl rfl rfl ?_
      refine xg_aloadn 6 dX12_leftNow_5 rfl rfl rfl ?_
      refine xg_callV 9 12 [] _ kv_X12_runs ⟨_, _, rfl⟩ kl_RX12_66 dX12_leftNow_6 rfl (by assumption) (by omega) rfl rfl (Nat.le_of_ble_eq_true rfl) (by omega) ⟨Nat.le_refl _, Nat.le_refl _⟩ (ct_X12_runs hw) rfl ?_
      refine xg_icge 69 12 dX12_leftNow_9 rfl rfl (by first | omega | exact hR _ | exact ⟨hR _, by omega⟩ | exact ⟨by omega, hR _⟩ | exact ⟨hR _, hR _⟩) (fun hb9 => ?_) (fun hb9 => ?_)
      · skip
        refine xg_iloadn 70 dX12_leftNow_69 rfl rfl rfl ?_
        subst hX
        exact xg_ireturn dX12_leftNow_70 rfl ⟨Nat.le_refl _, Nat.le_refl _⟩ ⟨by rw [hn, show r = wN w by omega]; rfl, rfl⟩
      · skip
        refine xg_aloadn 13 dX12_leftNow_12 rfl rfl rfl ?_
        refine xg_getP 16 kf_RX12_13 dX12_leftNow_13 rfl (by assumption) (by assumption) ?_
        refine xg_bipush 18 dX12_leftNow_16 rfl (by decide) ?_
        refine xg_ialdW 19 dX12_leftNow_18 rfl (by assumption) (by first | omega | exact hR _ | exact ⟨hR _, by omega⟩ | exact ⟨by omega, hR _⟩ | exact ⟨hR _, hR _⟩) ?_
        refine xg_istoren 20 _ dX12_leftNow_19 rfl rfl rfl (by decide) (Or.inr rfl) ?_
        have loop20 : ∀ (mm : Nat) (k : Nat) (n2 : Int), (w 18 ≤ (k : Int) ∧ (k : Int) ≤ 60) → (w (200 + 122 * (r : Int)) = 1 ∨ (k : Int) = w 18) → n2 = n + sLeftR w r k → 60 - (k : Int) < (mm : Int) → xG E mX12_leftNow (xR d 0 0) X 20 [some (.ref m), some (J n2), some (J (r : Int)), some (J (k : Int))] [] (z, T, F, upA I (m + 1) w, P, Y) 0 0 := by
          intro mm
          induction mm with
          | zero => intro k n2 hk hk2 hn2 hm; exfalso; omega
          | succ mm ih2 =>
            intro k n2 hk hk2 hn2 hm
            have hlb := sLeftR_bd w (r : Int) k
            have hlp := pLeft_bd w r
            refine xg_aloadn 21 dX12_leftNow_20 rfl rfl rfl ?_
            refine xg_iloadn 22 dX12_leftNow_21 rfl rfl rfl ?_
            refine xg_callV 25 12 [_] _ kv_X12_isInput ⟨_, _, rfl⟩ kl_RX12_290 dX12_leftNow_22 rfl (by assumption) (by omega) rfl rfl (Nat.le_of_ble_eq_true rfl) (by omega) ⟨Nat.le_refl _, Nat.le_refl _⟩ (ct_X12_isInput hw hR (by omega)) rfl ?_
            refine xg_deq 63 28 dX12_leftNow_25 rfl rfl (fun hb25 => ?_) (fun hb25 => ?_)
            · skip
              refine xg_iinc 66 _ dX12_leftNow_63 rfl rfl rfl rfl (by decide) (Or.inr rfl) ?_
              refine xg_goto 4 dX12_leftNow_66 rfl ?_
              exact xg_weak _ (xle_s rfl (xle_s rfl (xle_s rfl (xle_n xle_0)))) (ih (r + 1) _ none (by omega) (by rw [pSum_s, if_neg hb25, ← hn, hn2, sLeftR_0 w r k (by omega)]) (by omega))
            · skip
              refine xg_iloadn 29 dX12_leftNow_28 rfl rfl rfl ?_
              refine xg_bipush 31 dX12_leftNow_29 rfl (by decide) ?_
              refine xg_icge 63 34 dX12_leftNow_31 rfl rfl (by first | omega | exact hR _ | exact ⟨hR _, by omega⟩ | exact ⟨by omega, hR _⟩ | exact ⟨hR _, hR _⟩) (fun hb31 => ?_) (fun hb31 => ?_)
              · skip
                refine xg_iinc 66 _ dX12_leftNow_63 rfl rfl rfl rfl (by decide) (Or.inr rfl) ?_
                refine xg_goto 4 dX12_leftNow_66 rfl ?_
                exact xg_weak _ (xle_s rfl (xle_s rfl (xle_s rfl (xle_n xle_0)))) (ih (r + 1) _ none (by omega) (by rw [pSum_s, if_pos hb25, ← hn, hn2, show k = 60 by omega]) (by omega))
              · skip
                refine xg_iloadn 35 dX12_leftNow_34 rfl rfl rfl ?_
                refine xg_aloadn 36 dX12_leftNow_35 rfl rfl rfl ?_
                refine xg_getP 39 kf_RX12_13 dX12_leftNow_36 rfl (by assumption) (by assumption) ?_
                refine xg_iloadn 40 dX12_leftNow_39 rfl rfl rfl ?_
                refine xg_callS 43 [_] _ ks_X12_rowOf kl_RX12_133 dX12_leftNow_40 rfl rfl rfl (Nat.le_of_ble_eq_true rfl) (by omega) ⟨Nat.le_refl _, Nat.le_refl _⟩ (ct_X12_rowOf) rfl ?_
                refine xg_iloadn 44 dX12_leftNow_43 rfl rfl rfl ?_
                refine xg_iadd 45 dX12_leftNow_44 rfl ?_
                refine xg_ialdW 46 dX12_leftNow_45 rfl (by assumption) (by first | omega | exact hR _ | exact ⟨hR _, by omega⟩ | exact ⟨by omega, hR _⟩ | exact ⟨hR _, hR _⟩) ?_
                refine xg_iconst 47 dX12_leftNow_46 rfl ?_
                refine xg_icne 54 50 dX12_leftNow_47 rfl rfl (by first | omega | exact hR _ | exact ⟨hR _, by omega⟩ | exact ⟨by omega, hR _⟩ | exact ⟨hR _, hR _⟩) (fun hb47 => ?_) (fun hb47 => ?_)
                · skip
                  refine xg_iconst 55 dX12_leftNow_54 rfl ?_
                  refine xg_iadd 56 dX12_leftNow_55 rfl ?_
                  refine xg_istoren 57 _ dX12_leftNow_56 rfl rfl rfl (by decide) (Or.inr rfl) ?_
                  refine xg_iinc 60 _ dX12_leftNow_57 rfl rfl rfl rfl (by decide) (Or.inr rfl) ?_
                  refine xg_goto 20 dX12_leftNow_60 rfl ?_
                  exact xg_weak _ (xle_s rfl (xle_s rfl (xle_s rfl (xle_s rfl xle_0)))) (ih2 (k + 1) _ (by omega) (Or.inl hb25) (by rw [hn2]; unfold sLeftR; rw [pSum_s, if_neg (by omega)]; first | (rw [if_pos hb47]; omega) | (rw [if_neg hb47]; omega)) (by omega))
                · skip
                  refine xg_iconst 51 dX12_leftNow_50 rfl ?_
                  refine xg_goto 55 dX12_leftNow_51 rfl ?_
                  refine xg_iadd 56 dX12_leftNow_55 rfl ?_
                  refine xg_istoren 57 _ dX12_leftNow_56 rfl rfl rfl (by decide) (Or.inr rfl) ?_
                  refine xg_iinc 60 _ dX12_leftNow_57 rfl rfl rfl rfl (by decide) (Or.inr rfl) ?_
                  refine xg_goto 20 dX12_leftNow_60 rfl ?_
                  exact xg_weak _ (xle_s rfl (xle_s rfl (xle_s rfl (xle_s rfl xle_0)))) (ih2 (k + 1) _ (by omega) (Or.inl hb25) (by rw [hn2]; unfold sLeftR; rw [pSum_s, if_neg (by omega)]; first | (rw [if_pos hb47]; omega) | (rw [if_neg hb47]; omega)) (by omega))
        have hk0 : (((w 18).toNat : Nat) : Int) = w 18 := by omega
        exact xg_weak _ (xle_s rfl (xle_s rfl (xle_s rfl (xle_s (by rw [hk0]) xle_0)))) (loop20 70 (w 18).toNat n (by omega) (Or.inr hk0) (by rw [sLeftR_0 w r _ (by omega)]; omega) (by omega))
  exact xg_weak _ (xle_s rfl (xle_s rfl (xle_s rfl (xle_n xle_0)))) (loop4 20 0 0 none (by omega) rfl (by omega))

theorem dX12_debtNow_0 : decode cX12_debtNow 0 = .ok (.iconst 0, 1) := by decide +kernel
theorem dX12_debtNow_1 : decode cX12_debtNow 1 = .ok (.istore_n 1, 1) := by decide +kernel
theorem dX12_debtNow_2 : decode cX12_debtNow 2 = .ok (.iconst 0, 1) := by decide +kernel
theorem dX12_debtNow_3 : decode cX12_debtNow 3 = .ok (.istore_n 2, 1) := by decide +kernel
theorem dX12_debtNow_4 : decode cX12_debtNow 4 = .ok (.iload_n 2, 1) := by decide +kernel
theorem dX12_debtNow_5 : decode cX12_debtNow 5 = .ok (.iconst 4, 1) := by decide +kernel
theorem dX12_debtNow_6 : decode cX12_debtNow 6 = .ok (.if_icmp .ge 29, 3) := by decide +kernel
theorem dX12_debtNow_9 : decode cX12_debtNow 9 = .ok (.iload_n 1, 1) := by decide +kernel
theorem dX12_debtNow_10 : decode cX12_debtNow 10 = .ok (.aload_n 0, 1) := by decide +kernel
theorem dX12_debtNow_11 : decode cX12_debtNow 11 = .ok (.iload_n 2, 1) := by decide +kernel
theorem dX12_debtNow_12 : decode cX12_debtNow 12 = .ok (.invokevirtual 293, 3) := by decide +kernel
theorem dX12_debtNow_15 : decode cX12_debtNow 15 = .ok (.ifCond .eq 11, 3) := by decide +kernel
theorem dX12_debtNow_18 : decode cX12_debtNow 18 = .ok (.aload_n 0, 1) := by decide +kernel
theorem dX12_debtNow_19 : decode cX12_debtNow 19 = .ok (.iload_n 2, 1) := by decide +kernel
theorem dX12_debtNow_20 : decode cX12_debtNow 20 = .ok (.invokevirtual 254, 3) := by decide +kernel
theorem dX12_debtNow_23 : decode cX12_debtNow 23 = .ok (.goto 4, 3) := by decide +kernel
theorem dX12_debtNow_26 : decode cX12_debtNow 26 = .ok (.iconst 0, 1) := by decide +kernel
theorem dX12_debtNow_27 : decode cX12_debtNow 27 = .ok (.ior, 1) := by decide +kernel
theorem dX12_debtNow_28 : decode cX12_debtNow 28 = .ok (.istore_n 1, 1) := by decide +kernel
theorem dX12_debtNow_29 : decode cX12_debtNow 29 = .ok (.iinc 2 1, 3) := by decide +kernel
theorem dX12_debtNow_32 : decode cX12_debtNow 32 = .ok (.goto (-28), 3) := by decide +kernel
theorem dX12_debtNow_35 : decode cX12_debtNow 35 = .ok (.aload_n 0, 1) := by decide +kernel
theorem dX12_debtNow_36 : decode cX12_debtNow 36 = .ok (.invokevirtual 296, 3) := by decide +kernel
theorem dX12_debtNow_39 : decode cX12_debtNow 39 = .ok (.aload_n 0, 1) := by decide +kernel
theorem dX12_debtNow_40 : decode cX12_debtNow 40 = .ok (.iload_n 1, 1) := by decide +kernel
theorem dX12_debtNow_41 : decode cX12_debtNow 41 = .ok (.aload_n 0, 1) := by decide +kernel
theorem dX12_debtNow_42 : decode cX12_debtNow 42 = .ok (.invokevirtual 299, 3) := by decide +kernel
theorem dX12_debtNow_45 : decode cX12_debtNow 45 = .ok (.iconst (-1), 1) := by decide +kernel
theorem dX12_debtNow_46 : decode cX12_debtNow 46 = .ok (.ixor, 1) := by decide +kernel
theorem dX12_debtNow_47 : decode cX12_debtNow 47 = .ok (.iand, 1) := by decide +kernel
theorem dX12_debtNow_48 : decode cX12_debtNow 48 = .ok (.invokevirtual 262, 3) := by decide +kernel
theorem dX12_debtNow_51 : decode cX12_debtNow 51 = .ok (.iadd, 1) := by decide +kernel
theorem dX12_debtNow_52 : decode cX12_debtNow 52 = .ok (.ireturn, 1) := by decide +kernel
set_option maxHeartbeats 4000000 in
set_option maxRecDepth 100000 in
theorem ct_X12_debtNow {E : xE} {z : Nat} {T : Nat → Nat × Int} {F : Nat → Nat → Int} {I : Nat → Int → Int} {P : Nat → Nat → Option Nat} {Y : Nat → Int → Option Nat} {m : Nat} {w : Int → Int} (hw : wM T P m) (hO : wOk w) : Ct E 4 mX12_debtNow 0 0 [.ref m] (z, T, F, upA I (m + 1) w, P, Y) (xd (some (J (sDebt w))) (z, T, F, upA I (m + 1) w, P, Y)) := by
  obtain ⟨⟨q0, q1, q2, q3⟩, -⟩ := id hw
  obtain ⟨hR, o0, o1, o2, o3, o4, o5, o6, oc, o13, o14, o16, o17, o18, ov⟩ := id hO
  have hN := wN_i o0.1
  refine Ct.of [some (.ref m), none, none] kt_X12_debtNow rfl (Nat.le_of_ble_eq_true rfl) rfl (fun d hd => ?_)
  generalize hX : xN E _ _ _ = X
  refine xg_iconst 1 dX12_debtNow_0 rfl ?_
  refine xg_istoren 2 _ dX12_debtNow_1 rfl rfl rfl (by decide) (Or.inr rfl) ?_
  refine xg_iconst 3 dX12_debtNow_2 rfl ?_
  refine xg_istoren 4 _ dX12_debtNow_3 rfl rfl rfl (by decide) (Or.inr rfl) ?_
  have loop4 : ∀ (mm : Nat) (l : Nat) (n : Int), l ≤ 4 → n = (sDebtS w l : Nat) → 4 - (l : Int) < (mm : Int) → xG E mX12_debtNow (xR d 0 0) X 4 [some (.ref m), some (J n), some (J (l : Int))] [] (z, T, F, upA I (m + 1) w, P, Y) 0 0 := by
    intro mm
    induction mm with
    | zero => intro l n hl hn hm; exfalso; omega
    | succ mm ih =>
      intro l n hl hn hm
      have hlt := sDebtS_lt (w := w) o0.2 l
      have hlr := sRuns_lt (w := w) (l : Int) o0.2
      have hli := sInp_lt (w := w) o0.2
      refine xg_iloadn 5 dX12_debtNow_4 rfl rfl rfl ?_
      refine xg_iconst 6 dX12_debtNow_5 rfl ?_
      refine xg_icge 35 9 dX12_debtNow_6 rfl rfl (by first | omega | exact hR _ | exact ⟨hR _, by omega⟩ | exact ⟨by omega, hR _⟩ | exact ⟨hR _, hR _⟩) (fun hb6 => ?_) (fun hb6 => ?_)
      · skip
        refine xg_aloadn 36 dX12_debtNow_35 rfl rfl rfl ?_
        refine xg_callV 39 12 [] _ kv_X12_leftNow ⟨_, _, rfl⟩ kl_RX12_296 dX12_debtNow_36 rfl (by assumption) (by omega) rfl rfl (Nat.le_of_ble_eq_true rfl) (by omega) ⟨Nat.le_refl _, Nat.le_refl _⟩ (ct_X12_leftNow hw hO) rfl ?_
        refine xg_aloadn 40 dX12_debtNow_39 rfl rfl rfl ?_
        refine xg_iloadn 41 dX12_debtNow_40 rfl rfl rfl ?_
        refine xg_aloadn 42 dX12_debtNow_41 rfl rfl rfl ?_
        refine xg_callV 45 12 [] _ kv_X12_inputs ⟨_, _, rfl⟩ kl_RX12_299 dX12_debtNow_42 rfl (by assumption) (by omega) rfl rfl (Nat.le_of_ble_eq_true rfl) (by omega) ⟨Nat.le_refl _, Nat.le_refl _⟩ (ct_X12_inputs hw hO) rfl ?_
        refine xg_iconst 46 dX12_debtNow_45 rfl ?_
        refine xg_ixor 47 dX12_debtNow_46 rfl ?_
        refine xg_iand 48 dX12_debtNow_47 rfl ?_
        rw [hn, xor_all (by omega) _ (by omega)]
        have hna : nAndn (sDebtS w l) (sInp w) < 2147483648 := Nat.lt_of_le_of_lt (nAndn_le _ _) (by omega)
        change xG _ _ _ _ _ _ (J ((nAndn (sDebtS w l) (sInp w) : Nat) : Int) :: _) _ _ _
        refine xg_callV 51 12 [_] _ kv_X12_entriesIn ⟨_, _, rfl⟩ kl_RX12_262 dX12_debtNow_48 rfl (by assumption) (by omega) rfl rfl (Nat.le_of_ble_eq_true rfl) (by omega) ⟨Nat.le_refl _, Nat.le_refl _⟩ (ct_X12_entriesIn hw hO hna) rfl ?_
        refine xg_iadd 52 dX12_debtNow_51 rfl ?_
        subst hX
        exact xg_ireturn dX12_debtNow_52 rfl ⟨Nat.le_refl _, Nat.le_refl _⟩ ⟨by rw [show l = 4 by omega]; rfl, rfl⟩
      · skip
        refine xg_iloadn 10 dX12_debtNow_9 rfl rfl rfl ?_
        refine xg_aloadn 11 dX12_debtNow_10 rfl rfl rfl ?_
        refine xg_iloadn 12 dX12_debtNow_11 rfl rfl rfl ?_
        refine xg_callV 15 12 [_] _ kv_X12_isDue ⟨_, _, rfl⟩ kl_RX12_293 dX12_debtNow_12 rfl (by assumption) (by omega) rfl rfl (Nat.le_of_ble_eq_true rfl) (by omega) ⟨Nat.le_refl _, Nat.le_refl _⟩ (ct_X12_isDue hw hO (by omega)) rfl ?_
        refine xg_beq 26 18 dX12_debtNow_15 rfl rfl (fun hb15 => ?_) (fun hb15 => ?_)
        · skip
          refine xg_iconst 27 dX12_debtNow_26 rfl ?_
          refine xg_ior 28 dX12_debtNow_27 rfl ?_
          refine xg_istoren 29 _ dX12_debtNow_28 rfl rfl rfl (by decide) (Or.inr rfl) ?_
          refine xg_iinc 32 _ dX12_debtNow_29 rfl rfl rfl rfl (by decide) (Or.inr rfl) ?_
          refine xg_goto 4 dX12_debtNow_32 rfl ?_
          exact xg_weak _ (xle_s rfl (xle_s rfl (xle_s rfl xle_0))) (ih (l + 1) _ (by omega) (by rw [hn]; first | rw [xor2_nat (by omega) (by omega), sDebtS, if_pos hb15] | rw [show (0 : Int) = ((0 : Nat) : Int) from rfl, xor2_nat (by omega) (by omega), sDebtS, if_neg (Bool.eq_false_iff.mp hb15)]) (by omega))
        · skip
          refine xg_aloadn 19 dX12_debtNow_18 rfl rfl rfl ?_
          refine xg_iloadn 20 dX12_debtNow_19 rfl rfl rfl ?_
          refine xg_callV 23 12 [_] _ kv_X12_runsOf ⟨_, _, rfl⟩ kl_RX12_254 dX12_debtNow_20 rfl (by assumption) (by omega) rfl rfl (Nat.le_of_ble_eq_true rfl) (by omega) ⟨Nat.le_refl _, Nat.le_refl _⟩ (ct_X12_runsOf hw hO (by omega)) rfl ?_
          refine xg_goto 27 dX12_debtNow_23 rfl ?_
          refine xg_ior 28 dX12_debtNow_27 rfl ?_
          refine xg_istoren 29 _ dX12_debtNow_28 rfl rfl rfl (by decide) (Or.inr rfl) ?_
          refine xg_iinc 32 _ dX12_debtNow_29 rfl rfl rfl rfl (by decide) (Or.inr rfl) ?_
          refine xg_goto 4 dX12_debtNow_32 rfl ?_
          exact xg_weak _ (xle_s rfl (xle_s rfl (xle_s rfl xle_0))) (ih (l + 1) _ (by omega) (by rw [hn]; first | rw [xor2_nat (by omega) (by omega), sDebtS, if_pos hb15] | rw [show (0 : Int) = ((0 : Nat) : Int) from rfl, xor2_nat (by omega) (by omega), sDebtS, if_neg (Bool.eq_false_iff.mp hb15)]) (by omega))
  exact xg_weak _ (xle_s rfl (xle_s rfl (xle_s rfl xle_0))) (loop4 20 0 0 (by omega) rfl (by omega))

theorem dX12_mostRewritten_0 : decode cX12_mostRewritten 0 = .ok (.iconst 0, 1) := by decide +kernel
theorem dX12_mostRewritten_1 : decode cX12_mostRewritten 1 = .ok (.istore_n 2, 1) := by decide +kernel
theorem dX12_mostRewritten_2 : decode cX12_mostRewritten 2 = .ok (.iconst 0, 1) := by decide +kernel
theorem dX12_mostRewritten_3 : decode cX12_mostRewritten 3 = .ok (.istore_n 3, 1) := by decide +kernel
theorem dX12_mostRewritten_4 : decode cX12_mostRewritten 4 = .ok (.iload_n 3, 1) := by decide +kernel
theorem dX12_mostRewritten_5 : decode cX12_mostRewritten 5 = .ok (.bipush 60, 2) := by decide +kernel
theorem dX12_mostRewritten_7 : decode cX12_mostRewritten 7 = .ok (.if_icmp .ge 47, 3) := by decide +kernel
theorem dX12_mostRewritten_10 : decode cX12_mostRewritten 10 = .ok (.aload_n 0, 1) := by decide +kernel
theorem dX12_mostRewritten_11 : decode cX12_mostRewritten 11 = .ok (.getfield 13, 3) := by decide +kernel
theorem dX12_mostRewritten_14 : decode cX12_mostRewritten 14 = .ok (.iload_n 1, 1) := by decide +kernel
theorem dX12_mostRewritten_15 : decode cX12_mostRewritten 15 = .ok (.invokestatic 133, 3) := by decide +kernel
theorem dX12_mostRewritten_18 : decode cX12_mostRewritten 18 = .ok (.iload_n 3, 1) := by decide +kernel
theorem dX12_mostRewritten_19 : decode cX12_mostRewritten 19 = .ok (.iadd, 1) := by decide +kernel
theorem dX12_mostRewritten_20 : decode cX12_mostRewritten 20 = .ok (.iaload, 1) := by decide +kernel
theorem dX12_mostRewritten_21 : decode cX12_mostRewritten 21 = .ok (.iconst (-1), 1) := by decide +kernel
theorem dX12_mostRewritten_22 : decode cX12_mostRewritten 22 = .ok (.if_icmp .ne 7, 3) := by decide +kernel
theorem dX12_mostRewritten_25 : decode cX12_mostRewritten 25 = .ok (.iload_n 2, 1) := by decide +kernel
theorem dX12_mostRewritten_26 : decode cX12_mostRewritten 26 = .ok (.goto 21, 3) := by decide +kernel
theorem dX12_mostRewritten_29 : decode cX12_mostRewritten 29 = .ok (.iload_n 2, 1) := by decide +kernel
theorem dX12_mostRewritten_30 : decode cX12_mostRewritten 30 = .ok (.aload_n 0, 1) := by decide +kernel
theorem dX12_mostRewritten_31 : decode cX12_mostRewritten 31 = .ok (.getfield 13, 3) := by decide +kernel
theorem dX12_mostRewritten_34 : decode cX12_mostRewritten 34 = .ok (.iload_n 1, 1) := by decide +kernel
theorem dX12_mostRewritten_35 : decode cX12_mostRewritten 35 = .ok (.invokestatic 133, 3) := by decide +kernel
theorem dX12_mostRewritten_38 : decode cX12_mostRewritten 38 = .ok (.bipush 60, 2) := by decide +kernel
theorem dX12_mostRewritten_40 : decode cX12_mostRewritten 40 = .ok (.iadd, 1) := by decide +kernel
theorem dX12_mostRewritten_41 : decode cX12_mostRewritten 41 = .ok (.iload_n 3, 1) := by decide +kernel
theorem dX12_mostRewritten_42 : decode cX12_mostRewritten 42 = .ok (.iadd, 1) := by decide +kernel
theorem dX12_mostRewritten_43 : decode cX12_mostRewritten 43 = .ok (.iaload, 1) := by decide +kernel
theorem dX12_mostRewritten_44 : decode cX12_mostRewritten 44 = .ok (.invokestatic 343, 3) := by decide +kernel
theorem dX12_mostRewritten_47 : decode cX12_mostRewritten 47 = .ok (.istore_n 2, 1) := by decide +kernel
theorem dX12_mostRewritten_48 : decode cX12_mostRewritten 48 = .ok (.iinc 3 1, 3) := by decide +kernel
theorem dX12_mostRewritten_51 : decode cX12_mostRewritten 51 = .ok (.goto (-47), 3) := by decide +kernel
theorem dX12_mostRewritten_54 : decode cX12_mostRewritten 54 = .ok (.iload_n 2, 1) := by decide +kernel
theorem dX12_mostRewritten_55 : decode cX12_mostRewritten 55 = .ok (.ireturn, 1) := by decide +kernel
set_option maxHeartbeats 4000000 in
set_option maxRecDepth 100000 in
theorem ct_X12_mostRewritten {E : xE} {z : Nat} {T : Nat → Nat × Int} {F : Nat → Nat → Int} {I : Nat → Int → Int} {P : Nat → Nat → Option Nat} {Y : Nat → Int → Option Nat} {m : Nat} {w : Int → Int} (hw : wM T P m) (hO : wOk w){r : Nat} (hr0 : (r : Int) < w 0) : Ct E 2 mX12_mostRewritten 0 0 [.ref m, J (r : Int)] (z, T, F, upA I (m + 1) w, P, Y) (xd (some (J (sMostR w r))) (z, T, F, upA I (m + 1) w, P, Y)) := by
  obtain ⟨⟨q0, q1, q2, q3⟩, -⟩ := id hw
  obtain ⟨hR, o0, o1, o2, o3, o4, o5, o6, oc, o13, o14, o16, o17, o18, ov⟩ := id hO
  have hN := wN_i o0.1
  have hmb := pMost_bd (f := fun k => w (201 + 122 * (r : Int) + k)) (g := fun k => w (261 + 122 * (r : Int) + k)) (fun k hk => by have := ov (261 + 122 * (r : Int) + k) (by omega) (by omega); omega)
  refine Ct.of [some (.ref m), some (J (r : Int)), none, none] kt_X12_mostRewritten rfl (Nat.le_of_ble_eq_true rfl) rfl (fun d hd => ?_)
  generalize hX : xN E _ _ _ = X
  refine xg_iconst 1 dX12_mostRewritten_0 rfl ?_
  refine xg_istoren 2 _ dX12_mostRewritten_1 rfl rfl rfl (by decide) (Or.inr rfl) ?_
  refine xg_iconst 3 dX12_mostRewritten_2 rfl ?_
  refine xg_istoren 4 _ dX12_mostRewritten_3 rfl rfl rfl (by decide) (Or.inr rfl) ?_
  have loop4 : ∀ (mm : Nat) (k : Nat) (n : Int), k ≤ 60 → n = pMost (fun k => w (201 + 122 * (r : Int) + k)) (fun k => w (261 + 122 * (r : Int) + k)) k → 60 - (k : Int) < (mm : Int) → xG E mX12_mostRewritten (xR d 0 0) X 4 [some (.ref m), some (J (r : Int)), some (J n), some (J (k : Int))] [] (z, T, F, upA I (m + 1) w, P, Y) 0 0 := by
    intro mm
    induction mm with
    | zero => intro k n hk hn hm; exfalso; omega
    | succ mm ih =>
      intro k n hk hn hm
      have hmk := hmb k hk
      refine xg_iloadn 5 dX12_mostRewritten_4 rfl rfl rfl ?_
      refine xg_bipush 7 dX12_mostRewritten_5 rfl (by decide) ?_
      refine xg_icge 54 10 dX12_mostRewritten_7 rfl rfl (by first | omega | exact hR _ | exact ⟨hR _, by omega⟩ | exact ⟨by omega, hR _⟩ | exact ⟨hR _, hR _⟩) (fun hb7 => ?_) (fun hb7 => ?_)
      · skip
        refine xg_iloadn 55 dX12_mostRewritten_54 rfl rfl rfl ?_
        subst hX
        exact xg_ireturn dX12_mostRewritten_55 rfl ⟨Nat.le_refl _, Nat.le_refl _⟩ ⟨by rw [hn, show k = 60 by omega]; rfl, rfl⟩
      · skip
        refine xg_aloadn 11 dX12_mostRewritten_10 rfl rfl rfl ?_
        refine xg_getP 14 kf_RX12_13 dX12_mostRewritten_11 rfl (by assumption) (by assumption) ?_
        refine xg_iloadn 15 dX12_mostRewritten_14 rfl rfl rfl ?_
        refine xg_callS 18 [_] _ ks_X12_rowOf kl_RX12_133 dX12_mostRewritten_15 rfl rfl rfl (Nat.le_of_ble_eq_true rfl) (by omega) ⟨Nat.le_refl _, Nat.le_refl _⟩ (ct_X12_rowOf) rfl ?_
        refine xg_iloadn 19 dX12_mostRewritten_18 rfl rfl rfl ?_
        refine xg_iadd 20 dX12_mostRewritten_19 rfl ?_
        refine xg_ialdW 21 dX12_mostRewritten_20 rfl (by assumption) (by first | omega | exact hR _ | exact ⟨hR _, by omega⟩ | exact ⟨by omega, hR _⟩ | exact ⟨hR _, hR _⟩) ?_
        refine xg_iconst 22 dX12_mostRewritten_21 rfl ?_
        refine xg_icne 29 25 dX12_mostRewritten_22 rfl rfl (by first | omega | exact hR _ | exact ⟨hR _, by omega⟩ | exact ⟨by omega, hR _⟩ | exact ⟨hR _, hR _⟩) (fun hb22 => ?_) (fun hb22 => ?_)
        · skip
          refine xg_iloadn 30 dX12_mostRewritten_29 rfl rfl rfl ?_
          refine xg_aloadn 31 dX12_mostRewritten_30 rfl rfl rfl ?_
          refine xg_getP 34 kf_RX12_13 dX12_mostRewritten_31 rfl (by assumption) (by assumption) ?_
          refine xg_iloadn 35 dX12_mostRewritten_34 rfl rfl rfl ?_
          refine xg_callS 38 [_] _ ks_X12_rowOf kl_RX12_133 dX12_mostRewritten_35 rfl rfl rfl (Nat.le_of_ble_eq_true rfl) (by omega) ⟨Nat.le_refl _, Nat.le_refl _⟩ (ct_X12_rowOf) rfl ?_
          refine xg_bipush 40 dX12_mostRewritten_38 rfl (by decide) ?_
          refine xg_iadd 41 dX12_mostRewritten_40 rfl ?_
          refine xg_iloadn 42 dX12_mostRewritten_41 rfl rfl rfl ?_
          refine xg_iadd 43 dX12_mostRewritten_42 rfl ?_
          refine xg_ialdW 44 dX12_mostRewritten_43 rfl (by assumption) (by first | omega | exact hR _ | exact ⟨hR _, by omega⟩ | exact ⟨by omega, hR _⟩ | exact ⟨hR _, hR _⟩) ?_
          rw [show 201 + 122 * (r : Int) + 60 + (k : Int) = 261 + 122 * (r : Int) + k by omega]
          have hov := ov (261 + 122 * (r : Int) + k) (by omega) (by omega)
          refine xg_mmax 47 kl_RX12_343 dX12_mostRewritten_44 rfl (by first | omega | exact hR _ | exact ⟨hR _, by omega⟩ | exact ⟨by omega, hR _⟩ | exact ⟨hR _, hR _⟩) (Nat.le_of_ble_eq_true rfl) (by omega) ⟨Nat.le_refl _, Nat.le_refl _⟩ ?_
          refine xg_istoren 48 _ dX12_mostRewritten_47 rfl rfl rfl (by decide) (Or.inr rfl) ?_
          refine xg_iinc 51 _ dX12_mostRewritten_48 rfl rfl rfl rfl (by decide) (Or.inr rfl) ?_
          refine xg_goto 4 dX12_mostRewritten_51 rfl ?_
          exact xg_weak _ (xle_s rfl (xle_s rfl (xle_s rfl (xle_s rfl xle_0)))) (ih (k + 1) _ (by omega) (by rw [hn, pMost]; first | rw [if_pos hb22] | rw [if_neg hb22]) (by omega))
        · skip
          refine xg_iloadn 26 dX12_mostRewritten_25 rfl rfl rfl ?_
          refine xg_goto 47 dX12_mostRewritten_26 rfl ?_
          refine xg_istoren 48 _ dX12_mostRewritten_47 rfl rfl rfl (by decide) (Or.inr rfl) ?_
          refine xg_iinc 51 _ dX12_mostRewritten_48 rfl rfl rfl rfl (by decide) (Or.inr rfl) ?_
          refine xg_goto 4 dX12_mostRewritten_51 rfl ?_
          exact xg_weak _ (xle_s rfl (xle_s rfl (xle_s rfl (xle_s rfl xle_0)))) (ih (k + 1) _ (by omega) (by rw [hn, pMost]; first | rw [if_pos hb22] | rw [if_neg hb22]) (by omega))
  exact xg_weak _ (xle_s rfl (xle_s rfl (xle_s rfl (xle_s rfl xle_0)))) (loop4 70 0 0 (by omega) rfl (by omega))

theorem dX12_allEntries_0 : decode cX12_allEntries 0 = .ok (.aload_n 0, 1) := by decide +kernel
theorem dX12_allEntries_1 : decode cX12_allEntries 1 = .ok (.iconst 1, 1) := by decide +kernel
theorem dX12_allEntries_2 : decode cX12_allEntries 2 = .ok (.aload_n 0, 1) := by decide +kernel
theorem dX12_allEntries_3 : decode cX12_allEntries 3 = .ok (.invokevirtual 66, 3) := by decide +kernel
theorem dX12_allEntries_6 : decode cX12_allEntries 6 = .ok (.ishl, 1) := by decide +kernel
theorem dX12_allEntries_7 : decode cX12_allEntries 7 = .ok (.iconst 1, 1) := by decide +kernel
theorem dX12_allEntries_8 : decode cX12_allEntries 8 = .ok (.isub, 1) := by decide +kernel
theorem dX12_allEntries_9 : decode cX12_allEntries 9 = .ok (.invokevirtual 262, 3) := by decide +kernel
theorem dX12_allEntries_12 : decode cX12_allEntries 12 = .ok (.ireturn, 1) := by decide +kernel
set_option maxHeartbeats 4000000 in
set_option maxRecDepth 100000 in
theorem ct_X12_allEntries {E : xE} {z : Nat} {T : Nat → Nat × Int} {F : Nat → Nat → Int} {I : Nat → Int → Int} {P : Nat → Nat → Option Nat} {Y : Nat → Int → Option Nat} {m : Nat} {w : Int → Int} (hw : wM T P m) (hO : wOk w) : Ct E 3 mX12_allEntries 0 0 [.ref m] (z, T, F, upA I (m + 1) w, P, Y) (xd (some (J (sAllE w))) (z, T, F, upA I (m + 1) w, P, Y)) := by
  obtain ⟨⟨q0, q1, q2, q3⟩, -⟩ := id hw
  obtain ⟨hR, o0, o1, o2, o3, o4, o5, o6, oc, o13, o14, o16, o17, o18, ov⟩ := id hO
  have hN := wN_i o0.1
  have hp : 0 < 2 ^ wN w := Nat.two_pow_pos _
  have hp2 : 2 ^ wN w ≤ 2 ^ 12 := Nat.pow_le_pow_right (by omega) (by omega)
  refine Ct.of [some (.ref m)] kt_X12_allEntries rfl (Nat.le_of_ble_eq_true rfl) rfl (fun d hd => ?_)
  generalize hX : xN E _ _ _ = X
  refine xg_aloadn 1 dX12_allEntries_0 rfl rfl rfl ?_
  refine xg_iconst 2 dX12_allEntries_1 rfl ?_
  refine xg_aloadn 3 dX12_allEntries_2 rfl rfl rfl ?_
  refine xg_callV 6 12 [] _ kv_X12_runs ⟨_, _, rfl⟩ kl_RX12_66 dX12_allEntries_3 rfl (by assumption) (by omega) rfl rfl (Nat.le_of_ble_eq_true rfl) (by omega) ⟨Nat.le_refl _, Nat.le_refl _⟩ (ct_X12_runs hw) rfl ?_
  refine xg_ishl 7 dX12_allEntries_6 rfl ?_
  refine xg_iconst 8 dX12_allEntries_7 rfl ?_
  refine xg_isub 9 dX12_allEntries_8 rfl ?_
  rw [← hN, xshl1' (by omega), show ((2 ^ wN w : Nat) : Int) - 1 = ((2 ^ wN w - 1 : Nat) : Int) by omega]
  refine xg_callV 12 12 [_] _ kv_X12_entriesIn ⟨_, _, rfl⟩ kl_RX12_262 dX12_allEntries_9 rfl (by assumption) (by omega) rfl rfl (Nat.le_of_ble_eq_true rfl) (by omega) ⟨Nat.le_refl _, Nat.le_refl _⟩ (ct_X12_entriesIn hw hO (by omega)) rfl ?_
  subst hX
  exact xg_ireturn dX12_allEntries_12 rfl ⟨Nat.le_refl _, Nat.le_refl _⟩ ⟨rfl, rfl⟩

theorem dX12_isCrowded_0 : decode cX12_isCrowded 0 = .ok (.aload_n 0, 1) := by decide +kernel
theorem dX12_isCrowded_1 : decode cX12_isCrowded 1 = .ok (.iconst 0, 1) := by decide +kernel
theorem dX12_isCrowded_2 : decode cX12_isCrowded 2 = .ok (.invokevirtual 254, 3) := by decide +kernel
theorem dX12_isCrowded_5 : decode cX12_isCrowded 5 = .ok (.invokestatic 257, 3) := by decide +kernel
theorem dX12_isCrowded_8 : decode cX12_isCrowded 8 = .ok (.aload_n 0, 1) := by decide +kernel
theorem dX12_isCrowded_9 : decode cX12_isCrowded 9 = .ok (.getfield 13, 3) := by decide +kernel
theorem dX12_isCrowded_12 : decode cX12_isCrowded 12 = .ok (.iconst 4, 1) := by decide +kernel
theorem dX12_isCrowded_13 : decode cX12_isCrowded 13 = .ok (.iaload, 1) := by decide +kernel
theorem dX12_isCrowded_14 : decode cX12_isCrowded 14 = .ok (.iconst 2, 1) := by decide +kernel
theorem dX12_isCrowded_15 : decode cX12_isCrowded 15 = .ok (.iadd, 1) := by decide +kernel
theorem dX12_isCrowded_16 : decode cX12_isCrowded 16 = .ok (.if_icmp .ge 12, 3) := by decide +kernel
theorem dX12_isCrowded_19 : decode cX12_isCrowded 19 = .ok (.aload_n 0, 1) := by decide +kernel
theorem dX12_isCrowded_20 : decode cX12_isCrowded 20 = .ok (.invokevirtual 66, 3) := by decide +kernel
theorem dX12_isCrowded_23 : decode cX12_isCrowded 23 = .ok (.bipush 12, 2) := by decide +kernel
theorem dX12_isCrowded_25 : decode cX12_isCrowded 25 = .ok (.if_icmp .ne 7, 3) := by decide +kernel
theorem dX12_isCrowded_28 : decode cX12_isCrowded 28 = .ok (.iconst 1, 1) := by decide +kernel
theorem dX12_isCrowded_29 : decode cX12_isCrowded 29 = .ok (.goto 4, 3) := by decide +kernel
theorem dX12_isCrowded_32 : decode cX12_isCrowded 32 = .ok (.iconst 0, 1) := by decide +kernel
theorem dX12_isCrowded_33 : decode cX12_isCrowded 33 = .ok (.ireturn, 1) := by decide +kernel
set_option maxHeartbeats 4000000 in
set_option maxRecDepth 100000 in
theorem ct_X12_isCrowded {E : xE} {z : Nat} {T : Nat → Nat × Int} {F : Nat → Nat → Int} {I : Nat → Int → Int} {P : Nat → Nat → Option Nat} {Y : Nat → Int → Option Nat} {m : Nat} {w : Int → Int} (hw : wM T P m) (hO : wOk w) : Ct E 3 mX12_isCrowded 0 0 [.ref m] (z, T, F, upA I (m + 1) w, P, Y) (xd (some (J (bI (sCrowd w)))) (z, T, F, upA I (m + 1) w, P, Y)) := by
  obtain ⟨⟨q0, q1, q2, q3⟩, -⟩ := id hw
  obtain ⟨hR, o0, o1, o2, o3, o4, o5, o6, oc, o13, o14, o16, o17, o18, ov⟩ := id hO
  have hN := wN_i o0.1
  have hmb := sMany_bd w 0
  refine Ct.of [some (.ref m)] kt_X12_isCrowded rfl (Nat.le_of_ble_eq_true rfl) rfl (fun d hd => ?_)
  generalize hX : xN E _ _ _ = X
  refine xg_aloadn 1 dX12_isCrowded_0 rfl rfl rfl ?_
  refine xg_iconst 2 dX12_isCrowded_1 rfl ?_
  refine xg_callV 5 12 [_] _ kv_X12_runsOf ⟨_, _, rfl⟩ kl_RX12_254 dX12_isCrowded_2 rfl (by assumption) (by omega) rfl rfl (Nat.le_of_ble_eq_true rfl) (by omega) ⟨Nat.le_refl _, Nat.le_refl _⟩ (ct_X12_runsOf hw hO (by omega)) rfl ?_
  refine xg_callS 8 [_] _ ks_J6_bitCount_0f7a4 kl_RX12_257 dX12_isCrowded_5 rfl rfl rfl (Nat.le_of_ble_eq_true rfl) (by omega) ⟨Nat.le_refl _, Nat.le_refl _⟩ (ct_J6_bitCount_0f7a4) rfl ?_
  rw [xbc_runs 0 o0.2]
  refine xg_aloadn 9 dX12_isCrowded_8 rfl rfl rfl ?_
  refine xg_getP 12 kf_RX12_13 dX12_isCrowded_9 rfl (by assumption) (by assumption) ?_
  refine xg_iconst 13 dX12_isCrowded_12 rfl ?_
  refine xg_ialdW 14 dX12_isCrowded_13 rfl (by assumption) (by first | omega | exact hR _ | exact ⟨hR _, by omega⟩ | exact ⟨by omega, hR _⟩ | exact ⟨hR _, hR _⟩) ?_
  refine xg_iconst 15 dX12_isCrowded_14 rfl ?_
  refine xg_iadd 16 dX12_isCrowded_15 rfl ?_
  refine xg_icge 28 19 dX12_isCrowded_16 rfl rfl (by first | omega | exact hR _ | exact ⟨hR _, by omega⟩ | exact ⟨by omega, hR _⟩ | exact ⟨hR _, hR _⟩) (fun hb16 => ?_) (fun hb16 => ?_)
  · skip
    refine xg_iconst 29 dX12_isCrowded_28 rfl ?_
    refine xg_goto 33 dX12_isCrowded_29 rfl ?_
    subst hX
    exact xg_zreturn dX12_isCrowded_33 rfl (by first | exact bI_01 _ | omega) ⟨Nat.le_refl _, Nat.le_refl _⟩ ⟨congrArg (fun v => some (J v)) (by unfold sCrowd; first | exact (bI_t (by omega)).symm | exact (bI_f (by omega)).symm), rfl⟩
  · skip
    refine xg_aloadn 20 dX12_isCrowded_19 rfl rfl rfl ?_
    refine xg_callV 23 12 [] _ kv_X12_runs ⟨_, _, rfl⟩ kl_RX12_66 dX12_isCrowded_20 rfl (by assumption) (by omega) rfl rfl (Nat.le_of_ble_eq_true rfl) (by omega) ⟨Nat.le_refl _, Nat.le_refl _⟩ (ct_X12_runs hw) rfl ?_
    refine xg_bipush 25 dX12_isCrowded_23 rfl (by decide) ?_
    refine xg_icne 32 28 dX12_isCrowded_25 rfl rfl (by first | omega | exact hR _ | exact ⟨hR _, by omega⟩ | exact ⟨by omega, hR _⟩ | exact ⟨hR _, hR _⟩) (fun hb25 => ?_) (fun hb25 => ?_)
    · skip
      refine xg_iconst 33 dX12_isCrowded_32 rfl ?_
      subst hX
      exact xg_zreturn dX12_isCrowded_33 rfl (by first | exact bI_01 _ | omega) ⟨Nat.le_refl _, Nat.le_refl _⟩ ⟨congrArg (fun v => some (J v)) (by unfold sCrowd; first | exact (bI_t (by omega)).symm | exact (bI_f (by omega)).symm), rfl⟩
    · skip
      refine xg_iconst 29 dX12_isCrowded_28 rfl ?_
      refine xg_goto 33 dX12_isCrowded_29 rfl ?_
      subst hX
      exact xg_zreturn dX12_isCrowded_33 rfl (by first | exact bI_01 _ | omega) ⟨Nat.le_refl _, Nat.le_refl _⟩ ⟨congrArg (fun v => some (J v)) (by unfold sCrowd; first | exact (bI_t (by omega)).symm | exact (bI_f (by omega)).symm), rfl⟩

theorem dX12_newestOf_0 : decode cX12_newestOf 0 = .ok (.aload_n 0, 1) := by decide +kernel
theorem dX12_newestOf_1 : decode cX12_newestOf 1 = .ok (.getfield 13, 3) := by decide +kernel
theorem dX12_newestOf_4 : decode cX12_newestOf 4 = .ok (.bipush 19, 2) := by decide +kernel
theorem dX12_newestOf_6 : decode cX12_newestOf 6 = .ok (.iload_n 1, 1) := by decide +kernel
theorem dX12_newestOf_7 : decode cX12_newestOf 7 = .ok (.iadd, 1) := by decide +kernel
theorem dX12_newestOf_8 : decode cX12_newestOf 8 = .ok (.iaload, 1) := by decide +kernel
theorem dX12_newestOf_9 : decode cX12_newestOf 9 = .ok (.iconst (-1), 1) := by decide +kernel
theorem dX12_newestOf_10 : decode cX12_newestOf 10 = .ok (.if_icmp .eq 5, 3) := by decide +kernel
theorem dX12_newestOf_13 : decode cX12_newestOf 13 = .ok (.iconst 0, 1) := by decide +kernel
theorem dX12_newestOf_14 : decode cX12_newestOf 14 = .ok (.ireturn, 1) := by decide +kernel
theorem dX12_newestOf_15 : decode cX12_newestOf 15 = .ok (.iconst 0, 1) := by decide +kernel
theorem dX12_newestOf_16 : decode cX12_newestOf 16 = .ok (.istore_n 2, 1) := by decide +kernel
theorem dX12_newestOf_17 : decode cX12_newestOf 17 = .ok (.iload_n 2, 1) := by decide +kernel
theorem dX12_newestOf_18 : decode cX12_newestOf 18 = .ok (.aload_n 0, 1) := by decide +kernel
theorem dX12_newestOf_19 : decode cX12_newestOf 19 = .ok (.invokevirtual 66, 3) := by decide +kernel
theorem dX12_newestOf_22 : decode cX12_newestOf 22 = .ok (.if_icmp .ge 24, 3) := by decide +kernel
theorem dX12_newestOf_25 : decode cX12_newestOf 25 = .ok (.aload_n 0, 1) := by decide +kernel
theorem dX12_newestOf_26 : decode cX12_newestOf 26 = .ok (.getfield 13, 3) := by decide +kernel
theorem dX12_newestOf_29 : decode cX12_newestOf 29 = .ok (.iload_n 2, 1) := by decide +kernel
theorem dX12_newestOf_30 : decode cX12_newestOf 30 = .ok (.invokestatic 133, 3) := by decide +kernel
theorem dX12_newestOf_33 : decode cX12_newestOf 33 = .ok (.iload_n 1, 1) := by decide +kernel
theorem dX12_newestOf_34 : decode cX12_newestOf 34 = .ok (.iadd, 1) := by decide +kernel
theorem dX12_newestOf_35 : decode cX12_newestOf 35 = .ok (.iaload, 1) := by decide +kernel
theorem dX12_newestOf_36 : decode cX12_newestOf 36 = .ok (.iconst (-1), 1) := by decide +kernel
theorem dX12_newestOf_37 : decode cX12_newestOf 37 = .ok (.if_icmp .ne 9, 3) := by decide +kernel
theorem dX12_newestOf_40 : decode cX12_newestOf 40 = .ok (.iinc 2 1, 3) := by decide +kernel
theorem dX12_newestOf_43 : decode cX12_newestOf 43 = .ok (.goto (-26), 3) := by decide +kernel
theorem dX12_newestOf_46 : decode cX12_newestOf 46 = .ok (.iload_n 2, 1) := by decide +kernel
theorem dX12_newestOf_47 : decode cX12_newestOf 47 = .ok (.aload_n 0, 1) := by decide +kernel
theorem dX12_newestOf_48 : decode cX12_newestOf 48 = .ok (.invokevirtual 66, 3) := by decide +kernel
theorem dX12_newestOf_51 : decode cX12_newestOf 51 = .ok (.if_icmp .ne 7, 3) := by decide +kernel
theorem dX12_newestOf_54 : decode cX12_newestOf 54 = .ok (.iconst (-1), 1) := by decide +kernel
theorem dX12_newestOf_55 : decode cX12_newestOf 55 = .ok (.goto 6, 3) := by decide +kernel
theorem dX12_newestOf_58 : decode cX12_newestOf 58 = .ok (.iload_n 2, 1) := by decide +kernel
theorem dX12_newestOf_59 : decode cX12_newestOf 59 = .ok (.iconst 1, 1) := by decide +kernel
theorem dX12_newestOf_60 : decode cX12_newestOf 60 = .ok (.iadd, 1) := by decide +kernel
theorem dX12_newestOf_61 : decode cX12_newestOf 61 = .ok (.ireturn, 1) := by decide +kernel
set_option maxHeartbeats 4000000 in
set_option maxRecDepth 100000 in
theorem ct_X12_newestOf {E : xE} {z : Nat} {T : Nat → Nat × Int} {F : Nat → Nat → Int} {I : Nat → Int → Int} {P : Nat → Nat → Option Nat} {Y : Nat → Int → Option Nat} {m : Nat} {w : Int → Int} (hw : wM T P m) (hO : wOk w){key : Int} (hk : 0 ≤ key ∧ key < 60) : Ct E 2 mX12_newestOf 0 0 [.ref m, J key] (z, T, F, upA I (m + 1) w, P, Y) (xd (some (J (sNewO w key))) (z, T, F, upA I (m + 1) w, P, Y)) := by
  obtain ⟨⟨q0, q1, q2, q3⟩, -⟩ := id hw
  obtain ⟨hR, o0, o1, o2, o3, o4, o5, o6, oc, o13, o14, o16, o17, o18, ov⟩ := id hO
  have hN := wN_i o0.1
  refine Ct.of [some (.ref m), some (J key), none] kt_X12_newestOf rfl (Nat.le_of_ble_eq_true rfl) rfl (fun d hd => ?_)
  generalize hX : xN E _ _ _ = X
  refine xg_aloadn 1 dX12_newestOf_0 rfl rfl rfl ?_
  refine xg_getP 4 kf_RX12_13 dX12_newestOf_1 rfl (by assumption) (by assumption) ?_
  refine xg_bipush 6 dX12_newestOf_4 rfl (by decide) ?_
  refine xg_iloadn 7 dX12_newestOf_6 rfl rfl rfl ?_
  refine xg_iadd 8 dX12_newestOf_7 rfl ?_
  refine xg_ialdW 9 dX12_newestOf_8 rfl (by assumption) (by first | omega | exact hR _ | exact ⟨hR _, by omega⟩ | exact ⟨by omega, hR _⟩ | exact ⟨hR _, hR _⟩) ?_
  refine xg_iconst 10 dX12_newestOf_9 rfl ?_
  refine xg_iceq 15 13 dX12_newestOf_10 rfl rfl (by first | omega | exact hR _ | exact ⟨hR _, by omega⟩ | exact ⟨by omega, hR _⟩ | exact ⟨hR _, hR _⟩) (fun hb10 => ?_) (fun hb10 => ?_)
  · skip
    refine xg_iconst 16 dX12_newestOf_15 rfl ?_
    refine xg_istoren 17 _ dX12_newestOf_16 rfl rfl rfl (by decide) (Or.inr rfl) ?_
    have loop17 : ∀ (mm : Nat) (r : Nat), (r : Int) ≤ w 0 → sFind (fun r => wHas w key r) (wN w - r) r = sNewR w key → w 0 - (r : Int) < (mm : Int) → xG E mX12_newestOf (xR d 0 0) X 17 [some (.ref m), some (J key), some (J (r : Int))] [] (z, T, F, upA I (m + 1) w, P, Y) 0 0 := by
      intro mm
      induction mm with
      | zero => intro r hr he hm; exfalso; omega
      | succ mm ih =>
        intro r hr he hm
        refine xg_iloadn 18 dX12_newestOf_17 rfl rfl rfl ?_
        refine xg_aloadn 19 dX12_newestOf_18 rfl rfl rfl ?_
        refine xg_callV 22 12 [] _ kv_X12_runs ⟨_, _, rfl⟩ kl_RX12_66 dX12_newestOf_19 rfl (by assumption) (by omega) rfl rfl (Nat.le_of_ble_eq_true rfl) (by omega) ⟨Nat.le_refl _, Nat.le_refl _⟩ (ct_X12_runs hw) rfl ?_
        refine xg_icge 46 25 dX12_newestOf_22 rfl rfl (by first | omega | exact hR _ | exact ⟨hR _, by omega⟩ | exact ⟨by omega, hR _⟩ | exact ⟨hR _, hR _⟩) (fun hb22 => ?_) (fun hb22 => ?_)
        · skip
          have hf : sNewR w key = r := by
            first
            | (rw [← he]; exact sFind_hit (by simp [wHas, hb37]) (by omega))
            | (rw [← he, show r = wN w by omega]; exact sFind_end)
          refine xg_iloadn 47 dX12_newestOf_46 rfl rfl rfl ?_
          refine xg_aloadn 48 dX12_newestOf_47 rfl rfl rfl ?_
          refine xg_callV 51 12 [] _ kv_X12_runs ⟨_, _, rfl⟩ kl_RX12_66 dX12_newestOf_48 rfl (by assumption) (by omega) rfl rfl (Nat.le_of_ble_eq_true rfl) (by omega) ⟨Nat.le_refl _, Nat.le_refl _⟩ (ct_X12_runs hw) rfl ?_
          refine xg_icne 58 54 dX12_newestOf_51 rfl rfl (by first | omega | exact hR _ | exact ⟨hR _, by omega⟩ | exact ⟨by omega, hR _⟩ | exact ⟨hR _, hR _⟩) (fun hb51 => ?_) (fun hb51 => ?_)
          · skip
            refine xg_iloadn 59 dX12_newestOf_58 rfl rfl rfl ?_
            refine xg_iconst 60 dX12_newestOf_59 rfl ?_
            refine xg_iadd 61 dX12_newestOf_60 rfl ?_
            subst hX
            exact xg_ireturn dX12_newestOf_61 rfl ⟨Nat.le_refl _, Nat.le_refl _⟩ ⟨congrArg (fun v => some (J v)) (by unfold sNewO; rw [if_neg (by rw [hb10]; decide), hf]; first | (exfalso; omega) | (rw [if_pos (by omega)]) | (rw [if_neg (by omega)])), rfl⟩
          · skip
            refine xg_iconst 55 dX12_newestOf_54 rfl ?_
            refine xg_goto 61 dX12_newestOf_55 rfl ?_
            subst hX
            exact xg_ireturn dX12_newestOf_61 rfl ⟨Nat.le_refl _, Nat.le_refl _⟩ ⟨congrArg (fun v => some (J v)) (by unfold sNewO; rw [if_neg (by rw [hb10]; decide), hf]; first | (exfalso; omega) | (rw [if_pos (by omega)]) | (rw [if_neg (by omega)])), rfl⟩
        · skip
          refine xg_aloadn 26 dX12_newestOf_25 rfl rfl rfl ?_
          refine xg_getP 29 kf_RX12_13 dX12_newestOf_26 rfl (by assumption) (by assumption) ?_
          refine xg_iloadn 30 dX12_newestOf_29 rfl rfl rfl ?_
          refine xg_callS 33 [_] _ ks_X12_rowOf kl_RX12_133 dX12_newestOf_30 rfl rfl rfl (Nat.le_of_ble_eq_true rfl) (by omega) ⟨Nat.le_refl _, Nat.le_refl _⟩ (ct_X12_rowOf) rfl ?_
          refine xg_iloadn 34 dX12_newestOf_33 rfl rfl rfl ?_
          refine xg_iadd 35 dX12_newestOf_34 rfl ?_
          refine xg_ialdW 36 dX12_newestOf_35 rfl (by assumption) (by first | omega | exact hR _ | exact ⟨hR _, by omega⟩ | exact ⟨by omega, hR _⟩ | exact ⟨hR _, hR _⟩) ?_
          refine xg_iconst 37 dX12_newestOf_36 rfl ?_
          refine xg_icne 46 40 dX12_newestOf_37 rfl rfl (by first | omega | exact hR _ | exact ⟨hR _, by omega⟩ | exact ⟨by omega, hR _⟩ | exact ⟨hR _, hR _⟩) (fun hb37 => ?_) (fun hb37 => ?_)
          · skip
            have hf : sNewR w key = r := by
              first
              | (rw [← he]; exact sFind_hit (by simp [wHas, hb37]) (by omega))
              | (rw [← he, show r = wN w by omega]; exact sFind_end)
            refine xg_iloadn 47 dX12_newestOf_46 rfl rfl rfl ?_
            refine xg_aloadn 48 dX12_newestOf_47 rfl rfl rfl ?_
            refine xg_callV 51 12 [] _ kv_X12_runs ⟨_, _, rfl⟩ kl_RX12_66 dX12_newestOf_48 rfl (by assumption) (by omega) rfl rfl (Nat.le_of_ble_eq_true rfl) (by omega) ⟨Nat.le_refl _, Nat.le_refl _⟩ (ct_X12_runs hw) rfl ?_
            refine xg_icne 58 54 dX12_newestOf_51 rfl rfl (by first | omega | exact hR _ | exact ⟨hR _, by omega⟩ | exact ⟨by omega, hR _⟩ | exact ⟨hR _, hR _⟩) (fun hb51 => ?_) (fun hb51 => ?_)
            · skip
              refine xg_iloadn 59 dX12_newestOf_58 rfl rfl rfl ?_
              refine xg_iconst 60 dX12_newestOf_59 rfl ?_
              refine xg_iadd 61 dX12_newestOf_60 rfl ?_
              subst hX
              exact xg_ireturn dX12_newestOf_61 rfl ⟨Nat.le_refl _, Nat.le_refl _⟩ ⟨congrArg (fun v => some (J v)) (by unfold sNewO; rw [if_neg (by rw [hb10]; decide), hf]; first | (exfalso; omega) | (rw [if_pos (by omega)]) | (rw [if_neg (by omega)])), rfl⟩
            · skip
              refine xg_iconst 55 dX12_newestOf_54 rfl ?_
              refine xg_goto 61 dX12_newestOf_55 rfl ?_
              subst hX
              exact xg_ireturn dX12_newestOf_61 rfl ⟨Nat.le_refl _, Nat.le_refl _⟩ ⟨congrArg (fun v => some (J v)) (by unfold sNewO; rw [if_neg (by rw [hb10]; decide), hf]; first | (exfalso; omega) | (rw [if_pos (by omega)]) | (rw [if_neg (by omega)])), rfl⟩
          · skip
            refine xg_iinc 43 _ dX12_newestOf_40 rfl rfl rfl rfl (by decide) (Or.inr rfl) ?_
            refine xg_goto 17 dX12_newestOf_43 rfl ?_
            exact xg_weak _ (xle_s rfl (xle_s rfl (xle_s rfl xle_0))) (ih (r + 1) (by omega) (by rw [← he]; exact (sFind_miss (by simp [wHas, hb37]) (by omega)).symm) (by omega))
    exact xg_weak _ (xle_s rfl (xle_s rfl (xle_s rfl xle_0))) (loop17 20 0 (by omega) (by rfl) (by omega))
  · skip
    refine xg_iconst 14 dX12_newestOf_13 rfl ?_
    subst hX
    exact xg_ireturn dX12_newestOf_14 rfl ⟨Nat.le_refl _, Nat.le_refl _⟩ ⟨congrArg (fun v => some (J v)) (by unfold sNewO; rw [if_pos hb10]), rfl⟩

theorem dX12_found_0 : decode cX12_found 0 = .ok (.aload_n 0, 1) := by decide +kernel
theorem dX12_found_1 : decode cX12_found 1 = .ok (.iload_n 1, 1) := by decide +kernel
theorem dX12_found_2 : decode cX12_found 2 = .ok (.invokevirtual 391, 3) := by decide +kernel
theorem dX12_found_5 : decode cX12_found 5 = .ok (.istore_n 2, 1) := by decide +kernel
theorem dX12_found_6 : decode cX12_found 6 = .ok (.iload_n 2, 1) := by decide +kernel
theorem dX12_found_7 : decode cX12_found 7 = .ok (.iconst (-1), 1) := by decide +kernel
theorem dX12_found_8 : decode cX12_found 8 = .ok (.if_icmp .ne 8, 3) := by decide +kernel
theorem dX12_found_11 : decode cX12_found 11 = .ok (.bipush 100, 2) := by decide +kernel
theorem dX12_found_13 : decode cX12_found 13 = .ok (.goto 25, 3) := by decide +kernel
theorem dX12_found_16 : decode cX12_found 16 = .ok (.aload_n 0, 1) := by decide +kernel
theorem dX12_found_17 : decode cX12_found 17 = .ok (.getfield 13, 3) := by decide +kernel
theorem dX12_found_20 : decode cX12_found 20 = .ok (.iload_n 2, 1) := by decide +kernel
theorem dX12_found_21 : decode cX12_found 21 = .ok (.ifCond .ne 8, 3) := by decide +kernel
theorem dX12_found_24 : decode cX12_found 24 = .ok (.bipush 19, 2) := by decide +kernel
theorem dX12_found_26 : decode cX12_found 26 = .ok (.goto 9, 3) := by decide +kernel
theorem dX12_found_29 : decode cX12_found 29 = .ok (.iload_n 2, 1) := by decide +kernel
theorem dX12_found_30 : decode cX12_found 30 = .ok (.iconst 1, 1) := by decide +kernel
theorem dX12_found_31 : decode cX12_found 31 = .ok (.isub, 1) := by decide +kernel
theorem dX12_found_32 : decode cX12_found 32 = .ok (.invokestatic 133, 3) := by decide +kernel
theorem dX12_found_35 : decode cX12_found 35 = .ok (.iload_n 1, 1) := by decide +kernel
theorem dX12_found_36 : decode cX12_found 36 = .ok (.iadd, 1) := by decide +kernel
theorem dX12_found_37 : decode cX12_found 37 = .ok (.iaload, 1) := by decide +kernel
theorem dX12_found_38 : decode cX12_found 38 = .ok (.istore_n 3, 1) := by decide +kernel
theorem dX12_found_39 : decode cX12_found 39 = .ok (.iload_n 3, 1) := by decide +kernel
theorem dX12_found_40 : decode cX12_found 40 = .ok (.bipush 100, 2) := by decide +kernel
theorem dX12_found_42 : decode cX12_found 42 = .ok (.if_icmp .ne 7, 3) := by decide +kernel
theorem dX12_found_45 : decode cX12_found 45 = .ok (.iconst (-1), 1) := by decide +kernel
theorem dX12_found_46 : decode cX12_found 46 = .ok (.goto 4, 3) := by decide +kernel
theorem dX12_found_49 : decode cX12_found 49 = .ok (.iload_n 3, 1) := by decide +kernel
theorem dX12_found_50 : decode cX12_found 50 = .ok (.ireturn, 1) := by decide +kernel
set_option maxHeartbeats 4000000 in
set_option maxRecDepth 100000 in
theorem ct_X12_found {E : xE} {z : Nat} {T : Nat → Nat × Int} {F : Nat → Nat → Int} {I : Nat → Int → Int} {P : Nat → Nat → Option Nat} {Y : Nat → Int → Option Nat} {m : Nat} {w : Int → Int} (hw : wM T P m) (hO : wOk w){key : Int} (hk : 0 ≤ key ∧ key < 60) : Ct E 3 mX12_found 0 0 [.ref m, J key] (z, T, F, upA I (m + 1) w, P, Y) (xd (some (J (sFnd w key))) (z, T, F, upA I (m + 1) w, P, Y)) := by
  obtain ⟨⟨q0, q1, q2, q3⟩, -⟩ := id hw
  obtain ⟨hR, o0, o1, o2, o3, o4, o5, o6, oc, o13, o14, o16, o17, o18, ov⟩ := id hO
  have hN := wN_i o0.1
  have hnb := sNewO_bd (w := w) key o0
  refine Ct.of [some (.ref m), some (J key), none, none] kt_X12_found rfl (Nat.le_of_ble_eq_true rfl) rfl (fun d hd => ?_)
  generalize hX : xN E _ _ _ = X
  refine xg_aloadn 1 dX12_found_0 rfl rfl rfl ?_
  refine xg_iloadn 2 dX12_found_1 rfl rfl rfl ?_
  refine xg_callV 5 12 [_] _ kv_X12_newestOf ⟨_, _, rfl⟩ kl_RX12_391 dX12_found_2 rfl (by assumption) (by omega) rfl rfl (Nat.le_of_ble_eq_true rfl) (by omega) ⟨Nat.le_refl _, Nat.le_refl _⟩ (ct_X12_newestOf hw hO (by omega)) rfl ?_
  refine xg_istoren 6 _ dX12_found_5 rfl rfl rfl (by decide) (Or.inr rfl) ?_
  refine xg_iloadn 7 dX12_found_6 rfl rfl rfl ?_
  refine xg_iconst 8 dX12_found_7 rfl ?_
  refine xg_icne 16 11 dX12_found_8 rfl rfl (by first | omega | exact hR _ | exact ⟨hR _, by omega⟩ | exact ⟨by omega, hR _⟩ | exact ⟨hR _, hR _⟩) (fun hb8 => ?_) (fun hb8 => ?_)
  · skip
    refine xg_aloadn 17 dX12_found_16 rfl rfl rfl ?_
    refine xg_getP 20 kf_RX12_13 dX12_found_17 rfl (by assumption) (by assumption) ?_
    refine xg_iloadn 21 dX12_found_20 rfl rfl rfl ?_
    refine xg_ifne 29 24 dX12_found_21 rfl rfl (by first | omega | exact hR _ | exact ⟨hR _, by omega⟩ | exact ⟨by omega, hR _⟩ | exact ⟨hR _, hR _⟩) (fun hb21 => ?_) (fun hb21 => ?_)
    · skip
      refine xg_iloadn 30 dX12_found_29 rfl rfl rfl ?_
      refine xg_iconst 31 dX12_found_30 rfl ?_
      refine xg_isub 32 dX12_found_31 rfl ?_
      refine xg_callS 35 [_] _ ks_X12_rowOf kl_RX12_133 dX12_found_32 rfl rfl rfl (Nat.le_of_ble_eq_true rfl) (by omega) ⟨Nat.le_refl _, Nat.le_refl _⟩ (ct_X12_rowOf) rfl ?_
      skip
      refine xg_iloadn 36 dX12_found_35 rfl rfl rfl ?_
      refine xg_iadd 37 dX12_found_36 rfl ?_
      refine xg_ialdW 38 dX12_found_37 rfl (by assumption) (by first | omega | exact hR _ | exact ⟨hR _, by omega⟩ | exact ⟨by omega, hR _⟩ | exact ⟨hR _, hR _⟩) ?_
      refine xg_istoren 39 _ dX12_found_38 rfl rfl rfl (by decide) (Or.inr rfl) ?_
      refine xg_iloadn 40 dX12_found_39 rfl rfl rfl ?_
      refine xg_bipush 42 dX12_found_40 rfl (by decide) ?_
      refine xg_icne 49 45 dX12_found_42 rfl rfl (by first | omega | exact hR _ | exact ⟨hR _, by omega⟩ | exact ⟨by omega, hR _⟩ | exact ⟨hR _, hR _⟩) (fun hb42 => ?_) (fun hb42 => ?_)
      · skip
        refine xg_iloadn 50 dX12_found_49 rfl rfl rfl ?_
        subst hX
        exact xg_ireturn dX12_found_50 rfl ⟨Nat.le_refl _, Nat.le_refl _⟩ ⟨congrArg (fun v => some (J v)) (by first | (exfalso; omega) | simp [sFnd, *]), rfl⟩
      · skip
        refine xg_iconst 46 dX12_found_45 rfl ?_
        refine xg_goto 50 dX12_found_46 rfl ?_
        subst hX
        exact xg_ireturn dX12_found_50 rfl ⟨Nat.le_refl _, Nat.le_refl _⟩ ⟨congrArg (fun v => some (J v)) (by first | (exfalso; omega) | simp [sFnd, *]), rfl⟩
    · skip
      refine xg_bipush 26 dX12_found_24 rfl (by decide) ?_
      refine xg_goto 35 dX12_found_26 rfl ?_
      skip
      refine xg_iloadn 36 dX12_found_35 rfl rfl rfl ?_
      refine xg_iadd 37 dX12_found_36 rfl ?_
      refine xg_ialdW 38 dX12_found_37 rfl (by assumption) (by first | omega | exact hR _ | exact ⟨hR _, by omega⟩ | exact ⟨by omega, hR _⟩ | exact ⟨hR _, hR _⟩) ?_
      refine xg_istoren 39 _ dX12_found_38 rfl rfl rfl (by decide) (Or.inr rfl) ?_
      refine xg_iloadn 40 dX12_found_39 rfl rfl rfl ?_
      refine xg_bipush 42 dX12_found_40 rfl (by decide) ?_
      refine xg_icne 49 45 dX12_found_42 rfl rfl (by first | omega | exact hR _ | exact ⟨hR _, by omega⟩ | exact ⟨by omega, hR _⟩ | exact ⟨hR _, hR _⟩) (fun hb42 => ?_) (fun hb42 => ?_)
      · skip
        refine xg_iloadn 50 dX12_found_49 rfl rfl rfl ?_
        subst hX
        exact xg_ireturn dX12_found_50 rfl ⟨Nat.le_refl _, Nat.le_refl _⟩ ⟨congrArg (fun v => some (J v)) (by first | (exfalso; omega) | simp [sFnd, *]), rfl⟩
      · skip
        refine xg_iconst 46 dX12_found_45 rfl ?_
        refine xg_goto 50 dX12_found_46 rfl ?_
        subst hX
        exact xg_ireturn dX12_found_50 rfl ⟨Nat.le_refl _, Nat.le_refl _⟩ ⟨congrArg (fun v => some (J v)) (by first | (exfalso; omega) | simp [sFnd, *]), rfl⟩
  · skip
    refine xg_bipush 13 dX12_found_11 rfl (by decide) ?_
    refine xg_goto 38 dX12_found_13 rfl ?_
    refine xg_istoren 39 _ dX12_found_38 rfl rfl rfl (by decide) (Or.inr rfl) ?_
    refine xg_iloadn 40 dX12_found_39 rfl rfl rfl ?_
    refine xg_bipush 42 dX12_found_40 rfl (by decide) ?_
    refine xg_icne 49 45 dX12_found_42 rfl rfl (by first | omega | exact hR _ | exact ⟨hR _, by omega⟩ | exact ⟨by omega, hR _⟩ | exact ⟨hR _, hR _⟩) (fun hb42 => ?_) (fun hb42 => ?_)
    · exfalso; omega
    · skip
      refine xg_iconst 46 dX12_found_45 rfl ?_
      refine xg_goto 50 dX12_found_46 rfl ?_
      subst hX
      exact xg_ireturn dX12_found_50 rfl ⟨Nat.le_refl _, Nat.le_refl _⟩ ⟨congrArg (fun v => some (J v)) (by first | (exfalso; omega) | simp [sFnd, *]), rfl⟩

theorem dX12_took_0 : decode cX12_took 0 = .ok (.aload_n 0, 1) := by decide +kernel
theorem dX12_took_1 : decode cX12_took 1 = .ok (.iload_n 1, 1) := by decide +kernel
theorem dX12_took_2 : decode cX12_took 2 = .ok (.invokevirtual 391, 3) := by decide +kernel
theorem dX12_took_5 : decode cX12_took 5 = .ok (.istore_n 2, 1) := by decide +kernel
theorem dX12_took_6 : decode cX12_took 6 = .ok (.aload_n 0, 1) := by decide +kernel
theorem dX12_took_7 : decode cX12_took 7 = .ok (.bipush 19, 2) := by decide +kernel
theorem dX12_took_9 : decode cX12_took 9 = .ok (.invokevirtual 268, 3) := by decide +kernel
theorem dX12_took_12 : decode cX12_took 12 = .ok (.ifCond .le 7, 3) := by decide +kernel
theorem dX12_took_15 : decode cX12_took 15 = .ok (.iconst 1, 1) := by decide +kernel
theorem dX12_took_16 : decode cX12_took 16 = .ok (.goto 4, 3) := by decide +kernel
theorem dX12_took_19 : decode cX12_took 19 = .ok (.iconst 0, 1) := by decide +kernel
theorem dX12_took_20 : decode cX12_took 20 = .ok (.istore_n 3, 1) := by decide +kernel
theorem dX12_took_21 : decode cX12_took 21 = .ok (.iload_n 3, 1) := by decide +kernel
theorem dX12_took_22 : decode cX12_took 22 = .ok (.iload_n 2, 1) := by decide +kernel
theorem dX12_took_23 : decode cX12_took 23 = .ok (.iconst (-1), 1) := by decide +kernel
theorem dX12_took_24 : decode cX12_took 24 = .ok (.if_icmp .ne 10, 3) := by decide +kernel
theorem dX12_took_27 : decode cX12_took 27 = .ok (.aload_n 0, 1) := by decide +kernel
theorem dX12_took_28 : decode cX12_took 28 = .ok (.invokevirtual 66, 3) := by decide +kernel
theorem dX12_took_31 : decode cX12_took 31 = .ok (.goto 12, 3) := by decide +kernel
theorem dX12_took_34 : decode cX12_took 34 = .ok (.iload_n 2, 1) := by decide +kernel
theorem dX12_took_35 : decode cX12_took 35 = .ok (.ifCond .ne 7, 3) := by decide +kernel
theorem dX12_took_38 : decode cX12_took 38 = .ok (.iconst 0, 1) := by decide +kernel
theorem dX12_took_39 : decode cX12_took 39 = .ok (.goto 4, 3) := by decide +kernel
theorem dX12_took_42 : decode cX12_took 42 = .ok (.iload_n 2, 1) := by decide +kernel
theorem dX12_took_43 : decode cX12_took 43 = .ok (.iadd, 1) := by decide +kernel
theorem dX12_took_44 : decode cX12_took 44 = .ok (.ireturn, 1) := by decide +kernel
set_option maxHeartbeats 4000000 in
set_option maxRecDepth 100000 in
theorem ct_X12_took {E : xE} {z : Nat} {T : Nat → Nat × Int} {F : Nat → Nat → Int} {I : Nat → Int → Int} {P : Nat → Nat → Option Nat} {Y : Nat → Int → Option Nat} {m : Nat} {w : Int → Int} (hw : wM T P m) (hO : wOk w){key : Int} (hk : 0 ≤ key ∧ key < 60) : Ct E 3 mX12_took 0 0 [.ref m, J key] (z, T, F, upA I (m + 1) w, P, Y) (xd (some (J (sTook w key))) (z, T, F, upA I (m + 1) w, P, Y)) := by
  obtain ⟨⟨q0, q1, q2, q3⟩, -⟩ := id hw
  obtain ⟨hR, o0, o1, o2, o3, o4, o5, o6, oc, o13, o14, o16, o17, o18, ov⟩ := id hO
  have hN := wN_i o0.1
  have hnb := sNewO_bd (w := w) key o0
  have heb := sEnt_bd w 19
  refine Ct.of [some (.ref m), some (J key), none, none] kt_X12_took rfl (Nat.le_of_ble_eq_true rfl) rfl (fun d hd => ?_)
  generalize hX : xN E _ _ _ = X
  refine xg_aloadn 1 dX12_took_0 rfl rfl rfl ?_
  refine xg_iloadn 2 dX12_took_1 rfl rfl rfl ?_
  refine xg_callV 5 12 [_] _ kv_X12_newestOf ⟨_, _, rfl⟩ kl_RX12_391 dX12_took_2 rfl (by assumption) (by omega) rfl rfl (Nat.le_of_ble_eq_true rfl) (by omega) ⟨Nat.le_refl _, Nat.le_refl _⟩ (ct_X12_newestOf hw hO (by omega)) rfl ?_
  refine xg_istoren 6 _ dX12_took_5 rfl rfl rfl (by decide) (Or.inr rfl) ?_
  refine xg_aloadn 7 dX12_took_6 rfl rfl rfl ?_
  refine xg_bipush 9 dX12_took_7 rfl (by decide) ?_
  refine xg_callV 12 12 [_] _ kv_X12_entriesOf ⟨_, _, rfl⟩ kl_RX12_268 dX12_took_9 rfl (by assumption) (by omega) rfl rfl (Nat.le_of_ble_eq_true rfl) (by omega) ⟨Nat.le_refl _, Nat.le_refl _⟩ (ct_X12_entriesOf hw hR (by omega)) rfl ?_
  refine xg_ifle 19 15 dX12_took_12 rfl rfl (by first | omega | exact hR _ | exact ⟨hR _, by omega⟩ | exact ⟨by omega, hR _⟩ | exact ⟨hR _, hR _⟩) (fun hb12 => ?_) (fun hb12 => ?_)
  · skip
    refine xg_iconst 20 dX12_took_19 rfl ?_
    refine xg_istoren 21 _ dX12_took_20 rfl rfl rfl (by decide) (Or.inr rfl) ?_
    refine xg_iloadn 22 dX12_took_21 rfl rfl rfl ?_
    refine xg_iloadn 23 dX12_took_22 rfl rfl rfl ?_
    refine xg_iconst 24 dX12_took_23 rfl ?_
    refine xg_icne 34 27 dX12_took_24 rfl rfl (by first | omega | exact hR _ | exact ⟨hR _, by omega⟩ | exact ⟨by omega, hR _⟩ | exact ⟨hR _, hR _⟩) (fun hb24 => ?_) (fun hb24 => ?_)
    · skip
      refine xg_iloadn 35 dX12_took_34 rfl rfl rfl ?_
      refine xg_ifne 42 38 dX12_took_35 rfl rfl (by first | omega | exact hR _ | exact ⟨hR _, by omega⟩ | exact ⟨by omega, hR _⟩ | exact ⟨hR _, hR _⟩) (fun hb35 => ?_) (fun hb35 => ?_)
      · skip
        refine xg_iloadn 43 dX12_took_42 rfl rfl rfl ?_
        refine xg_iadd 44 dX12_took_43 rfl ?_
        subst hX
        exact xg_ireturn dX12_took_44 rfl ⟨Nat.le_refl _, Nat.le_refl _⟩ ⟨congrArg (fun v => some (J v)) (by unfold sTook; (repeat' split) <;> omega), rfl⟩
      · skip
        refine xg_iconst 39 dX12_took_38 rfl ?_
        refine xg_goto 43 dX12_took_39 rfl ?_
        refine xg_iadd 44 dX12_took_43 rfl ?_
        subst hX
        exact xg_ireturn dX12_took_44 rfl ⟨Nat.le_refl _, Nat.le_refl _⟩ ⟨congrArg (fun v => some (J v)) (by unfold sTook; (repeat' split) <;> omega), rfl⟩
    · skip
      refine xg_aloadn 28 dX12_took_27 rfl rfl rfl ?_
      refine xg_callV 31 12 [] _ kv_X12_runs ⟨_, _, rfl⟩ kl_RX12_66 dX12_took_28 rfl (by assumption) (by omega) rfl rfl (Nat.le_of_ble_eq_true rfl) (by omega) ⟨Nat.le_refl _, Nat.le_refl _⟩ (ct_X12_runs hw) rfl ?_
      refine xg_goto 43 dX12_took_31 rfl ?_
      refine xg_iadd 44 dX12_took_43 rfl ?_
      subst hX
      exact xg_ireturn dX12_took_44 rfl ⟨Nat.le_refl _, Nat.le_refl _⟩ ⟨congrArg (fun v => some (J v)) (by unfold sTook; (repeat' split) <;> omega), rfl⟩
  · skip
    refine xg_iconst 16 dX12_took_15 rfl ?_
    refine xg_goto 20 dX12_took_16 rfl ?_
    refine xg_istoren 21 _ dX12_took_20 rfl rfl rfl (by decide) (Or.inr rfl) ?_
    refine xg_iloadn 22 dX12_took_21 rfl rfl rfl ?_
    refine xg_iloadn 23 dX12_took_22 rfl rfl rfl ?_
    refine xg_iconst 24 dX12_took_23 rfl ?_
    refine xg_icne 34 27 dX12_took_24 rfl rfl (by first | omega | exact hR _ | exact ⟨hR _, by omega⟩ | exact ⟨by omega, hR _⟩ | exact ⟨hR _, hR _⟩) (fun hb24 => ?_) (fun hb24 => ?_)
    · skip
      refine xg_iloadn 35 dX12_took_34 rfl rfl rfl ?_
      refine xg_ifne 42 38 dX12_took_35 rfl rfl (by first | omega | exact hR _ | exact ⟨hR _, by omega⟩ | exact ⟨by omega, hR _⟩ | exact ⟨hR _, hR _⟩) (fun hb35 => ?_) (fun hb35 => ?_)
      · skip
        refine xg_iloadn 43 dX12_took_42 rfl rfl rfl ?_
        refine xg_iadd 44 dX12_took_43 rfl ?_
        subst hX
        exact xg_ireturn dX12_took_44 rfl ⟨Nat.le_refl _, Nat.le_refl _⟩ ⟨congrArg (fun v => some (J v)) (by unfold sTook; (repeat' split) <;> omega), rfl⟩
      · skip
        refine xg_iconst 39 dX12_took_38 rfl ?_
        refine xg_goto 43 dX12_took_39 rfl ?_
        refine xg_iadd 44 dX12_took_43 rfl ?_
        subst hX
        exact xg_ireturn dX12_took_44 rfl ⟨Nat.le_refl _, Nat.le_refl _⟩ ⟨congrArg (fun v => some (J v)) (by unfold sTook; (repeat' split) <;> omega), rfl⟩
    · skip
      refine xg_aloadn 28 dX12_took_27 rfl rfl rfl ?_
      refine xg_callV 31 12 [] _ kv_X12_runs ⟨_, _, rfl⟩ kl_RX12_66 dX12_took_28 rfl (by assumption) (by omega) rfl rfl (Nat.le_of_ble_eq_true rfl) (by omega) ⟨Nat.le_refl _, Nat.le_refl _⟩ (ct_X12_runs hw) rfl ?_
      refine xg_goto 43 dX12_took_31 rfl ?_
      refine xg_iadd 44 dX12_took_43 rfl ?_
      subst hX
      exact xg_ireturn dX12_took_44 rfl ⟨Nat.le_refl _, Nat.le_refl _⟩ ⟨congrArg (fun v => some (J v)) (by unfold sTook; (repeat' split) <;> omega), rfl⟩

theorem dX12_foundMany_0 : decode cX12_foundMany 0 = .ok (.iconst 0, 1) := by decide +kernel
theorem dX12_foundMany_1 : decode cX12_foundMany 1 = .ok (.istore_n 1, 1) := by decide +kernel
theorem dX12_foundMany_2 : decode cX12_foundMany 2 = .ok (.iconst 0, 1) := by decide +kernel
theorem dX12_foundMany_3 : decode cX12_foundMany 3 = .ok (.istore_n 2, 1) := by decide +kernel
theorem dX12_foundMany_4 : decode cX12_foundMany 4 = .ok (.iload_n 2, 1) := by decide +kernel
theorem dX12_foundMany_5 : decode cX12_foundMany 5 = .ok (.bipush 60, 2) := by decide +kernel
theorem dX12_foundMany_7 : decode cX12_foundMany 7 = .ok (.if_icmp .ge 26, 3) := by decide +kernel
theorem dX12_foundMany_10 : decode cX12_foundMany 10 = .ok (.iload_n 1, 1) := by decide +kernel
theorem dX12_foundMany_11 : decode cX12_foundMany 11 = .ok (.aload_n 0, 1) := by decide +kernel
theorem dX12_foundMany_12 : decode cX12_foundMany 12 = .ok (.iload_n 2, 1) := by decide +kernel
theorem dX12_foundMany_13 : decode cX12_foundMany 13 = .ok (.invokevirtual 394, 3) := by decide +kernel
theorem dX12_foundMany_16 : decode cX12_foundMany 16 = .ok (.iconst (-1), 1) := by decide +kernel
theorem dX12_foundMany_17 : decode cX12_foundMany 17 = .ok (.if_icmp .ne 7, 3) := by decide +kernel
theorem dX12_foundMany_20 : decode cX12_foundMany 20 = .ok (.iconst 0, 1) := by decide +kernel
theorem dX12_foundMany_21 : decode cX12_foundMany 21 = .ok (.goto 4, 3) := by decide +kernel
theorem dX12_foundMany_24 : decode cX12_foundMany 24 = .ok (.iconst 1, 1) := by decide +kernel
theorem dX12_foundMany_25 : decode cX12_foundMany 25 = .ok (.iadd, 1) := by decide +kernel
theorem dX12_foundMany_26 : decode cX12_foundMany 26 = .ok (.istore_n 1, 1) := by decide +kernel
theorem dX12_foundMany_27 : decode cX12_foundMany 27 = .ok (.iinc 2 1, 3) := by decide +kernel
theorem dX12_foundMany_30 : decode cX12_foundMany 30 = .ok (.goto (-26), 3) := by decide +kernel
theorem dX12_foundMany_33 : decode cX12_foundMany 33 = .ok (.iload_n 1, 1) := by decide +kernel
theorem dX12_foundMany_34 : decode cX12_foundMany 34 = .ok (.ireturn, 1) := by decide +kernel
set_option maxHeartbeats 4000000 in
set_option maxRecDepth 100000 in
theorem ct_X12_foundMany {E : xE} {z : Nat} {T : Nat → Nat × Int} {F : Nat → Nat → Int} {I : Nat → Int → Int} {P : Nat → Nat → Option Nat} {Y : Nat → Int → Option Nat} {m : Nat} {w : Int → Int} (hw : wM T P m) (hO : wOk w) : Ct E 4 mX12_foundMany 0 0 [.ref m] (z, T, F, upA I (m + 1) w, P, Y) (xd (some (J (sFndN w))) (z, T, F, upA I (m + 1) w, P, Y)) := by
  obtain ⟨⟨q0, q1, q2, q3⟩, -⟩ := id hw
  obtain ⟨hR, o0, o1, o2, o3, o4, o5, o6, oc, o13, o14, o16, o17, o18, ov⟩ := id hO
  have hN := wN_i o0.1
  refine Ct.of [some (.ref m), none, none] kt_X12_foundMany rfl (Nat.le_of_ble_eq_true rfl) rfl (fun d hd => ?_)
  generalize hX : xN E _ _ _ = X
  refine xg_iconst 1 dX12_foundMany_0 rfl ?_
  refine xg_istoren 2 _ dX12_foundMany_1 rfl rfl rfl (by decide) (Or.inr rfl) ?_
  refine xg_iconst 3 dX12_foundMany_2 rfl ?_
  refine xg_istoren 4 _ dX12_foundMany_3 rfl rfl rfl (by decide) (Or.inr rfl) ?_
  have loop4 : ∀ (mm : Nat) (k : Nat) (n : Int), k ≤ 60 → n = pSum (fun k => if sFnd w k = -1 then 0 else 1) k → 60 - (k : Int) < (mm : Int) → xG E mX12_foundMany (xR d 0 0) X 4 [some (.ref m), some (J n), some (J (k : Int))] [] (z, T, F, upA I (m + 1) w, P, Y) 0 0 := by
    intro mm
    induction mm with
    | zero => intro k n hk hn hm; exfalso; omega
    | succ mm ih =>
      intro k n hk hn hm
      have hfb := sFnd_bd hO (key := (k : Int))
      refine xg_iloadn 5 dX12_foundMany_4 rfl rfl rfl ?_
      refine xg_bipush 7 dX12_foundMany_5 rfl (by decide) ?_
      refine xg_icge 33 10 dX12_foundMany_7 rfl rfl (by first | omega | exact hR _ | exact ⟨hR _, by omega⟩ | exact ⟨by omega, hR _⟩ | exact ⟨hR _, hR _⟩) (fun hb7 => ?_) (fun hb7 => ?_)
      · skip
        refine xg_iloadn 34 dX12_foundMany_33 rfl rfl rfl ?_
        subst hX
        exact xg_ireturn dX12_foundMany_34 rfl ⟨Nat.le_refl _, Nat.le_refl _⟩ ⟨by rw [hn, show k = 60 by omega]; rfl, rfl⟩
      · skip
        refine xg_iloadn 11 dX12_foundMany_10 rfl rfl rfl ?_
        refine xg_aloadn 12 dX12_foundMany_11 rfl rfl rfl ?_
        refine xg_iloadn 13 dX12_foundMany_12 rfl rfl rfl ?_
        refine xg_callV 16 12 [_] _ kv_X12_found ⟨_, _, rfl⟩ kl_RX12_394 dX12_foundMany_13 rfl (by assumption) (by omega) rfl rfl (Nat.le_of_ble_eq_true rfl) (by omega) ⟨Nat.le_refl _, Nat.le_refl _⟩ (ct_X12_found hw hO (by omega)) rfl ?_
        refine xg_iconst 17 dX12_foundMany_16 rfl ?_
        refine xg_icne 24 20 dX12_foundMany_17 rfl rfl (by first | omega | exact hR _ | exact ⟨hR _, by omega⟩ | exact ⟨by omega, hR _⟩ | exact ⟨hR _, hR _⟩) (fun hb17 => ?_) (fun hb17 => ?_)
        · skip
          refine xg_iconst 25 dX12_foundMany_24 rfl ?_
          refine xg_iadd 26 dX12_foundMany_25 rfl ?_
          refine xg_istoren 27 _ dX12_foundMany_26 rfl rfl rfl (by decide) (Or.inr rfl) ?_
          refine xg_iinc 30 _ dX12_foundMany_27 rfl rfl rfl rfl (by decide) (Or.inr rfl) ?_
          refine xg_goto 4 dX12_foundMany_30 rfl ?_
          exact xg_weak _ (xle_s rfl (xle_s rfl (xle_s rfl xle_0))) (ih (k + 1) _ (by omega) (by rw [hn, pSum_s]; first | rw [if_pos hb17] | rw [if_neg hb17]) (by omega))
        · skip
          refine xg_iconst 21 dX12_foundMany_20 rfl ?_
          refine xg_goto 25 dX12_foundMany_21 rfl ?_
          refine xg_iadd 26 dX12_foundMany_25 rfl ?_
          refine xg_istoren 27 _ dX12_foundMany_26 rfl rfl rfl (by decide) (Or.inr rfl) ?_
          refine xg_iinc 30 _ dX12_foundMany_27 rfl rfl rfl rfl (by decide) (Or.inr rfl) ?_
          refine xg_goto 4 dX12_foundMany_30 rfl ?_
          exact xg_weak _ (xle_s rfl (xle_s rfl (xle_s rfl xle_0))) (ih (k + 1) _ (by omega) (by rw [hn, pSum_s]; first | rw [if_pos hb17] | rw [if_neg hb17]) (by omega))
  exact xg_weak _ (xle_s rfl (xle_s rfl (xle_s rfl xle_0))) (loop4 70 0 0 (by omega) rfl (by omega))

theorem dX12_lowerHas_0 : decode cX12_lowerHas 0 = .ok (.iconst 0, 1) := by decide +kernel
theorem dX12_lowerHas_1 : decode cX12_lowerHas 1 = .ok (.istore_n 2, 1) := by decide +kernel
theorem dX12_lowerHas_2 : decode cX12_lowerHas 2 = .ok (.iconst 0, 1) := by decide +kernel
theorem dX12_lowerHas_3 : decode cX12_lowerHas 3 = .ok (.istore_n 3, 1) := by decide +kernel
theorem dX12_lowerHas_4 : decode cX12_lowerHas 4 = .ok (.iload_n 3, 1) := by decide +kernel
theorem dX12_lowerHas_5 : decode cX12_lowerHas 5 = .ok (.aload_n 0, 1) := by decide +kernel
theorem dX12_lowerHas_6 : decode cX12_lowerHas 6 = .ok (.invokevirtual 66, 3) := by decide +kernel
theorem dX12_lowerHas_9 : decode cX12_lowerHas 9 = .ok (.if_icmp .ge 50, 3) := by decide +kernel
theorem dX12_lowerHas_12 : decode cX12_lowerHas 12 = .ok (.aload_n 0, 1) := by decide +kernel
theorem dX12_lowerHas_13 : decode cX12_lowerHas 13 = .ok (.iload_n 3, 1) := by decide +kernel
theorem dX12_lowerHas_14 : decode cX12_lowerHas 14 = .ok (.invokevirtual 290, 3) := by decide +kernel
theorem dX12_lowerHas_17 : decode cX12_lowerHas 17 = .ok (.ifCond .ne 34, 3) := by decide +kernel
theorem dX12_lowerHas_20 : decode cX12_lowerHas 20 = .ok (.iload_n 2, 1) := by decide +kernel
theorem dX12_lowerHas_21 : decode cX12_lowerHas 21 = .ok (.ifCond .ne 26, 3) := by decide +kernel
theorem dX12_lowerHas_24 : decode cX12_lowerHas 24 = .ok (.aload_n 0, 1) := by decide +kernel
theorem dX12_lowerHas_25 : decode cX12_lowerHas 25 = .ok (.getfield 13, 3) := by decide +kernel
theorem dX12_lowerHas_28 : decode cX12_lowerHas 28 = .ok (.iload_n 3, 1) := by decide +kernel
theorem dX12_lowerHas_29 : decode cX12_lowerHas 29 = .ok (.invokestatic 133, 3) := by decide +kernel
theorem dX12_lowerHas_32 : decode cX12_lowerHas 32 = .ok (.iload_n 1, 1) := by decide +kernel
theorem dX12_lowerHas_33 : decode cX12_lowerHas 33 = .ok (.iadd, 1) := by decide +kernel
theorem dX12_lowerHas_34 : decode cX12_lowerHas 34 = .ok (.iaload, 1) := by decide +kernel
theorem dX12_lowerHas_35 : decode cX12_lowerHas 35 = .ok (.iconst (-1), 1) := by decide +kernel
theorem dX12_lowerHas_36 : decode cX12_lowerHas 36 = .ok (.if_icmp .eq 15, 3) := by decide +kernel
theorem dX12_lowerHas_39 : decode cX12_lowerHas 39 = .ok (.aload_n 0, 1) := by decide +kernel
theorem dX12_lowerHas_40 : decode cX12_lowerHas 40 = .ok (.iload_n 3, 1) := by decide +kernel
theorem dX12_lowerHas_41 : decode cX12_lowerHas 41 = .ok (.invokevirtual 324, 3) := by decide +kernel
theorem dX12_lowerHas_44 : decode cX12_lowerHas 44 = .ok (.ifCond .eq 7, 3) := by decide +kernel
theorem dX12_lowerHas_47 : decode cX12_lowerHas 47 = .ok (.iconst 1, 1) := by decide +kernel
theorem dX12_lowerHas_48 : decode cX12_lowerHas 48 = .ok (.goto 4, 3) := by decide +kernel
theorem dX12_lowerHas_51 : decode cX12_lowerHas 51 = .ok (.iconst 0, 1) := by decide +kernel
theorem dX12_lowerHas_52 : decode cX12_lowerHas 52 = .ok (.istore_n 2, 1) := by decide +kernel
theorem dX12_lowerHas_53 : decode cX12_lowerHas 53 = .ok (.iinc 3 1, 3) := by decide +kernel
theorem dX12_lowerHas_56 : decode cX12_lowerHas 56 = .ok (.goto (-52), 3) := by decide +kernel
theorem dX12_lowerHas_59 : decode cX12_lowerHas 59 = .ok (.iload_n 2, 1) := by decide +kernel
theorem dX12_lowerHas_60 : decode cX12_lowerHas 60 = .ok (.ireturn, 1) := by decide +kernel
set_option maxHeartbeats 4000000 in
set_option maxRecDepth 100000 in
theorem ct_X12_lowerHas {E : xE} {z : Nat} {T : Nat → Nat × Int} {F : Nat → Nat → Int} {I : Nat → Int → Int} {P : Nat → Nat → Option Nat} {Y : Nat → Int → Option Nat} {m : Nat} {w : Int → Int} (hw : wM T P m) (hO : wOk w){key : Int} (hk : 0 ≤ key ∧ key < 60) : Ct E 3 mX12_lowerHas 0 0 [.ref m, J key] (z, T, F, upA I (m + 1) w, P, Y) (xd (some (J (bI (sLow w key (wN w))))) (z, T, F, upA I (m + 1) w, P, Y)) := by
  obtain ⟨⟨q0, q1, q2, q3⟩, -⟩ := id hw
  obtain ⟨hR, o0, o1, o2, o3, o4, o5, o6, oc, o13, o14, o16, o17, o18, ov⟩ := id hO
  have hN := wN_i o0.1
  refine Ct.of [some (.ref m), some (J key), none, none] kt_X12_lowerHas rfl (Nat.le_of_ble_eq_true rfl) rfl (fun d hd => ?_)
  generalize hX : xN E _ _ _ = X
  refine xg_iconst 1 dX12_lowerHas_0 rfl ?_
  refine xg_istoren 2 _ dX12_lowerHas_1 rfl rfl rfl (by decide) (Or.inr rfl) ?_
  refine xg_iconst 3 dX12_lowerHas_2 rfl ?_
  refine xg_istoren 4 _ dX12_lowerHas_3 rfl rfl rfl (by decide) (Or.inr rfl) ?_
  have loop4 : ∀ (mm : Nat) (r : Nat) (b : Bool), (r : Int) ≤ w 0 → b = sLow w key r → w 0 - (r : Int) < (mm : Int) → xG E mX12_lowerHas (xR d 0 0) X 4 [some (.ref m), some (J key), some (J (bI b)), some (J (r : Int))] [] (z, T, F, upA I (m + 1) w, P, Y) 0 0 := by
    intro mm
    induction mm with
    | zero => intro r b hr hb hm; exfalso; omega
    | succ mm ih =>
      intro r b hr hb hm
      refine xg_iloadn 5 dX12_lowerHas_4 rfl rfl rfl ?_
      refine xg_aloadn 6 dX12_lowerHas_5 rfl rfl rfl ?_
      refine xg_callV 9 12 [] _ kv_X12_runs ⟨_, _, rfl⟩ kl_RX12_66 dX12_lowerHas_6 rfl (by assumption) (by omega) rfl rfl (Nat.le_of_ble_eq_true rfl) (by omega) ⟨Nat.le_refl _, Nat.le_refl _⟩ (ct_X12_runs hw) rfl ?_
      refine xg_icge 59 12 dX12_lowerHas_9 rfl rfl (by first | omega | exact hR _ | exact ⟨hR _, by omega⟩ | exact ⟨by omega, hR _⟩ | exact ⟨hR _, hR _⟩) (fun hb9 => ?_) (fun hb9 => ?_)
      · skip
        refine xg_iloadn 60 dX12_lowerHas_59 rfl rfl rfl ?_
        subst hX
        exact xg_zreturn dX12_lowerHas_60 rfl (by first | exact bI_01 _ | omega) ⟨Nat.le_refl _, Nat.le_refl _⟩ ⟨by rw [hb, show r = wN w by omega], rfl⟩
      · skip
        refine xg_aloadn 13 dX12_lowerHas_12 rfl rfl rfl ?_
        refine xg_iloadn 14 dX12_lowerHas_13 rfl rfl rfl ?_
        refine xg_callV 17 12 [_] _ kv_X12_isInput ⟨_, _, rfl⟩ kl_RX12_290 dX12_lowerHas_14 rfl (by assumption) (by omega) rfl rfl (Nat.le_of_ble_eq_true rfl) (by omega) ⟨Nat.le_refl _, Nat.le_refl _⟩ (ct_X12_isInput hw hR (by omega)) rfl ?_
        refine xg_dne 51 20 dX12_lowerHas_17 rfl rfl (fun hb17 => ?_) (fun hb17 => ?_)
        · skip
          refine xg_iconst 52 dX12_lowerHas_51 rfl ?_
          refine xg_istoren 53 _ dX12_lowerHas_52 rfl rfl rfl (by decide) (Or.inr rfl) ?_
          refine xg_iinc 56 _ dX12_lowerHas_53 rfl rfl rfl rfl (by decide) (Or.inr rfl) ?_
          refine xg_goto 4 dX12_lowerHas_56 rfl ?_
          first
          | exact xg_weak _ (xle_s rfl (xle_s rfl (xle_s (by rw [show (0 : Int) = bI false from rfl]) (xle_s rfl xle_0)))) (ih (r + 1) false (by omega) (by rw [sLow_s]; first | (rw [show wInp w r = true from decide_eq_true hb17]; rfl) | (rw [show wInp w r = false from decide_eq_false hb17, ← hb, hb21]; first | rfl | (simp [wHas, hb36]; done) | (simp [wHas, hb36, hb44]; done))) (by omega))
          | exact xg_weak _ (xle_s rfl (xle_s rfl (xle_s (by rw [show (1 : Int) = bI true from rfl]) (xle_s rfl xle_0)))) (ih (r + 1) true (by omega) (by rw [sLow_s]; first | (rw [show wInp w r = true from decide_eq_true hb17]; rfl) | (rw [show wInp w r = false from decide_eq_false hb17, ← hb, hb21]; first | rfl | (simp [wHas, hb36]; done) | (simp [wHas, hb36, hb44]; done))) (by omega))
        · skip
          refine xg_iloadn 21 dX12_lowerHas_20 rfl rfl rfl ?_
          refine xg_bne 47 24 dX12_lowerHas_21 rfl rfl (fun hb21 => ?_) (fun hb21 => ?_)
          · skip
            refine xg_iconst 48 dX12_lowerHas_47 rfl ?_
            refine xg_goto 52 dX12_lowerHas_48 rfl ?_
            refine xg_istoren 53 _ dX12_lowerHas_52 rfl rfl rfl (by decide) (Or.inr rfl) ?_
            refine xg_iinc 56 _ dX12_lowerHas_53 rfl rfl rfl rfl (by decide) (Or.inr rfl) ?_
            refine xg_goto 4 dX12_lowerHas_56 rfl ?_
            first
            | exact xg_weak _ (xle_s rfl (xle_s rfl (xle_s (by rw [show (0 : Int) = bI false from rfl]) (xle_s rfl xle_0)))) (ih (r + 1) false (by omega) (by rw [sLow_s]; first | (rw [show wInp w r = true from decide_eq_true hb17]; rfl) | (rw [show wInp w r = false from decide_eq_false hb17, ← hb, hb21]; first | rfl | (simp [wHas, hb36]; done) | (simp [wHas, hb36, hb44]; done))) (by omega))
            | exact xg_weak _ (xle_s rfl (xle_s rfl (xle_s (by rw [show (1 : Int) = bI true from rfl]) (xle_s rfl xle_0)))) (ih (r + 1) true (by omega) (by rw [sLow_s]; first | (rw [show wInp w r = true from decide_eq_true hb17]; rfl) | (rw [show wInp w r = false from decide_eq_false hb17, ← hb, hb21]; first | rfl | (simp [wHas, hb36]; done) | (simp [wHas, hb36, hb44]; done))) (by omega))
          · skip
            refine xg_aloadn 25 dX12_lowerHas_24 rfl rfl rfl ?_
            refine xg_getP 28 kf_RX12_13 dX12_lowerHas_25 rfl (by assumption) (by assumption) ?_
            refine xg_iloadn 29 dX12_lowerHas_28 rfl rfl rfl ?_
            refine xg_callS 32 [_] _ ks_X12_rowOf kl_RX12_133 dX12_lowerHas_29 rfl rfl rfl (Nat.le_of_ble_eq_true rfl) (by omega) ⟨Nat.le_refl _, Nat.le_refl _⟩ (ct_X12_rowOf) rfl ?_
            refine xg_iloadn 33 dX12_lowerHas_32 rfl rfl rfl ?_
            refine xg_iadd 34 dX12_lowerHas_33 rfl ?_
            refine xg_ialdW 35 dX12_lowerHas_34 rfl (by assumption) (by first | omega | exact hR _ | exact ⟨hR _, by omega⟩ | exact ⟨by omega, hR _⟩ | exact ⟨hR _, hR _⟩) ?_
            refine xg_iconst 36 dX12_lowerHas_35 rfl ?_
            refine xg_iceq 51 39 dX12_lowerHas_36 rfl rfl (by first | omega | exact hR _ | exact ⟨hR _, by omega⟩ | exact ⟨by omega, hR _⟩ | exact ⟨hR _, hR _⟩) (fun hb36 => ?_) (fun hb36 => ?_)
            · skip
              refine xg_iconst 52 dX12_lowerHas_51 rfl ?_
              refine xg_istoren 53 _ dX12_lowerHas_52 rfl rfl rfl (by decide) (Or.inr rfl) ?_
              refine xg_iinc 56 _ dX12_lowerHas_53 rfl rfl rfl rfl (by decide) (Or.inr rfl) ?_
              refine xg_goto 4 dX12_lowerHas_56 rfl ?_
              first
              | exact xg_weak _ (xle_s rfl (xle_s rfl (xle_s (by rw [show (0 : Int) = bI false from rfl]) (xle_s rfl xle_0)))) (ih (r + 1) false (by omega) (by rw [sLow_s]; first | (rw [show wInp w r = true from decide_eq_true hb17]; rfl) | (rw [show wInp w r = false from decide_eq_false hb17, ← hb, hb21]; first | rfl | (simp [wHas, hb36]; done) | (simp [wHas, hb36, hb44]; done))) (by omega))
              | exact xg_weak _ (xle_s rfl (xle_s rfl (xle_s (by rw [show (1 : Int) = bI true from rfl]) (xle_s rfl xle_0)))) (ih (r + 1) true (by omega) (by rw [sLow_s]; first | (rw [show wInp w r = true from decide_eq_true hb17]; rfl) | (rw [show wInp w r = false from decide_eq_false hb17, ← hb, hb21]; first | rfl | (simp [wHas, hb36]; done) | (simp [wHas, hb36, hb44]; done))) (by omega))
            · skip
              refine xg_aloadn 40 dX12_lowerHas_39 rfl rfl rfl ?_
              refine xg_iloadn 41 dX12_lowerHas_40 rfl rfl rfl ?_
              refine xg_callV 44 12 [_] _ kv_X12_isBehindInputs ⟨_, _, rfl⟩ kl_RX12_324 dX12_lowerHas_41 rfl (by assumption) (by omega) rfl rfl (Nat.le_of_ble_eq_true rfl) (by omega) ⟨Nat.le_refl _, Nat.le_refl _⟩ (ct_X12_isBehindInputs hw hO (by omega)) rfl ?_
              refine xg_beq 51 47 dX12_lowerHas_44 rfl rfl (fun hb44 => ?_) (fun hb44 => ?_)
              · skip
                refine xg_iconst 52 dX12_lowerHas_51 rfl ?_
                refine xg_istoren 53 _ dX12_lowerHas_52 rfl rfl rfl (by decide) (Or.inr rfl) ?_
                refine xg_iinc 56 _ dX12_lowerHas_53 rfl rfl rfl rfl (by decide) (Or.inr rfl) ?_
                refine xg_goto 4 dX12_lowerHas_56 rfl ?_
                first
                | exact xg_weak _ (xle_s rfl (xle_s rfl (xle_s (by rw [show (0 : Int) = bI false from rfl]) (xle_s rfl xle_0)))) (ih (r + 1) false (by omega) (by rw [sLow_s]; first | (rw [show wInp w r = true from decide_eq_true hb17]; rfl) | (rw [show wInp w r = false from decide_eq_false hb17, ← hb, hb21]; first | rfl | (simp [wHas, hb36]; done) | (simp [wHas, hb36, hb44]; done))) (by omega))
                | exact xg_weak _ (xle_s rfl (xle_s rfl (xle_s (by rw [show (1 : Int) = bI true from rfl]) (xle_s rfl xle_0)))) (ih (r + 1) true (by omega) (by rw [sLow_s]; first | (rw [show wInp w r = true from decide_eq_true hb17]; rfl) | (rw [show wInp w r = false from decide_eq_false hb17, ← hb, hb21]; first | rfl | (simp [wHas, hb36]; done) | (simp [wHas, hb36, hb44]; done))) (by omega))
              · skip
                refine xg_iconst 48 dX12_lowerHas_47 rfl ?_
                refine xg_goto 52 dX12_lowerHas_48 rfl ?_
                refine xg_istoren 53 _ dX12_lowerHas_52 rfl rfl rfl (by decide) (Or.inr rfl) ?_
                refine xg_iinc 56 _ dX12_lowerHas_53 rfl rfl rfl rfl (by decide) (Or.inr rfl) ?_
                refine xg_goto 4 dX12_lowerHas_56 rfl ?_
                first
                | exact xg_weak _ (xle_s rfl (xle_s rfl (xle_s (by rw [show (0 : Int) = bI false from rfl]) (xle_s rfl xle_0)))) (ih (r + 1) false (by omega) (by rw [sLow_s]; first | (rw [show wInp w r = true from decide_eq_true hb17]; rfl) | (rw [show wInp w r = false from decide_eq_false hb17, ← hb, hb21]; first | rfl | (simp [wHas, hb36]; done) | (simp [wHas, hb36, hb44]; done))) (by omega))
                | exact xg_weak _ (xle_s rfl (xle_s rfl (xle_s (by rw [show (1 : Int) = bI true from rfl]) (xle_s rfl xle_0)))) (ih (r + 1) true (by omega) (by rw [sLow_s]; first | (rw [show wInp w r = true from decide_eq_true hb17]; rfl) | (rw [show wInp w r = false from decide_eq_false hb17, ← hb, hb21]; first | rfl | (simp [wHas, hb36]; done) | (simp [wHas, hb36, hb44]; done))) (by omega))
  exact xg_weak _ (xle_s rfl (xle_s rfl (xle_s (by rw [show (0 : Int) = bI false from rfl]) (xle_s rfl xle_0)))) (loop4 20 0 false (by omega) rfl (by omega))

