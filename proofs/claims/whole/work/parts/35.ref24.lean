/-- a set without r -/
def nDel (s r : Nat) : Nat := if s.testBit r = true then s - 2 ^ r else s
def nF (s : Nat) : Nat := (nLow s).toNat
theorem nDel_e0 : ∀ s : Fin 256, ∀ r : Fin 8, xand ((s.val : Nat) : Int) (xxor (xshl 1 ((r.val : Nat) : Int)) (-1)) = ((nDel s.val r.val : Nat) : Int) := by decide +kernel
theorem nDel_e {s r : Nat} (hs : s < 256) (hr : r < 8) : xand (s : Int) (xxor (xshl 1 (r : Int)) (-1)) = ((nDel s r : Nat) : Int) := nDel_e0 ⟨s, hs⟩ ⟨r, hr⟩
theorem nDel_l0 : ∀ s : Fin 256, ∀ r : Fin 8, s.val.testBit r.val = true → nDel s.val r.val < s.val ∧ (nDel s.val r.val).testBit r.val = false := by decide +kernel
theorem nDel_le (s r : Nat) : nDel s r ≤ s := by
  unfold nDel; split
  · exact Nat.sub_le _ _
  · exact Nat.le_refl _
theorem nDel_b0 : ∀ s : Fin 256, ∀ r q : Fin 8, r ≠ q → (nDel s.val r.val).testBit q.val = s.val.testBit q.val := by decide +kernel
theorem nF_e0 : ∀ s : Fin 256, s.val ≠ 0 → nLow s.val = ((nF s.val : Nat) : Int) ∧ nF s.val < 8 ∧ s.val.testBit (nF s.val) = true := by decide +kernel
theorem nF_e {s : Nat} (h : 0 < s ∧ s < 256) : nLow s = ((nF s : Nat) : Int) ∧ nF s < 8 ∧ s.testBit (nF s) = true ∧ nDel s (nF s) < s := by
  have h1 := nF_e0 ⟨s, h.2⟩ (by show s ≠ 0; omega)
  exact ⟨h1.1, h1.2.1, h1.2.2, (nDel_l0 ⟨s, h.2⟩ ⟨nF s, h1.2.1⟩ h1.2.2).1⟩
def sAlk (w : Int → Int) (a b : Int) : Int := pSum (fun k => if w (201 + 122 * a + k) = -1 then 0 else if w (201 + 122 * b + k) = -1 then 0 else 1) 60
theorem sAlk_bd (w : Int → Int) (a b : Int) : 0 ≤ sAlk w a b ∧ sAlk w a b ≤ 60 := by
  have := pSum_bd (f := fun k => if w (201 + 122 * a + k) = -1 then 0 else if w (201 + 122 * b + k) = -1 then 0 else 1) (b := 1) (k := 60) (fun j _ => by (repeat' split) <;> omega)
  unfold sAlk; omega
def sPb (w : Int → Int) (t : Nat → Int) (s : Nat) (p : Int) : Int := if p = -1 then t (nDel s (nF s)) else if (nDel s (nF s)).testBit p.toNat = true then sAlk w (nF s) p + t (nDel (nDel s (nF s)) p.toNat) else -1
theorem sPb_bd {w : Int → Int} {t : Nat → Int} {s : Nat} (h : 0 < s ∧ s < 256) (ht : ∀ x, x < s → 0 ≤ t x ∧ t x ≤ 60 * x) (p : Int) : -1 ≤ sPb w t s p ∧ sPb w t s p ≤ 60 * s := by
  have h1 := (nF_e h).2.2.2
  have h2 := ht _ h1
  have h3 := nDel_le (nDel s (nF s)) p.toNat
  have h4 := ht (nDel (nDel s (nF s)) p.toNat) (by omega)
  have h5 := sAlk_bd w (nF s) p
  unfold sPb
  split
  · omega
  · split <;> omega
theorem sPb_cg {w : Int → Int} {t t' : Nat → Int} {s : Nat} (h : 0 < s ∧ s < 256) (ht : ∀ x, x < s → t x = t' x) (p : Int) : sPb w t s p = sPb w t' s p := by
  have h1 := (nF_e h).2.2.2
  have h3 := nDel_le (nDel s (nF s)) p.toNat
  unfold sPb
  rw [ht _ h1, ht (nDel (nDel s (nF s)) p.toNat) (by omega)]
def sPx (w : Int → Int) (t : Nat → Int) (s : Nat) : Nat → Int
  | 0 => 0
  | j + 1 => max (sPx w t s j) (sPb w t s ((j : Int) - 1))
theorem sPx_bd {w : Int → Int} {t : Nat → Int} {s : Nat} (h : 0 < s ∧ s < 256) (ht : ∀ x, x < s → 0 ≤ t x ∧ t x ≤ 60 * x) : ∀ j : Nat, 0 ≤ sPx w t s j ∧ sPx w t s j ≤ 60 * s
  | 0 => by rw [sPx]; omega
  | j + 1 => by
    have h1 := sPx_bd (w := w) h ht j
    have h2 := sPb_bd (w := w) h ht ((j : Int) - 1)
    rw [sPx]; omega
theorem sPx_cg {w : Int → Int} {t t' : Nat → Int} {s : Nat} (h : 0 < s ∧ s < 256) (ht : ∀ x, x < s → t x = t' x) : ∀ j : Nat, sPx w t s j = sPx w t' s j
  | 0 => rfl
  | j + 1 => by rw [sPx, sPx, sPx_cg h ht j, sPb_cg h ht]
/-- the best of pairing the runs of a set, for the sets below the given one -/
def sTb (w : Int → Int) (n : Nat) : Nat → Nat → Int
  | 0, _ => 0
  | S + 1, x => if x = S then (if S = 0 then 0 else sPx w (sTb w n S) S (n + 1)) else sTb w n S x
theorem sTb_bd {w : Int → Int} {n : Nat} : ∀ S : Nat, S ≤ 256 → ∀ x, 0 ≤ sTb w n S x ∧ sTb w n S x ≤ 60 * x
  | 0, _, x => by rw [sTb]; omega
  | S + 1, hS, x => by
    rw [sTb]
    split
    · rename_i e
      split
      · omega
      · have := sPx_bd (w := w) (t := sTb w n S) (s := S) (by omega) (fun y _ => sTb_bd S (by omega) y) (n + 1)
        rw [e]; exact this
    · exact sTb_bd S (by omega) x
def pPr (w u : Int → Int) (n S : Nat) : Prop := ∀ x : Nat, x < S → u (x : Int) = sTb w n S x
theorem pPr_bd {w u : Int → Int} {n S : Nat} (h : pPr w u n S) (hS : S ≤ 256) : ∀ x : Nat, x < S → 0 ≤ u (x : Int) ∧ u (x : Int) ≤ 60 * x := fun x hx => by rw [h x hx]; exact sTb_bd S hS x
theorem pPr_S {w u : Int → Int} {n S : Nat} (h : pPr w u n S) (h0 : 0 < S ∧ S < 256) : pPr w (wS u (S : Int) (sPx w (fun x => u (x : Int)) S (n + 1))) n (S + 1) := by
  intro x hx
  rw [sTb]
  by_cases e : x = S
  · subst e
    rw [wS_at, if_pos rfl, if_neg (by omega)]
    exact sPx_cg h0 (fun y hy => h y hy) (n + 1)
  · rw [wS_ne _ _ _ (by omega), if_neg e]
    exact h x (by omega)
theorem pPr_1 (w u : Int → Int) (n : Nat) : pPr w (wS u 0 0) n 1 := by
  intro x hx
  rw [sTb, if_pos (by omega), if_pos rfl, show x = 0 by omega]
  exact wS_at _ _ _
def xPr (m : Nat) (z : Nat) (T : Nat → Nat × Int) (F : Nat → Nat → Int) (I : Nat → Int → Int) (w : Int → Int) (P : Nat → Nat → Option Nat) (Y : Nat → Int → Option Nat) (n : Nat) : Option Value → xH → Prop :=
  fun v h' => v = none ∧ ∃ u : Int → Int, pPr w u n (2 ^ n) ∧ h' = (z, T, F, upA (upA I (m + 11) u) (m + 1) w, P, Y)
theorem dX12_alikeOf_0 : decode cX12_alikeOf 0 = .ok (.iconst 0, 1) := by decide +kernel
theorem dX12_alikeOf_1 : decode cX12_alikeOf 1 = .ok (.istore_n 3, 1) := by decide +kernel
theorem dX12_alikeOf_2 : decode cX12_alikeOf 2 = .ok (.iconst 0, 1) := by decide +kernel
theorem dX12_alikeOf_3 : decode cX12_alikeOf 3 = .ok (.istore 4, 2) := by decide +kernel
theorem dX12_alikeOf_5 : decode cX12_alikeOf 5 = .ok (.iload 4, 2) := by decide +kernel
theorem dX12_alikeOf_7 : decode cX12_alikeOf 7 = .ok (.bipush 60, 2) := by decide +kernel
theorem dX12_alikeOf_9 : decode cX12_alikeOf 9 = .ok (.if_icmp .ge 49, 3) := by decide +kernel
theorem dX12_alikeOf_12 : decode cX12_alikeOf 12 = .ok (.iload_n 3, 1) := by decide +kernel
theorem dX12_alikeOf_13 : decode cX12_alikeOf 13 = .ok (.aload_n 0, 1) := by decide +kernel
theorem dX12_alikeOf_14 : decode cX12_alikeOf 14 = .ok (.getfield 13, 3) := by decide +kernel
theorem dX12_alikeOf_17 : decode cX12_alikeOf 17 = .ok (.iload_n 1, 1) := by decide +kernel
theorem dX12_alikeOf_18 : decode cX12_alikeOf 18 = .ok (.invokestatic 133, 3) := by decide +kernel
theorem dX12_alikeOf_21 : decode cX12_alikeOf 21 = .ok (.iload 4, 2) := by decide +kernel
theorem dX12_alikeOf_23 : decode cX12_alikeOf 23 = .ok (.iadd, 1) := by decide +kernel
theorem dX12_alikeOf_24 : decode cX12_alikeOf 24 = .ok (.iaload, 1) := by decide +kernel
theorem dX12_alikeOf_25 : decode cX12_alikeOf 25 = .ok (.iconst (-1), 1) := by decide +kernel
theorem dX12_alikeOf_26 : decode cX12_alikeOf 26 = .ok (.if_icmp .eq 23, 3) := by decide +kernel
theorem dX12_alikeOf_29 : decode cX12_alikeOf 29 = .ok (.aload_n 0, 1) := by decide +kernel
theorem dX12_alikeOf_30 : decode cX12_alikeOf 30 = .ok (.getfield 13, 3) := by decide +kernel
theorem dX12_alikeOf_33 : decode cX12_alikeOf 33 = .ok (.iload_n 2, 1) := by decide +kernel
theorem dX12_alikeOf_34 : decode cX12_alikeOf 34 = .ok (.invokestatic 133, 3) := by decide +kernel
theorem dX12_alikeOf_37 : decode cX12_alikeOf 37 = .ok (.iload 4, 2) := by decide +kernel
theorem dX12_alikeOf_39 : decode cX12_alikeOf 39 = .ok (.iadd, 1) := by decide +kernel
theorem dX12_alikeOf_40 : decode cX12_alikeOf 40 = .ok (.iaload, 1) := by decide +kernel
theorem dX12_alikeOf_41 : decode cX12_alikeOf 41 = .ok (.iconst (-1), 1) := by decide +kernel
theorem dX12_alikeOf_42 : decode cX12_alikeOf 42 = .ok (.if_icmp .eq 7, 3) := by decide +kernel
theorem dX12_alikeOf_45 : decode cX12_alikeOf 45 = .ok (.iconst 1, 1) := by decide +kernel
theorem dX12_alikeOf_46 : decode cX12_alikeOf 46 = .ok (.goto 4, 3) := by decide +kernel
theorem dX12_alikeOf_49 : decode cX12_alikeOf 49 = .ok (.iconst 0, 1) := by decide +kernel
theorem dX12_alikeOf_50 : decode cX12_alikeOf 50 = .ok (.iadd, 1) := by decide +kernel
theorem dX12_alikeOf_51 : decode cX12_alikeOf 51 = .ok (.istore_n 3, 1) := by decide +kernel
theorem dX12_alikeOf_52 : decode cX12_alikeOf 52 = .ok (.iinc 4 1, 3) := by decide +kernel
theorem dX12_alikeOf_55 : decode cX12_alikeOf 55 = .ok (.goto (-50), 3) := by decide +kernel
theorem dX12_alikeOf_58 : decode cX12_alikeOf 58 = .ok (.iload_n 3, 1) := by decide +kernel
theorem dX12_alikeOf_59 : decode cX12_alikeOf 59 = .ok (.ireturn, 1) := by decide +kernel
set_option maxHeartbeats 4000000 in
set_option maxRecDepth 100000 in
theorem ct_X12_alikeOf {E : xE} {z : Nat} {T : Nat → Nat × Int} {F : Nat → Nat → Int} {I : Nat → Int → Int} {P : Nat → Nat → Option Nat} {Y : Nat → Int → Option Nat} {m : Nat} {w : Int → Int} (hw : wM T P m)(hR : w32 w){a b : Int} (hab : 0 ≤ a ∧ a < 12 ∧ 0 ≤ b ∧ b < 12) : Ct E 2 mX12_alikeOf 0 0 [.ref m, J a, J b] (z, T, F, upA I (m + 1) w, P, Y) (xd (some (J (sAlk w a b))) (z, T, F, upA I (m + 1) w, P, Y)) := by
  obtain ⟨⟨q0, q1, q2, q3⟩, -⟩ := id hw
  refine Ct.of [some (.ref m), some (J a), some (J b), none, none] kt_X12_alikeOf rfl (Nat.le_of_ble_eq_true rfl) rfl (fun d hd => ?_)
  generalize hX : xN E _ _ _ = X
  refine xg_iconst 1 dX12_alikeOf_0 rfl ?_
  refine xg_istoren 2 _ dX12_alikeOf_1 rfl rfl rfl (by decide) (Or.inr rfl) ?_
  refine xg_iconst 3 dX12_alikeOf_2 rfl ?_
  refine xg_istore 5 _ dX12_alikeOf_3 rfl rfl (by decide) (Or.inr rfl) ?_
  have loop5 : ∀ (mm : Nat) (k : Nat) (n : Int), k ≤ 60 → n = pSum (fun k => if w (201 + 122 * a + k) = -1 then 0 else if w (201 + 122 * b + k) = -1 then 0 else 1) k → 60 - (k : Int) < (mm : Int) → xG E mX12_alikeOf (xR d 0 0) X 5 [some (.ref m), some (J a), some (J b), some (J n), some (J (k : Int))] [] (z, T, F, upA I (m + 1) w, P, Y) 0 0 := by
    intro mm
    induction mm with
    | zero => intro k n hk hn hm; exfalso; omega
    | succ mm ih =>
      intro k n hk hn hm
      refine xg_iload 7 dX12_alikeOf_5 rfl rfl ?_
      refine xg_bipush 9 dX12_alikeOf_7 rfl (by decide) ?_
      refine xg_icge 58 12 dX12_alikeOf_9 rfl rfl (by first | omega | exact hR _ | exact ⟨hR _, by omega⟩ | exact ⟨by omega, hR _⟩ | exact ⟨hR _, hR _⟩) (fun hb9 => ?_) (fun hb9 => ?_)
      · skip
        refine xg_iloadn 59 dX12_alikeOf_58 rfl rfl rfl ?_
        subst hX
        exact xg_ireturn dX12_alikeOf_59 rfl ⟨Nat.le_refl _, Nat.le_refl _⟩ ⟨by rw [hn, show k = 60 by omega]; rfl, rfl⟩
      · skip
        refine xg_iloadn 13 dX12_alikeOf_12 rfl rfl rfl ?_
        refine xg_aloadn 14 dX12_alikeOf_13 rfl rfl rfl ?_
        refine xg_getP 17 kf_RX12_13 dX12_alikeOf_14 rfl (by assumption) (by assumption) ?_
        refine xg_iloadn 18 dX12_alikeOf_17 rfl rfl rfl ?_
        refine xg_callS 21 [_] _ ks_X12_rowOf kl_RX12_133 dX12_alikeOf_18 rfl rfl rfl (Nat.le_of_ble_eq_true rfl) (by omega) ⟨Nat.le_refl _, Nat.le_refl _⟩ (ct_X12_rowOf) rfl ?_
        refine xg_iload 23 dX12_alikeOf_21 rfl rfl ?_
        refine xg_iadd 24 dX12_alikeOf_23 rfl ?_
        refine xg_ialdW 25 dX12_alikeOf_24 rfl (by assumption) (by first | omega | exact hR _ | exact ⟨hR _, by omega⟩ | exact ⟨by omega, hR _⟩ | exact ⟨hR _, hR _⟩) ?_
        refine xg_iconst 26 dX12_alikeOf_25 rfl ?_
        refine xg_iceq 49 29 dX12_alikeOf_26 rfl rfl (by first | omega | exact hR _ | exact ⟨hR _, by omega⟩ | exact ⟨by omega, hR _⟩ | exact ⟨hR _, hR _⟩) (fun hb26 => ?_) (fun hb26 => ?_)
        · skip
          refine xg_iconst 50 dX12_alikeOf_49 rfl ?_
          refine xg_iadd 51 dX12_alikeOf_50 rfl ?_
          refine xg_istoren 52 _ dX12_alikeOf_51 rfl rfl rfl (by decide) (Or.inr rfl) ?_
          refine xg_iinc 55 _ dX12_alikeOf_52 rfl rfl rfl rfl (by decide) (Or.inr rfl) ?_
          refine xg_goto 5 dX12_alikeOf_55 rfl ?_
          exact xg_weak _ (xle_s rfl (xle_s rfl (xle_s rfl (xle_s rfl (xle_s rfl xle_0))))) (ih (k + 1) _ (by omega) (by rw [pSum_s, hn, if_pos hb26]) (by omega))
        · skip
          refine xg_aloadn 30 dX12_alikeOf_29 rfl rfl rfl ?_
          refine xg_getP 33 kf_RX12_13 dX12_alikeOf_30 rfl (by assumption) (by assumption) ?_
          refine xg_iloadn 34 dX12_alikeOf_33 rfl rfl rfl ?_
          refine xg_callS 37 [_] _ ks_X12_rowOf kl_RX12_133 dX12_alikeOf_34 rfl rfl rfl (Nat.le_of_ble_eq_true rfl) (by omega) ⟨Nat.le_refl _, Nat.le_refl _⟩ (ct_X12_rowOf) rfl ?_
          refine xg_iload 39 dX12_alikeOf_37 rfl rfl ?_
          refine xg_iadd 40 dX12_alikeOf_39 rfl ?_
          refine xg_ialdW 41 dX12_alikeOf_40 rfl (by assumption) (by first | omega | exact hR _ | exact ⟨hR _, by omega⟩ | exact ⟨by omega, hR _⟩ | exact ⟨hR _, hR _⟩) ?_
          refine xg_iconst 42 dX12_alikeOf_41 rfl ?_
          refine xg_iceq 49 45 dX12_alikeOf_42 rfl rfl (by first | omega | exact hR _ | exact ⟨hR _, by omega⟩ | exact ⟨by omega, hR _⟩ | exact ⟨hR _, hR _⟩) (fun hb42 => ?_) (fun hb42 => ?_)
          · skip
            refine xg_iconst 50 dX12_alikeOf_49 rfl ?_
            refine xg_iadd 51 dX12_alikeOf_50 rfl ?_
            refine xg_istoren 52 _ dX12_alikeOf_51 rfl rfl rfl (by decide) (Or.inr rfl) ?_
            refine xg_iinc 55 _ dX12_alikeOf_52 rfl rfl rfl rfl (by decide) (Or.inr rfl) ?_
            refine xg_goto 5 dX12_alikeOf_55 rfl ?_
            exact xg_weak _ (xle_s rfl (xle_s rfl (xle_s rfl (xle_s rfl (xle_s rfl xle_0))))) (ih (k + 1) _ (by omega) (by rw [pSum_s, hn, if_neg hb26, if_pos hb42]) (by omega))
          · skip
            refine xg_iconst 46 dX12_alikeOf_45 rfl ?_
            refine xg_goto 50 dX12_alikeOf_46 rfl ?_
            refine xg_iadd 51 dX12_alikeOf_50 rfl ?_
            refine xg_istoren 52 _ dX12_alikeOf_51 rfl rfl rfl (by decide) (Or.inr rfl) ?_
            refine xg_iinc 55 _ dX12_alikeOf_52 rfl rfl rfl rfl (by decide) (Or.inr rfl) ?_
            refine xg_goto 5 dX12_alikeOf_55 rfl ?_
            exact xg_weak _ (xle_s rfl (xle_s rfl (xle_s rfl (xle_s rfl (xle_s rfl xle_0))))) (ih (k + 1) _ (by omega) (by rw [pSum_s, hn, if_neg hb26, if_neg hb42]) (by omega))
  exact xg_weak _ (xle_s rfl (xle_s rfl (xle_s rfl (xle_s rfl (xle_s rfl xle_0))))) (loop5 61 0 0 (by omega) rfl (by omega))

theorem dX12_pairedBy_0 : decode cX12_pairedBy 0 = .ok (.iload_n 1, 1) := by decide +kernel
theorem dX12_pairedBy_1 : decode cX12_pairedBy 1 = .ok (.invokestatic 428, 3) := by decide +kernel
theorem dX12_pairedBy_4 : decode cX12_pairedBy 4 = .ok (.istore_n 3, 1) := by decide +kernel
theorem dX12_pairedBy_5 : decode cX12_pairedBy 5 = .ok (.iload_n 1, 1) := by decide +kernel
theorem dX12_pairedBy_6 : decode cX12_pairedBy 6 = .ok (.iconst 1, 1) := by decide +kernel
theorem dX12_pairedBy_7 : decode cX12_pairedBy 7 = .ok (.iload_n 3, 1) := by decide +kernel
theorem dX12_pairedBy_8 : decode cX12_pairedBy 8 = .ok (.ishl, 1) := by decide +kernel
theorem dX12_pairedBy_9 : decode cX12_pairedBy 9 = .ok (.iconst (-1), 1) := by decide +kernel
theorem dX12_pairedBy_10 : decode cX12_pairedBy 10 = .ok (.ixor, 1) := by decide +kernel
theorem dX12_pairedBy_11 : decode cX12_pairedBy 11 = .ok (.iand, 1) := by decide +kernel
theorem dX12_pairedBy_12 : decode cX12_pairedBy 12 = .ok (.istore 4, 2) := by decide +kernel
theorem dX12_pairedBy_14 : decode cX12_pairedBy 14 = .ok (.iload_n 2, 1) := by decide +kernel
theorem dX12_pairedBy_15 : decode cX12_pairedBy 15 = .ok (.iconst (-1), 1) := by decide +kernel
theorem dX12_pairedBy_16 : decode cX12_pairedBy 16 = .ok (.if_icmp .ne 11, 3) := by decide +kernel
theorem dX12_pairedBy_19 : decode cX12_pairedBy 19 = .ok (.aload_n 0, 1) := by decide +kernel
theorem dX12_pairedBy_20 : decode cX12_pairedBy 20 = .ok (.getfield 48, 3) := by decide +kernel
theorem dX12_pairedBy_23 : decode cX12_pairedBy 23 = .ok (.iload 4, 2) := by decide +kernel
theorem dX12_pairedBy_25 : decode cX12_pairedBy 25 = .ok (.iaload, 1) := by decide +kernel
theorem dX12_pairedBy_26 : decode cX12_pairedBy 26 = .ok (.ireturn, 1) := by decide +kernel
theorem dX12_pairedBy_27 : decode cX12_pairedBy 27 = .ok (.iload 4, 2) := by decide +kernel
theorem dX12_pairedBy_29 : decode cX12_pairedBy 29 = .ok (.iload_n 2, 1) := by decide +kernel
theorem dX12_pairedBy_30 : decode cX12_pairedBy 30 = .ok (.invokestatic 287, 3) := by decide +kernel
theorem dX12_pairedBy_33 : decode cX12_pairedBy 33 = .ok (.ifCond .eq 26, 3) := by decide +kernel
theorem dX12_pairedBy_36 : decode cX12_pairedBy 36 = .ok (.aload_n 0, 1) := by decide +kernel
theorem dX12_pairedBy_37 : decode cX12_pairedBy 37 = .ok (.iload_n 3, 1) := by decide +kernel
theorem dX12_pairedBy_38 : decode cX12_pairedBy 38 = .ok (.iload_n 2, 1) := by decide +kernel
theorem dX12_pairedBy_39 : decode cX12_pairedBy 39 = .ok (.invokevirtual 446, 3) := by decide +kernel
theorem dX12_pairedBy_42 : decode cX12_pairedBy 42 = .ok (.aload_n 0, 1) := by decide +kernel
theorem dX12_pairedBy_43 : decode cX12_pairedBy 43 = .ok (.getfield 48, 3) := by decide +kernel
theorem dX12_pairedBy_46 : decode cX12_pairedBy 46 = .ok (.iload 4, 2) := by decide +kernel
theorem dX12_pairedBy_48 : decode cX12_pairedBy 48 = .ok (.iconst 1, 1) := by decide +kernel
theorem dX12_pairedBy_49 : decode cX12_pairedBy 49 = .ok (.iload_n 2, 1) := by decide +kernel
theorem dX12_pairedBy_50 : decode cX12_pairedBy 50 = .ok (.ishl, 1) := by decide +kernel
theorem dX12_pairedBy_51 : decode cX12_pairedBy 51 = .ok (.iconst (-1), 1) := by decide +kernel
theorem dX12_pairedBy_52 : decode cX12_pairedBy 52 = .ok (.ixor, 1) := by decide +kernel
theorem dX12_pairedBy_53 : decode cX12_pairedBy 53 = .ok (.iand, 1) := by decide +kernel
theorem dX12_pairedBy_54 : decode cX12_pairedBy 54 = .ok (.iaload, 1) := by decide +kernel
theorem dX12_pairedBy_55 : decode cX12_pairedBy 55 = .ok (.iadd, 1) := by decide +kernel
theorem dX12_pairedBy_56 : decode cX12_pairedBy 56 = .ok (.goto 4, 3) := by decide +kernel
theorem dX12_pairedBy_59 : decode cX12_pairedBy 59 = .ok (.iconst (-1), 1) := by decide +kernel
theorem dX12_pairedBy_60 : decode cX12_pairedBy 60 = .ok (.ireturn, 1) := by decide +kernel
set_option maxHeartbeats 4000000 in
set_option maxRecDepth 100000 in
theorem ct_X12_pairedBy {E : xE} {z : Nat} {T : Nat → Nat × Int} {F : Nat → Nat → Int} {I : Nat → Int → Int} {P : Nat → Nat → Option Nat} {Y : Nat → Int → Option Nat} {m : Nat} {w : Int → Int} (hw : wM T P m) (hO : wOk w){s : Nat} {p : Int} (hs : 0 < s ∧ s < 256) (hp : -1 ≤ p ∧ p < 8) : Ct E 3 mX12_pairedBy 0 0 [.ref m, J (s : Int), J p] (z, T, F, upA I (m + 1) w, P, Y) (xd (some (J (sPb w (fun x => I (m + 11) (x : Int)) s p))) (z, T, F, upA I (m + 1) w, P, Y)) := by
  obtain ⟨⟨q0, q1, q2, q3⟩, -, -, -, -, -, -, -, -, -, ⟨v1, v2, v3⟩⟩ := id hw
  have v4 : m + 11 ≠ m + 1 := by omega
  obtain ⟨hR, o0, o1, o2, o3, o4, o5, o6, oc, o13, o14, o16, o17, o18, ov⟩ := id hO
  have hN := wN_i o0.1
  have nf := nF_e hs
  have nd := nDel_le (nDel s (nF s)) p.toNat
  refine Ct.of [some (.ref m), some (J (s : Int)), some (J p), none, none] kt_X12_pairedBy rfl (Nat.le_of_ble_eq_true rfl) rfl (fun d hd => ?_)
  generalize hX : xN E _ _ _ = X
  refine xg_iloadn 1 dX12_pairedBy_0 rfl rfl rfl ?_
  refine xg_callS 4 [_] _ ks_X12_firstOf kl_RX12_428 dX12_pairedBy_1 rfl rfl rfl (Nat.le_of_ble_eq_true rfl) (by omega) ⟨Nat.le_refl _, Nat.le_refl _⟩ (ct_X12_firstOf (by omega)) rfl ?_
  rw [nf.1]
  refine xg_istoren 5 _ dX12_pairedBy_4 rfl rfl rfl (by decide) (Or.inr rfl) ?_
  refine xg_iloadn 6 dX12_pairedBy_5 rfl rfl rfl ?_
  refine xg_iconst 7 dX12_pairedBy_6 rfl ?_
  refine xg_iloadn 8 dX12_pairedBy_7 rfl rfl rfl ?_
  refine xg_ishl 9 dX12_pairedBy_8 rfl ?_
  refine xg_iconst 10 dX12_pairedBy_9 rfl ?_
  refine xg_ixor 11 dX12_pairedBy_10 rfl ?_
  refine xg_iand 12 dX12_pairedBy_11 rfl ?_
  rw [nDel_e hs.2 nf.2.1]
  refine xg_istore 14 _ dX12_pairedBy_12 rfl rfl (by decide) (Or.inr rfl) ?_
  refine xg_iloadn 15 dX12_pairedBy_14 rfl rfl rfl ?_
  refine xg_iconst 16 dX12_pairedBy_15 rfl ?_
  refine xg_icne 27 19 dX12_pairedBy_16 rfl rfl (by first | omega | exact hR _ | exact ⟨hR _, by omega⟩ | exact ⟨by omega, hR _⟩ | exact ⟨hR _, hR _⟩) (fun hb16 => ?_) (fun hb16 => ?_)
  · skip
    obtain ⟨r, rfl⟩ : ∃ r : Nat, p = (r : Int) := ⟨p.toNat, by omega⟩
    rw [Int.toNat_natCast] at nd
    refine xg_iload 29 dX12_pairedBy_27 rfl rfl ?_
    refine xg_iloadn 30 dX12_pairedBy_29 rfl rfl rfl ?_
    refine xg_callS 33 [_, _] _ ks_X12_has kl_RX12_287 dX12_pairedBy_30 rfl rfl rfl (Nat.le_of_ble_eq_true rfl) (by omega) ⟨Nat.le_refl _, Nat.le_refl _⟩ (ct_X12_has (by omega) (by omega)) rfl ?_
    refine xg_beq 59 36 dX12_pairedBy_33 rfl rfl (fun hb33 => ?_) (fun hb33 => ?_)
    · skip
      refine xg_iconst 60 dX12_pairedBy_59 rfl ?_
      subst hX
      exact xg_ireturn dX12_pairedBy_60 rfl ⟨Nat.le_refl _, Nat.le_refl _⟩ ⟨by unfold sPb; rw [if_neg (by assumption), Int.toNat_natCast, if_neg (by rw [hb33]; decide)], rfl⟩
    · skip
      refine xg_aloadn 37 dX12_pairedBy_36 rfl rfl rfl ?_
      refine xg_iloadn 38 dX12_pairedBy_37 rfl rfl rfl ?_
      refine xg_iloadn 39 dX12_pairedBy_38 rfl rfl rfl ?_
      refine xg_callV 42 12 [_, _] _ kv_X12_alikeOf ⟨_, _, rfl⟩ kl_RX12_446 dX12_pairedBy_39 rfl (by assumption) (by omega) rfl rfl (Nat.le_of_ble_eq_true rfl) (by omega) ⟨Nat.le_refl _, Nat.le_refl _⟩ (ct_X12_alikeOf hw hR (by omega)) rfl ?_
      refine xg_aloadn 43 dX12_pairedBy_42 rfl rfl rfl ?_
      refine xg_getP 46 kf_RX12_48 dX12_pairedBy_43 rfl (by assumption) (by assumption) ?_
      refine xg_iload 48 dX12_pairedBy_46 rfl rfl ?_
      refine xg_iconst 49 dX12_pairedBy_48 rfl ?_
      refine xg_iloadn 50 dX12_pairedBy_49 rfl rfl rfl ?_
      refine xg_ishl 51 dX12_pairedBy_50 rfl ?_
      refine xg_iconst 52 dX12_pairedBy_51 rfl ?_
      refine xg_ixor 53 dX12_pairedBy_52 rfl ?_
      refine xg_iand 54 dX12_pairedBy_53 rfl ?_
      rw [nDel_e (by omega) (by omega)]
      refine xg_ialdV 55 dX12_pairedBy_54 rfl ⟨v2, v4⟩ (by first | omega | exact hR _ | exact ⟨hR _, by omega⟩ | exact ⟨by omega, hR _⟩ | exact ⟨hR _, hR _⟩) ?_
      refine xg_iadd 56 dX12_pairedBy_55 rfl ?_
      refine xg_goto 60 dX12_pairedBy_56 rfl ?_
      subst hX
      exact xg_ireturn dX12_pairedBy_60 rfl ⟨Nat.le_refl _, Nat.le_refl _⟩ ⟨by unfold sPb; rw [if_neg (by assumption), Int.toNat_natCast, if_pos hb33], rfl⟩
  · skip
    refine xg_aloadn 20 dX12_pairedBy_19 rfl rfl rfl ?_
    refine xg_getP 23 kf_RX12_48 dX12_pairedBy_20 rfl (by assumption) (by assumption) ?_
    refine xg_iload 25 dX12_pairedBy_23 rfl rfl ?_
    refine xg_ialdV 26 dX12_pairedBy_25 rfl ⟨v2, v4⟩ (by first | omega | exact hR _ | exact ⟨hR _, by omega⟩ | exact ⟨by omega, hR _⟩ | exact ⟨hR _, hR _⟩) ?_
    subst hX
    exact xg_ireturn dX12_pairedBy_26 rfl ⟨Nat.le_refl _, Nat.le_refl _⟩ ⟨by unfold sPb; rw [if_pos (by assumption)], rfl⟩

theorem dX12_laysPairs_0 : decode cX12_laysPairs 0 = .ok (.aload_n 0, 1) := by decide +kernel
theorem dX12_laysPairs_1 : decode cX12_laysPairs 1 = .ok (.getfield 48, 3) := by decide +kernel
theorem dX12_laysPairs_4 : decode cX12_laysPairs 4 = .ok (.iconst 0, 1) := by decide +kernel
theorem dX12_laysPairs_5 : decode cX12_laysPairs 5 = .ok (.iconst 0, 1) := by decide +kernel
theorem dX12_laysPairs_6 : decode cX12_laysPairs 6 = .ok (.iastore, 1) := by decide +kernel
theorem dX12_laysPairs_7 : decode cX12_laysPairs 7 = .ok (.iconst 1, 1) := by decide +kernel
theorem dX12_laysPairs_8 : decode cX12_laysPairs 8 = .ok (.istore_n 2, 1) := by decide +kernel
theorem dX12_laysPairs_9 : decode cX12_laysPairs 9 = .ok (.iload_n 2, 1) := by decide +kernel
theorem dX12_laysPairs_10 : decode cX12_laysPairs 10 = .ok (.iconst 1, 1) := by decide +kernel
theorem dX12_laysPairs_11 : decode cX12_laysPairs 11 = .ok (.iload_n 1, 1) := by decide +kernel
theorem dX12_laysPairs_12 : decode cX12_laysPairs 12 = .ok (.ishl, 1) := by decide +kernel
theorem dX12_laysPairs_13 : decode cX12_laysPairs 13 = .ok (.if_icmp .ge 45, 3) := by decide +kernel
theorem dX12_laysPairs_16 : decode cX12_laysPairs 16 = .ok (.iconst 0, 1) := by decide +kernel
theorem dX12_laysPairs_17 : decode cX12_laysPairs 17 = .ok (.istore_n 3, 1) := by decide +kernel
theorem dX12_laysPairs_18 : decode cX12_laysPairs 18 = .ok (.iconst (-1), 1) := by decide +kernel
theorem dX12_laysPairs_19 : decode cX12_laysPairs 19 = .ok (.istore 4, 2) := by decide +kernel
theorem dX12_laysPairs_21 : decode cX12_laysPairs 21 = .ok (.iload 4, 2) := by decide +kernel
theorem dX12_laysPairs_23 : decode cX12_laysPairs 23 = .ok (.iload_n 1, 1) := by decide +kernel
theorem dX12_laysPairs_24 : decode cX12_laysPairs 24 = .ok (.if_icmp .ge 21, 3) := by decide +kernel
theorem dX12_laysPairs_27 : decode cX12_laysPairs 27 = .ok (.iload_n 3, 1) := by decide +kernel
theorem dX12_laysPairs_28 : decode cX12_laysPairs 28 = .ok (.aload_n 0, 1) := by decide +kernel
theorem dX12_laysPairs_29 : decode cX12_laysPairs 29 = .ok (.iload_n 2, 1) := by decide +kernel
theorem dX12_laysPairs_30 : decode cX12_laysPairs 30 = .ok (.iload 4, 2) := by decide +kernel
theorem dX12_laysPairs_32 : decode cX12_laysPairs 32 = .ok (.invokevirtual 449, 3) := by decide +kernel
theorem dX12_laysPairs_35 : decode cX12_laysPairs 35 = .ok (.invokestatic 343, 3) := by decide +kernel
theorem dX12_laysPairs_38 : decode cX12_laysPairs 38 = .ok (.istore_n 3, 1) := by decide +kernel
theorem dX12_laysPairs_39 : decode cX12_laysPairs 39 = .ok (.iinc 4 1, 3) := by decide +kernel
theorem dX12_laysPairs_42 : decode cX12_laysPairs 42 = .ok (.goto (-21), 3) := by decide +kernel
theorem dX12_laysPairs_45 : decode cX12_laysPairs 45 = .ok (.aload_n 0, 1) := by decide +kernel
theorem dX12_laysPairs_46 : decode cX12_laysPairs 46 = .ok (.getfield 48, 3) := by decide +kernel
theorem dX12_laysPairs_49 : decode cX12_laysPairs 49 = .ok (.iload_n 2, 1) := by decide +kernel
theorem dX12_laysPairs_50 : decode cX12_laysPairs 50 = .ok (.iload_n 3, 1) := by decide +kernel
theorem dX12_laysPairs_51 : decode cX12_laysPairs 51 = .ok (.iastore, 1) := by decide +kernel
theorem dX12_laysPairs_52 : decode cX12_laysPairs 52 = .ok (.iinc 2 1, 3) := by decide +kernel
theorem dX12_laysPairs_55 : decode cX12_laysPairs 55 = .ok (.goto (-46), 3) := by decide +kernel
theorem dX12_laysPairs_58 : decode cX12_laysPairs 58 = .ok (.return_, 1) := by decide +kernel
set_option maxHeartbeats 4000000 in
set_option maxRecDepth 100000 in
theorem ct_X12_laysPairs {E : xE} {z : Nat} {T : Nat → Nat × Int} {F : Nat → Nat → Int} {I : Nat → Int → Int} {P : Nat → Nat → Option Nat} {Y : Nat → Int → Option Nat} {m : Nat} {w : Int → Int} (hw : wM T P m) (hO : wOk w) {n : Nat} (hn8 : n ≤ 8) : Ct E 4 mX12_laysPairs 0 0 [.ref m, J (n : Int)] (z, T, F, upA I (m + 1) w, P, Y) (xPr m z T F I w P Y n) := by
  obtain ⟨⟨q0, q1, q2, q3⟩, -, -, -, -, -, -, -, -, -, ⟨v1, v2, v3⟩⟩ := id hw
  have v4 : m + 11 ≠ m + 1 := by omega
  obtain ⟨hR, o0, o1, o2, o3, o4, o5, o6, oc, o13, o14, o16, o17, o18, ov⟩ := id hO
  have hN := wN_i o0.1
  have hn9 : 2 ^ n ≤ 256 := Nat.le_trans (Nat.pow_le_pow_right (by omega) hn8) (by decide)
  have hn0 : 0 < 2 ^ n := Nat.pow_pos (by omega)
  refine Ct.of [some (.ref m), some (J (n : Int)), none, none, none] kt_X12_laysPairs rfl (Nat.le_of_ble_eq_true rfl) rfl (fun d hd => ?_)
  generalize hX : xN E _ _ _ = X
  refine xg_own (m + 11) (m + 1) ?_
  refine xg_aloadn 1 dX12_laysPairs_0 rfl rfl rfl ?_
  refine xg_getP 4 kf_RX12_48 dX12_laysPairs_1 rfl (by assumption) (by assumption) ?_
  refine xg_iconst 5 dX12_laysPairs_4 rfl ?_
  refine xg_iconst 6 dX12_laysPairs_5 rfl ?_
  refine xg_iastU 7 dX12_laysPairs_6 rfl ⟨v2, v4⟩ (by first | omega | exact hR _ | exact ⟨hR _, by omega⟩ | exact ⟨by omega, hR _⟩ | exact ⟨hR _, hR _⟩) ?_
  refine xg_iconst 8 dX12_laysPairs_7 rfl ?_
  refine xg_istoren 9 _ dX12_laysPairs_8 rfl rfl rfl (by decide) (Or.inr rfl) ?_
  have loop9 : ∀ (mm : Nat) (S : Nat) (u : Int → Int), (0 < S ∧ S ≤ 2 ^ n) → pPr w u n S → ((2 ^ n : Nat) : Int) - S < (mm : Int) → xG E mX12_laysPairs (xR d 0 0) X 9 [some (.ref m), some (J (n : Int)), some (J (S : Int)), none, none] [] (z, T, F, upA (upA I (m + 11) u) (m + 1) w, P, Y) 0 0 := by
    intro mm
    induction mm with
    | zero => intro S u hS hp hm; exfalso; omega
    | succ mm ih =>
      intro S u hS hp hm
      refine xg_iloadn 10 dX12_laysPairs_9 rfl rfl rfl ?_
      refine xg_iconst 11 dX12_laysPairs_10 rfl ?_
      refine xg_iloadn 12 dX12_laysPairs_11 rfl rfl rfl ?_
      refine xg_ishl 13 dX12_laysPairs_12 rfl ?_
      rw [xshl1' (by omega)]
      refine xg_icge 58 16 dX12_laysPairs_13 rfl rfl (by first | omega | exact hR _ | exact ⟨hR _, by omega⟩ | exact ⟨by omega, hR _⟩ | exact ⟨hR _, hR _⟩) (fun hb13 => ?_) (fun hb13 => ?_)
      · skip
        subst hX
        exact xg_return dX12_laysPairs_58 rfl ⟨Nat.le_refl _, Nat.le_refl _⟩ ⟨rfl, u, by rw [show 2 ^ n = S by omega]; exact hp, rfl⟩
      · skip
        refine xg_iconst 17 dX12_laysPairs_16 rfl ?_
        refine xg_istoren 18 _ dX12_laysPairs_17 rfl rfl rfl (by decide) (Or.inr rfl) ?_
        refine xg_iconst 19 dX12_laysPairs_18 rfl ?_
        refine xg_istore 21 _ dX12_laysPairs_19 rfl rfl (by decide) (Or.inr rfl) ?_
        have loop21 : ∀ (mm : Nat) (j : Nat), (j ≤ n + 1) → (n : Int) + 1 - j < (mm : Int) → xG E mX12_laysPairs (xR d 0 0) X 21 [some (.ref m), some (J (n : Int)), some (J (S : Int)), some (J (sPx w (fun x => u (x : Int)) S j)), some (J ((j : Int) - 1))] [] (z, T, F, upA (upA I (m + 11) u) (m + 1) w, P, Y) 0 0 := by
          intro mm
          induction mm with
          | zero => intro j hj hm; exfalso; omega
          | succ mm ih2 =>
            intro j hj hm
            have hbb := sPx_bd (w := w) (t := fun x => u (x : Int)) (s := S) ⟨hS.1, by omega⟩ (pPr_bd hp (by omega)) j
            have hb2 := sPb_bd (w := w) (t := fun x => u (x : Int)) (s := S) ⟨hS.1, by omega⟩ (pPr_bd hp (by omega)) ((j : Int) - 1)
            refine xg_iload 23 dX12_laysPairs_21 rfl rfl ?_
            refine xg_iloadn 24 dX12_laysPairs_23 rfl rfl rfl ?_
            refine xg_icge 45 27 dX12_laysPairs_24 rfl rfl (by first | omega | exact hR _ | exact ⟨hR _, by omega⟩ | exact ⟨by omega, hR _⟩ | exact ⟨hR _, hR _⟩) (fun hb24 => ?_) (fun hb24 => ?_)
            · skip
              refine xg_aloadn 46 dX12_laysPairs_45 rfl rfl rfl ?_
              refine xg_getP 49 kf_RX12_48 dX12_laysPairs_46 rfl (by assumption) (by assumption) ?_
              refine xg_iloadn 50 dX12_laysPairs_49 rfl rfl rfl ?_
              refine xg_iloadn 51 dX12_laysPairs_50 rfl rfl rfl ?_
              refine xg_iastU 52 dX12_laysPairs_51 rfl ⟨v2, v4⟩ (by first | omega | exact hR _ | exact ⟨hR _, by omega⟩ | exact ⟨by omega, hR _⟩ | exact ⟨hR _, hR _⟩) ?_
              refine xg_iinc 55 _ dX12_laysPairs_52 rfl rfl rfl rfl (by decide) (Or.inr rfl) ?_
              refine xg_goto 9 dX12_laysPairs_55 rfl ?_
              exact xg_weak _ (xle_s rfl (xle_s rfl (xle_s rfl (xle_n (xle_n xle_0))))) (ih (S + 1) _ (by omega) (by rw [show j = n + 1 by omega]; exact pPr_S hp (by omega)) (by omega))
            · skip
              refine xg_iloadn 28 dX12_laysPairs_27 rfl rfl rfl ?_
              refine xg_aloadn 29 dX12_laysPairs_28 rfl rfl rfl ?_
              refine xg_iloadn 30 dX12_laysPairs_29 rfl rfl rfl ?_
              refine xg_iload 32 dX12_laysPairs_30 rfl rfl ?_
              refine xg_callV 35 12 [_, _] _ kv_X12_pairedBy ⟨_, _, rfl⟩ kl_RX12_449 dX12_laysPairs_32 rfl (by assumption) (by omega) rfl rfl (Nat.le_of_ble_eq_true rfl) (by omega) ⟨Nat.le_refl _, Nat.le_refl _⟩ (ct_X12_pairedBy hw hO (by omega) (by omega)) rfl ?_
              rw [upA_at]
              refine xg_mmax 38 kl_RX12_343 dX12_laysPairs_35 rfl (by first | omega | exact hR _ | exact ⟨hR _, by omega⟩ | exact ⟨by omega, hR _⟩ | exact ⟨hR _, hR _⟩) (Nat.le_of_ble_eq_true rfl) (by omega) ⟨Nat.le_refl _, Nat.le_refl _⟩ ?_
              refine xg_istoren 39 _ dX12_laysPairs_38 rfl rfl rfl (by decide) (Or.inr rfl) ?_
              refine xg_iinc 42 _ dX12_laysPairs_39 rfl rfl rfl rfl (by decide) (Or.inr rfl) ?_
              refine xg_goto 21 dX12_laysPairs_42 rfl ?_
              exact xg_weak _ (xle_s rfl (xle_s rfl (xle_s rfl (xle_s rfl (xle_s (by rw [show (j : Int) - 1 + 1 = ((j + 1 : Nat) : Int) - 1 by omega]) xle_0))))) (ih2 (j + 1) (by omega) (by omega))
        exact xg_weak _ (xle_s rfl (xle_s rfl (xle_s rfl (xle_s rfl (xle_s (by rw [show (((0 : Nat) : Int) - 1) = -1 by omega]) xle_0))))) (loop21 20 0 (by omega) (by omega))
  exact xg_weak _ (xle_s rfl (xle_s rfl (xle_s rfl (xle_n (xle_n xle_0))))) (loop9 300 1 _ (by omega) (pPr_1 w _ n) (by omega))

