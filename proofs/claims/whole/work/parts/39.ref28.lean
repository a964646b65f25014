/-- the number that k figures from b on stand for -/
def sDig (t : Int → Int) (b : Int) : Nat → Int
  | 0 => 0
  | k + 1 => 10 * sDig t b k + t (b + k) - 48
/-- the number between b and q, or -1 -/
def sNum (t : Int → Int) (b q lo hi : Int) : Int := if q = b ∨ 3 < q - b ∨ sDig t b (min 3 (q - b).toNat) < lo ∨ hi < sDig t b (min 3 (q - b).toNat) then -1 else sDig t b (min 3 (q - b).toNat)
theorem sNum_e {t : Int → Int} {b lo hi v : Int} {k : Nat} (hv : v = sDig t b (min 3 k)) : sNum t b (b + (k : Int)) lo hi = if k = 0 ∨ 3 < k ∨ v < lo ∨ hi < v then -1 else v := by
  unfold sNum
  rw [show (b + (k : Int) - b).toNat = k by omega, ← hv]
  by_cases h : k = 0 ∨ 3 < k ∨ v < lo ∨ hi < v
  · rw [if_pos h, if_pos (by omega)]
  · rw [if_neg h, if_neg (by omega)]
theorem sNum_bd {t : Int → Int} {b q lo hi : Int} (h : 0 ≤ lo ∧ lo ≤ hi) : -1 ≤ sNum t b q lo hi ∧ sNum t b q lo hi ≤ hi ∧ (sNum t b q lo hi ≠ -1 → lo ≤ sNum t b q lo hi) := by
  unfold sNum; split <;> omega
theorem dX12_number_0 : decode cX12_number 0 = .ok (.aload_n 0, 1) := by decide +kernel
theorem dX12_number_1 : decode cX12_number 1 = .ok (.invokevirtual 96, 3) := by decide +kernel
theorem dX12_number_4 : decode cX12_number 4 = .ok (.iconst 0, 1) := by decide +kernel
theorem dX12_number_5 : decode cX12_number 5 = .ok (.istore_n 3, 1) := by decide +kernel
theorem dX12_number_6 : decode cX12_number 6 = .ok (.aload_n 0, 1) := by decide +kernel
theorem dX12_number_7 : decode cX12_number 7 = .ok (.bipush 48, 2) := by decide +kernel
theorem dX12_number_9 : decode cX12_number 9 = .ok (.bipush 57, 2) := by decide +kernel
theorem dX12_number_11 : decode cX12_number 11 = .ok (.invokevirtual 89, 3) := by decide +kernel
theorem dX12_number_14 : decode cX12_number 14 = .ok (.ifCond .eq 51, 3) := by decide +kernel
theorem dX12_number_17 : decode cX12_number 17 = .ok (.aload_n 0, 1) := by decide +kernel
theorem dX12_number_18 : decode cX12_number 18 = .ok (.getfield 83, 3) := by decide +kernel
theorem dX12_number_21 : decode cX12_number 21 = .ok (.aload_n 0, 1) := by decide +kernel
theorem dX12_number_22 : decode cX12_number 22 = .ok (.getfield 93, 3) := by decide +kernel
theorem dX12_number_25 : decode cX12_number 25 = .ok (.isub, 1) := by decide +kernel
theorem dX12_number_26 : decode cX12_number 26 = .ok (.iconst 3, 1) := by decide +kernel
theorem dX12_number_27 : decode cX12_number 27 = .ok (.if_icmp .ge 23, 3) := by decide +kernel
theorem dX12_number_30 : decode cX12_number 30 = .ok (.bipush 10, 2) := by decide +kernel
theorem dX12_number_32 : decode cX12_number 32 = .ok (.iload_n 3, 1) := by decide +kernel
theorem dX12_number_33 : decode cX12_number 33 = .ok (.imul, 1) := by decide +kernel
theorem dX12_number_34 : decode cX12_number 34 = .ok (.aload_n 0, 1) := by decide +kernel
theorem dX12_number_35 : decode cX12_number 35 = .ok (.getfield 29, 3) := by decide +kernel
theorem dX12_number_38 : decode cX12_number 38 = .ok (.aload_n 0, 1) := by decide +kernel
theorem dX12_number_39 : decode cX12_number 39 = .ok (.getfield 83, 3) := by decide +kernel
theorem dX12_number_42 : decode cX12_number 42 = .ok (.baload, 1) := by decide +kernel
theorem dX12_number_43 : decode cX12_number 43 = .ok (.iadd, 1) := by decide +kernel
theorem dX12_number_44 : decode cX12_number 44 = .ok (.bipush 48, 2) := by decide +kernel
theorem dX12_number_46 : decode cX12_number 46 = .ok (.isub, 1) := by decide +kernel
theorem dX12_number_47 : decode cX12_number 47 = .ok (.goto 4, 3) := by decide +kernel
theorem dX12_number_50 : decode cX12_number 50 = .ok (.iload_n 3, 1) := by decide +kernel
theorem dX12_number_51 : decode cX12_number 51 = .ok (.istore_n 3, 1) := by decide +kernel
theorem dX12_number_52 : decode cX12_number 52 = .ok (.aload_n 0, 1) := by decide +kernel
theorem dX12_number_53 : decode cX12_number 53 = .ok (.dup, 1) := by decide +kernel
theorem dX12_number_54 : decode cX12_number 54 = .ok (.getfield 83, 3) := by decide +kernel
theorem dX12_number_57 : decode cX12_number 57 = .ok (.iconst 1, 1) := by decide +kernel
theorem dX12_number_58 : decode cX12_number 58 = .ok (.iadd, 1) := by decide +kernel
theorem dX12_number_59 : decode cX12_number 59 = .ok (.putfield 83, 3) := by decide +kernel
theorem dX12_number_62 : decode cX12_number 62 = .ok (.goto (-56), 3) := by decide +kernel
theorem dX12_number_65 : decode cX12_number 65 = .ok (.aload_n 0, 1) := by decide +kernel
theorem dX12_number_66 : decode cX12_number 66 = .ok (.getfield 83, 3) := by decide +kernel
theorem dX12_number_69 : decode cX12_number 69 = .ok (.aload_n 0, 1) := by decide +kernel
theorem dX12_number_70 : decode cX12_number 70 = .ok (.getfield 93, 3) := by decide +kernel
theorem dX12_number_73 : decode cX12_number 73 = .ok (.if_icmp .eq 26, 3) := by decide +kernel
theorem dX12_number_76 : decode cX12_number 76 = .ok (.aload_n 0, 1) := by decide +kernel
theorem dX12_number_77 : decode cX12_number 77 = .ok (.getfield 83, 3) := by decide +kernel
theorem dX12_number_80 : decode cX12_number 80 = .ok (.aload_n 0, 1) := by decide +kernel
theorem dX12_number_81 : decode cX12_number 81 = .ok (.getfield 93, 3) := by decide +kernel
theorem dX12_number_84 : decode cX12_number 84 = .ok (.isub, 1) := by decide +kernel
theorem dX12_number_85 : decode cX12_number 85 = .ok (.iconst 3, 1) := by decide +kernel
theorem dX12_number_86 : decode cX12_number 86 = .ok (.if_icmp .gt 13, 3) := by decide +kernel
theorem dX12_number_89 : decode cX12_number 89 = .ok (.iload_n 3, 1) := by decide +kernel
theorem dX12_number_90 : decode cX12_number 90 = .ok (.iload_n 1, 1) := by decide +kernel
theorem dX12_number_91 : decode cX12_number 91 = .ok (.if_icmp .lt 8, 3) := by decide +kernel
theorem dX12_number_94 : decode cX12_number 94 = .ok (.iload_n 3, 1) := by decide +kernel
theorem dX12_number_95 : decode cX12_number 95 = .ok (.iload_n 2, 1) := by decide +kernel
theorem dX12_number_96 : decode cX12_number 96 = .ok (.if_icmp .le 7, 3) := by decide +kernel
theorem dX12_number_99 : decode cX12_number 99 = .ok (.iconst (-1), 1) := by decide +kernel
theorem dX12_number_100 : decode cX12_number 100 = .ok (.goto 4, 3) := by decide +kernel
theorem dX12_number_103 : decode cX12_number 103 = .ok (.iload_n 3, 1) := by decide +kernel
theorem dX12_number_104 : decode cX12_number 104 = .ok (.ireturn, 1) := by decide +kernel
set_option maxHeartbeats 4000000 in
set_option maxRecDepth 100000 in
theorem ct_X12_number {E : xE} {z : Nat} {T : Nat → Nat × Int} {F : Nat → Nat → Int} {I : Nat → Int → Int} {P : Nat → Nat → Option Nat} {Y : Nat → Int → Option Nat} {m : Nat} {w : Int → Int} (hw : wM T P m)(hT : ∀ j : Int, -128 ≤ I (m + 6) j ∧ I (m + 6) j ≤ 127) (hE : 0 ≤ F m 10 ∧ F m 10 ≤ F m 11 ∧ F m 11 ≤ 400) {lo hi : Int} (hlh : -1000 ≤ lo ∧ lo ≤ 1000 ∧ -1000 ≤ hi ∧ hi ≤ 1000) : Ct E 2 mX12_number 0 0 [.ref m, J lo, J hi] (z, T, F, upA I (m + 1) w, P, Y) (xd (some (J (sNum (I (m + 6)) (sSkp (I (m + 6)) (F m 11) 32 32 (F m 10)) (sSkp (I (m + 6)) (F m 11) 48 57 (sSkp (I (m + 6)) (F m 11) 32 32 (F m 10))) lo hi))) (z, T, fPos F m (sSkp (I (m + 6)) (F m 11) 48 57 (sSkp (I (m + 6)) (F m 11) 32 32 (F m 10))) (sSkp (I (m + 6)) (F m 11) 32 32 (F m 10)), upA I (m + 1) w, P, Y)) := by
  obtain ⟨⟨q0, q1, q2, q3⟩, -⟩ := id hw
  obtain ⟨⟨q0, q1, q2, q3⟩, -, -, -, -, ⟨y1, y2, y3⟩, -⟩ := id hw
  have y4 : m + 6 ≠ m + 1 := by omega
  have hbk := sSkp_bd (t := I (m + 6)) (e := F m 11) (lo := 32) (hi := 32) (p := F m 10) hE.2.1
  refine Ct.of [some (.ref m), some (J lo), some (J hi), none] kt_X12_number rfl (Nat.le_of_ble_eq_true rfl) rfl (fun d hd => ?_)
  generalize hX : xN E _ _ _ = X
  refine xg_aloadn 1 dX12_number_0 rfl rfl rfl ?_
  refine xg_callV 4 12 [] _ kv_X12_blanks ⟨_, _, rfl⟩ kl_RX12_96 dX12_number_1 rfl (by assumption) (by omega) rfl rfl (Nat.le_of_ble_eq_true rfl) (by omega) ⟨Nat.le_refl _, Nat.le_refl _⟩ (ct_X12_blanks hw hT (by omega)) rfl ?_
  refine xg_iconst 5 dX12_number_4 rfl ?_
  refine xg_istoren 6 _ dX12_number_5 rfl rfl rfl (by decide) (Or.inr rfl) ?_
  have loop6 : ∀ (mm : Nat) (k : Nat) (v : Int), (sSkp (I (m + 6)) (F m 11) 32 32 (F m 10) + (k : Int) ≤ F m 11 ∧ sSkp (I (m + 6)) (F m 11) 48 57 (sSkp (I (m + 6)) (F m 11) 32 32 (F m 10) + (k : Int)) = sSkp (I (m + 6)) (F m 11) 48 57 (sSkp (I (m + 6)) (F m 11) 32 32 (F m 10)) ∧ v = sDig (I (m + 6)) (sSkp (I (m + 6)) (F m 11) 32 32 (F m 10)) (min 3 k) ∧ 0 ≤ v ∧ v ≤ 999 ∧ (k ≤ 2 → v ≤ 99) ∧ (k ≤ 1 → v ≤ 9) ∧ (k = 0 → v = 0)) → F m 11 - (sSkp (I (m + 6)) (F m 11) 32 32 (F m 10)) - (k : Int) < (mm : Int) → xG E mX12_number (xR d 0 0) X 6 [some (.ref m), some (J lo), some (J hi), some (J v)] [] (z, T, fPos F m (sSkp (I (m + 6)) (F m 11) 32 32 (F m 10) + (k : Int)) (sSkp (I (m + 6)) (F m 11) 32 32 (F m 10)), upA I (m + 1) w, P, Y) 0 0 := by
    intro mm
    induction mm with
    | zero => intro k v hq hm; exfalso; omega
    | succ mm ih =>
      intro k v hq hm
      refine xg_aloadn 7 dX12_number_6 rfl rfl rfl ?_
      refine xg_bipush 9 dX12_number_7 rfl (by decide) ?_
      refine xg_bipush 11 dX12_number_9 rfl (by decide) ?_
      refine xg_callV 14 12 [_, _] _ kv_X12_isAt ⟨_, _, rfl⟩ kl_RX12_89 dX12_number_11 rfl (by assumption) (by omega) rfl rfl (Nat.le_of_ble_eq_true rfl) (by omega) ⟨Nat.le_refl _, Nat.le_refl _⟩ (ct_X12_isAt (F := fPos F m (sSkp (I (m + 6)) (F m 11) 32 32 (F m 10) + (k : Int)) (sSkp (I (m + 6)) (F m 11) 32 32 (F m 10))) hw hT (by rw [fPos_10, fPos_o F m _ _ (show 11 ≠ 10 ∧ 11 ≠ 12 by decide)]; omega) (by omega)) rfl ?_
      rw [fPos_10, fPos_o F m _ _ (show 11 ≠ 10 ∧ 11 ≠ 12 by decide)]
      refine xg_beq 65 17 dX12_number_14 rfl rfl (fun hb14 => ?_) (fun hb14 => ?_)
      · skip
        have hqe : sSkp (I (m + 6)) (F m 11) 48 57 (sSkp (I (m + 6)) (F m 11) 32 32 (F m 10)) = sSkp (I (m + 6)) (F m 11) 32 32 (F m 10) + (k : Int) := by rw [← hq.2.1, sSkp_f hb14]
        refine xg_aloadn 66 dX12_number_65 rfl rfl rfl ?_
        refine xg_getI 69 kf_RX12_83 dX12_number_66 rfl (by assumption) ?_
        rw [fPos_10]
        refine xg_aloadn 70 dX12_number_69 rfl rfl rfl ?_
        refine xg_getI 73 kf_RX12_93 dX12_number_70 rfl (by assumption) ?_
        rw [fPos_12]
        refine xg_iceq 99 76 dX12_number_73 rfl rfl (by first | omega | exact hR _ | exact ⟨hR _, by omega⟩ | exact ⟨by omega, hR _⟩ | exact ⟨hR _, hR _⟩) (fun hb73 => ?_) (fun hb73 => ?_)
        · skip
          refine xg_iconst 100 dX12_number_99 rfl ?_
          refine xg_goto 104 dX12_number_100 rfl ?_
          subst hX
          exact xg_ireturn dX12_number_104 rfl ⟨Nat.le_refl _, Nat.le_refl _⟩ ⟨congrArg (fun v => some (J v)) (by rw [hqe, sNum_e hq.2.2.1]; first | rw [if_pos (by omega)] | rw [if_neg (by omega)]), by rw [hqe]⟩
        · skip
          refine xg_aloadn 77 dX12_number_76 rfl rfl rfl ?_
          refine xg_getI 80 kf_RX12_83 dX12_number_77 rfl (by assumption) ?_
          rw [fPos_10]
          refine xg_aloadn 81 dX12_number_80 rfl rfl rfl ?_
          refine xg_getI 84 kf_RX12_93 dX12_number_81 rfl (by assumption) ?_
          rw [fPos_12]
          refine xg_isub 85 dX12_number_84 rfl ?_
          refine xg_iconst 86 dX12_number_85 rfl ?_
          refine xg_icgt 99 89 dX12_number_86 rfl rfl (by first | omega | exact hR _ | exact ⟨hR _, by omega⟩ | exact ⟨by omega, hR _⟩ | exact ⟨hR _, hR _⟩) (fun hb86 => ?_) (fun hb86 => ?_)
          · skip
            refine xg_iconst 100 dX12_number_99 rfl ?_
            refine xg_goto 104 dX12_number_100 rfl ?_
            subst hX
            exact xg_ireturn dX12_number_104 rfl ⟨Nat.le_refl _, Nat.le_refl _⟩ ⟨congrArg (fun v => some (J v)) (by rw [hqe, sNum_e hq.2.2.1]; first | rw [if_pos (by omega)] | rw [if_neg (by omega)]), by rw [hqe]⟩
          · skip
            refine xg_iloadn 90 dX12_number_89 rfl rfl rfl ?_
            refine xg_iloadn 91 dX12_number_90 rfl rfl rfl ?_
            refine xg_iclt 99 94 dX12_number_91 rfl rfl (by first | omega | exact hR _ | exact ⟨hR _, by omega⟩ | exact ⟨by omega, hR _⟩ | exact ⟨hR _, hR _⟩) (fun hb91 => ?_) (fun hb91 => ?_)
            · skip
              refine xg_iconst 100 dX12_number_99 rfl ?_
              refine xg_goto 104 dX12_number_100 rfl ?_
              subst hX
              exact xg_ireturn dX12_number_104 rfl ⟨Nat.le_refl _, Nat.le_refl _⟩ ⟨congrArg (fun v => some (J v)) (by rw [hqe, sNum_e hq.2.2.1]; first | rw [if_pos (by omega)] | rw [if_neg (by omega)]), by rw [hqe]⟩
            · skip
              refine xg_iloadn 95 dX12_number_94 rfl rfl rfl ?_
              refine xg_iloadn 96 dX12_number_95 rfl rfl rfl ?_
              refine xg_icle 103 99 dX12_number_96 rfl rfl (by first | omega | exact hR _ | exact ⟨hR _, by omega⟩ | exact ⟨by omega, hR _⟩ | exact ⟨hR _, hR _⟩) (fun hb96 => ?_) (fun hb96 => ?_)
              · skip
                refine xg_iloadn 104 dX12_number_103 rfl rfl rfl ?_
                subst hX
                exact xg_ireturn dX12_number_104 rfl ⟨Nat.le_refl _, Nat.le_refl _⟩ ⟨congrArg (fun v => some (J v)) (by rw [hqe, sNum_e hq.2.2.1]; first | rw [if_pos (by omega)] | rw [if_neg (by omega)]), by rw [hqe]⟩
              · skip
                refine xg_iconst 100 dX12_number_99 rfl ?_
                refine xg_goto 104 dX12_number_100 rfl ?_
                subst hX
                exact xg_ireturn dX12_number_104 rfl ⟨Nat.le_refl _, Nat.le_refl _⟩ ⟨congrArg (fun v => some (J v)) (by rw [hqe, sNum_e hq.2.2.1]; first | rw [if_pos (by omega)] | rw [if_neg (by omega)]), by rw [hqe]⟩
      · skip
        have ha0 := sAt_t hb14
        have ht0 := hT (sSkp (I (m + 6)) (F m 11) 32 32 (F m 10) + (k : Int))
        refine xg_aloadn 18 dX12_number_17 rfl rfl rfl ?_
        refine xg_getI 21 kf_RX12_83 dX12_number_18 rfl (by assumption) ?_
        rw [fPos_10]
        refine xg_aloadn 22 dX12_number_21 rfl rfl rfl ?_
        refine xg_getI 25 kf_RX12_93 dX12_number_22 rfl (by assumption) ?_
        rw [fPos_12]
        refine xg_isub 26 dX12_number_25 rfl ?_
        refine xg_iconst 27 dX12_number_26 rfl ?_
        refine xg_icge 50 30 dX12_number_27 rfl rfl (by first | omega | exact hR _ | exact ⟨hR _, by omega⟩ | exact ⟨by omega, hR _⟩ | exact ⟨hR _, hR _⟩) (fun hb27 => ?_) (fun hb27 => ?_)
        · skip
          refine xg_iloadn 51 dX12_number_50 rfl rfl rfl ?_
          refine xg_istoren 52 _ dX12_number_51 rfl rfl rfl (by decide) (Or.inr rfl) ?_
          refine xg_aloadn 53 dX12_number_52 rfl rfl rfl ?_
          refine xg_dup 54 dX12_number_53 rfl rfl ?_
          refine xg_getI 57 kf_RX12_83 dX12_number_54 rfl (by assumption) ?_
          rw [fPos_10]
          refine xg_iconst 58 dX12_number_57 rfl ?_
          refine xg_iadd 59 dX12_number_58 rfl ?_
          refine xg_putI 62 kf_RX12_83 dX12_number_59 rfl (by assumption) ?_
          refine xg_goto 6 dX12_number_62 rfl ?_
          rw [fPos_s10, show sSkp (I (m + 6)) (F m 11) 32 32 (F m 10) + (k : Int) + 1 = sSkp (I (m + 6)) (F m 11) 32 32 (F m 10) + ((k + 1 : Nat) : Int) by omega]
          have ha := sAt_t hb14
          obtain ⟨e1, e2, e3, e4, e5, e6, e7, e8⟩ := hq
          exact xg_weak _ (xle_s rfl (xle_s rfl (xle_s rfl (xle_s rfl xle_0)))) (ih (k + 1) v ⟨by omega, by rw [← e2, ← sSkp_t hb14, show sSkp (I (m + 6)) (F m 11) 32 32 (F m 10) + (k : Int) + 1 = sSkp (I (m + 6)) (F m 11) 32 32 (F m 10) + ((k + 1 : Nat) : Int) by omega], by rw [e3, show min 3 k = min 3 (k + 1) by omega], by omega, by omega, by omega, by omega, by omega⟩ (by omega))
        · skip
          refine xg_bipush 32 dX12_number_30 rfl (by decide) ?_
          refine xg_iloadn 33 dX12_number_32 rfl rfl rfl ?_
          refine xg_imul 34 dX12_number_33 rfl ?_
          refine xg_aloadn 35 dX12_number_34 rfl rfl rfl ?_
          refine xg_getP 38 kf_RX12_29 dX12_number_35 rfl (by assumption) (by assumption) ?_
          refine xg_aloadn 39 dX12_number_38 rfl rfl rfl ?_
          refine xg_getI 42 kf_RX12_83 dX12_number_39 rfl (by assumption) ?_
          rw [fPos_10]
          refine xg_baldW 43 dX12_number_42 rfl ⟨y2, y4⟩ (by first | omega | exact hR _ | exact ⟨hR _, by omega⟩ | exact ⟨by omega, hR _⟩ | exact ⟨hR _, hR _⟩) ?_
          refine xg_iadd 44 dX12_number_43 rfl ?_
          refine xg_bipush 46 dX12_number_44 rfl (by decide) ?_
          refine xg_isub 47 dX12_number_46 rfl ?_
          refine xg_goto 51 dX12_number_47 rfl ?_
          refine xg_istoren 52 _ dX12_number_51 rfl rfl rfl (by decide) (Or.inr rfl) ?_
          refine xg_aloadn 53 dX12_number_52 rfl rfl rfl ?_
          refine xg_dup 54 dX12_number_53 rfl rfl ?_
          refine xg_getI 57 kf_RX12_83 dX12_number_54 rfl (by assumption) ?_
          rw [fPos_10]
          refine xg_iconst 58 dX12_number_57 rfl ?_
          refine xg_iadd 59 dX12_number_58 rfl ?_
          refine xg_putI 62 kf_RX12_83 dX12_number_59 rfl (by assumption) ?_
          refine xg_goto 6 dX12_number_62 rfl ?_
          rw [fPos_s10, show sSkp (I (m + 6)) (F m 11) 32 32 (F m 10) + (k : Int) + 1 = sSkp (I (m + 6)) (F m 11) 32 32 (F m 10) + ((k + 1 : Nat) : Int) by omega]
          have ha := sAt_t hb14
          obtain ⟨e1, e2, e3, e4, e5, e6, e7, e8⟩ := hq
          exact xg_weak _ (xle_s rfl (xle_s rfl (xle_s rfl (xle_s rfl xle_0)))) (ih (k + 1) _ ⟨by omega, by rw [← e2, ← sSkp_t hb14, show sSkp (I (m + 6)) (F m 11) 32 32 (F m 10) + (k : Int) + 1 = sSkp (I (m + 6)) (F m 11) 32 32 (F m 10) + ((k + 1 : Nat) : Int) by omega], by rw [show min 3 (k + 1) = k + 1 by omega, sDig, ← (show min 3 k = k by omega), ← e3, show min 3 k = k by omega], by omega, by omega, by omega, by omega, by omega⟩ (by omega))
  have l0 := loop6 401 0 0 ⟨by omega, by rw [show sSkp (I (m + 6)) (F m 11) 32 32 (F m 10) + ((0 : Nat) : Int) = sSkp (I (m + 6)) (F m 11) 32 32 (F m 10) by omega], rfl, by omega, by omega, by omega, by omega, by omega⟩ (by omega)
  rw [show sSkp (I (m + 6)) (F m 11) 32 32 (F m 10) + ((0 : Nat) : Int) = sSkp (I (m + 6)) (F m 11) 32 32 (F m 10) by omega] at l0
  exact xg_weak _ (xle_s rfl (xle_s rfl (xle_s rfl (xle_s rfl xle_0)))) l0

