/-- the reader stands at q, its word begins at b -/
def fPos (F : Nat → Nat → Int) (m : Nat) (q b : Int) : Nat → Nat → Int := fun a j => if a = m ∧ j = 10 then q else if a = m ∧ j = 12 then b else F a j
theorem fPos_10 (F : Nat → Nat → Int) (m : Nat) (q b : Int) : fPos F m q b m 10 = q := if_pos ⟨rfl, rfl⟩
theorem fPos_12 (F : Nat → Nat → Int) (m : Nat) (q b : Int) : fPos F m q b m 12 = b := by unfold fPos; rw [if_neg (by omega), if_pos ⟨rfl, rfl⟩]
theorem fPos_o (F : Nat → Nat → Int) (m : Nat) (q b : Int) {a j : Nat} (h : j ≠ 10 ∧ j ≠ 12) : fPos F m q b a j = F a j := by unfold fPos; rw [if_neg (by omega), if_neg (by omega)]
theorem fPos_s10 (F : Nat → Nat → Int) (m : Nat) (q b x : Int) : upF (fPos F m q b) m 10 x = fPos F m x b := by
  funext a j; unfold fPos upF
  by_cases h1 : a = m ∧ j = 10
  · rw [if_pos h1, if_pos h1]
  · rw [if_neg h1, if_neg h1]; show (if a = m ∧ j = 10 then q else if a = m ∧ j = 12 then b else F a j) = _; rw [if_neg h1]
theorem fPos_s12 (F : Nat → Nat → Int) (m : Nat) (q b x : Int) : upF (fPos F m q b) m 12 x = fPos F m q x := by
  funext a j; unfold fPos upF
  by_cases h1 : a = m ∧ j = 12
  · rw [if_pos h1, if_neg (by omega), if_pos h1]
  · rw [if_neg h1]; show (if a = m ∧ j = 10 then q else if a = m ∧ j = 12 then b else F a j) = _; rw [if_neg h1, if_neg h1]
theorem fPos_id (F : Nat → Nat → Int) (m : Nat) : fPos F m (F m 10) (F m 12) = F := by
  funext a j; unfold fPos
  by_cases h1 : a = m ∧ j = 10
  · rw [if_pos h1, h1.1, h1.2]
  · rw [if_neg h1]
    by_cases h2 : a = m ∧ j = 12
    · rw [if_pos h2, h2.1, h2.2]
    · rw [if_neg h2]
theorem fPos_pos (F : Nat → Nat → Int) (m : Nat) (q b x y : Int) : fPos (fPos F m q b) m x y = fPos F m x y := by
  funext a j; unfold fPos
  by_cases h1 : a = m ∧ j = 10
  · rw [if_pos h1, if_pos h1]
  · rw [if_neg h1]
    by_cases h2 : a = m ∧ j = 12
    · rw [if_pos h2, if_neg h1, if_pos h2]
    · rw [if_neg h2, if_neg h1, if_neg h2, if_neg h1, if_neg h2]
def sAt (t : Int → Int) (p e lo hi : Int) : Bool := decide (p < e ∧ lo ≤ t p ∧ t p ≤ hi)
theorem sAt_t {t : Int → Int} {p e lo hi : Int} (h : sAt t p e lo hi = true) : p < e ∧ lo ≤ t p ∧ t p ≤ hi := of_decide_eq_true h
def sSk (t : Int → Int) (e lo hi : Int) : Nat → Int → Int
  | 0, p => p
  | k + 1, p => if sAt t p e lo hi = true then sSk t e lo hi k (p + 1) else p
/-- behind all that lies between lo and hi, from p on -/
def sSkp (t : Int → Int) (e lo hi p : Int) : Int := sSk t e lo hi (e - p).toNat p
theorem sSkp_t {t : Int → Int} {e lo hi p : Int} (h : sAt t p e lo hi = true) : sSkp t e lo hi (p + 1) = sSkp t e lo hi p := by
  have h1 := (sAt_t h).1
  unfold sSkp
  rw [show (e - p).toNat = (e - (p + 1)).toNat + 1 by omega, sSk, if_pos h]
theorem sSkp_f {t : Int → Int} {e lo hi p : Int} (h : sAt t p e lo hi = false) : sSkp t e lo hi p = p := by
  unfold sSkp
  cases (e - p).toNat with
  | zero => rfl
  | succ k => rw [sSk, if_neg (by rw [h]; decide)]
theorem sSk_bd {t : Int → Int} {e lo hi : Int} : ∀ (k : Nat) (p : Int), p ≤ e → p ≤ sSk t e lo hi k p ∧ sSk t e lo hi k p ≤ e
  | 0, p, h => by rw [sSk]; omega
  | k + 1, p, h => by
    rw [sSk]
    split
    · rename_i h1
      have h2 := (sAt_t h1).1
      have := sSk_bd (t := t) (e := e) (lo := lo) (hi := hi) k (p + 1) (by omega)
      omega
    · omega
theorem sSkp_bd {t : Int → Int} {e lo hi p : Int} (h : p ≤ e) : p ≤ sSkp t e lo hi p ∧ sSkp t e lo hi p ≤ e := sSk_bd _ _ h
theorem dX12_isAt_0 : decode cX12_isAt 0 = .ok (.aload_n 0, 1) := by decide +kernel
theorem dX12_isAt_1 : decode cX12_isAt 1 = .ok (.getfield 83, 3) := by decide +kernel
theorem dX12_isAt_4 : decode cX12_isAt 4 = .ok (.aload_n 0, 1) := by decide +kernel
theorem dX12_isAt_5 : decode cX12_isAt 5 = .ok (.getfield 86, 3) := by decide +kernel
theorem dX12_isAt_8 : decode cX12_isAt 8 = .ok (.if_icmp .ge 33, 3) := by decide +kernel
theorem dX12_isAt_11 : decode cX12_isAt 11 = .ok (.aload_n 0, 1) := by decide +kernel
theorem dX12_isAt_12 : decode cX12_isAt 12 = .ok (.getfield 29, 3) := by decide +kernel
theorem dX12_isAt_15 : decode cX12_isAt 15 = .ok (.aload_n 0, 1) := by decide +kernel
theorem dX12_isAt_16 : decode cX12_isAt 16 = .ok (.getfield 83, 3) := by decide +kernel
theorem dX12_isAt_19 : decode cX12_isAt 19 = .ok (.baload, 1) := by decide +kernel
theorem dX12_isAt_20 : decode cX12_isAt 20 = .ok (.iload_n 1, 1) := by decide +kernel
theorem dX12_isAt_21 : decode cX12_isAt 21 = .ok (.if_icmp .lt 20, 3) := by decide +kernel
theorem dX12_isAt_24 : decode cX12_isAt 24 = .ok (.aload_n 0, 1) := by decide +kernel
theorem dX12_isAt_25 : decode cX12_isAt 25 = .ok (.getfield 29, 3) := by decide +kernel
theorem dX12_isAt_28 : decode cX12_isAt 28 = .ok (.aload_n 0, 1) := by decide +kernel
theorem dX12_isAt_29 : decode cX12_isAt 29 = .ok (.getfield 83, 3) := by decide +kernel
theorem dX12_isAt_32 : decode cX12_isAt 32 = .ok (.baload, 1) := by decide +kernel
theorem dX12_isAt_33 : decode cX12_isAt 33 = .ok (.iload_n 2, 1) := by decide +kernel
theorem dX12_isAt_34 : decode cX12_isAt 34 = .ok (.if_icmp .gt 7, 3) := by decide +kernel
theorem dX12_isAt_37 : decode cX12_isAt 37 = .ok (.iconst 1, 1) := by decide +kernel
theorem dX12_isAt_38 : decode cX12_isAt 38 = .ok (.goto 4, 3) := by decide +kernel
theorem dX12_isAt_41 : decode cX12_isAt 41 = .ok (.iconst 0, 1) := by decide +kernel
theorem dX12_isAt_42 : decode cX12_isAt 42 = .ok (.ireturn, 1) := by decide +kernel
set_option maxHeartbeats 4000000 in
set_option maxRecDepth 100000 in
theorem ct_X12_isAt {E : xE} {z : Nat} {T : Nat → Nat × Int} {F : Nat → Nat → Int} {I : Nat → Int → Int} {P : Nat → Nat → Option Nat} {Y : Nat → Int → Option Nat} {m : Nat} {w : Int → Int} (hw : wM T P m)(hT : ∀ j : Int, -128 ≤ I (m + 6) j ∧ I (m + 6) j ≤ 127) (hE : 0 ≤ F m 10 ∧ F m 10 ≤ F m 11 ∧ F m 11 ≤ 400) {lo hi : Int} (hlh : -128 ≤ lo ∧ lo ≤ 127 ∧ -128 ≤ hi ∧ hi ≤ 127) : Ct E 0 mX12_isAt 0 0 [.ref m, J lo, J hi] (z, T, F, upA I (m + 1) w, P, Y) (xd (some (J (bI (sAt (I (m + 6)) (F m 10) (F m 11) lo hi)))) (z, T, F, upA I (m + 1) w, P, Y)) := by
  obtain ⟨⟨q0, q1, q2, q3⟩, -⟩ := id hw
  obtain ⟨⟨q0, q1, q2, q3⟩, -, -, -, -, ⟨y1, y2, y3⟩, -⟩ := id hw
  have y4 : m + 6 ≠ m + 1 := by omega
  have ht := hT (F m 10)
  unfold sAt
  refine Ct.of [some (.ref m), some (J lo), some (J hi)] kt_X12_isAt rfl (Nat.le_of_ble_eq_true rfl) rfl (fun d hd => ?_)
  generalize hX : xN E _ _ _ = X
  refine xg_aloadn 1 dX12_isAt_0 rfl rfl rfl ?_
  refine xg_getI 4 kf_RX12_83 dX12_isAt_1 rfl (by assumption) ?_
  refine xg_aloadn 5 dX12_isAt_4 rfl rfl rfl ?_
  refine xg_getI 8 kf_RX12_86 dX12_isAt_5 rfl (by assumption) ?_
  refine xg_icge 41 11 dX12_isAt_8 rfl rfl (by first | omega | exact hR _ | exact ⟨hR _, by omega⟩ | exact ⟨by omega, hR _⟩ | exact ⟨hR _, hR _⟩) (fun hb8 => ?_) (fun hb8 => ?_)
  · skip
    refine xg_iconst 42 dX12_isAt_41 rfl ?_
    subst hX
    exact xg_zreturn dX12_isAt_42 rfl (by first | exact bI_01 _ | omega) ⟨Nat.le_refl _, Nat.le_refl _⟩ ⟨congrArg (fun v => some (J v)) (by first | exact (bI_t (by omega)).symm | exact (bI_f (by omega)).symm), rfl⟩
  · skip
    refine xg_aloadn 12 dX12_isAt_11 rfl rfl rfl ?_
    refine xg_getP 15 kf_RX12_29 dX12_isAt_12 rfl (by assumption) (by assumption) ?_
    refine xg_aloadn 16 dX12_isAt_15 rfl rfl rfl ?_
    refine xg_getI 19 kf_RX12_83 dX12_isAt_16 rfl (by assumption) ?_
    refine xg_baldW 20 dX12_isAt_19 rfl ⟨y2, y4⟩ (by first | omega | exact hR _ | exact ⟨hR _, by omega⟩ | exact ⟨by omega, hR _⟩ | exact ⟨hR _, hR _⟩) ?_
    refine xg_iloadn 21 dX12_isAt_20 rfl rfl rfl ?_
    refine xg_iclt 41 24 dX12_isAt_21 rfl rfl (by first | omega | exact hR _ | exact ⟨hR _, by omega⟩ | exact ⟨by omega, hR _⟩ | exact ⟨hR _, hR _⟩) (fun hb21 => ?_) (fun hb21 => ?_)
    · skip
      refine xg_iconst 42 dX12_isAt_41 rfl ?_
      subst hX
      exact xg_zreturn dX12_isAt_42 rfl (by first | exact bI_01 _ | omega) ⟨Nat.le_refl _, Nat.le_refl _⟩ ⟨congrArg (fun v => some (J v)) (by first | exact (bI_t (by omega)).symm | exact (bI_f (by omega)).symm), rfl⟩
    · skip
      refine xg_aloadn 25 dX12_isAt_24 rfl rfl rfl ?_
      refine xg_getP 28 kf_RX12_29 dX12_isAt_25 rfl (by assumption) (by assumption) ?_
      refine xg_aloadn 29 dX12_isAt_28 rfl rfl rfl ?_
      refine xg_getI 32 kf_RX12_83 dX12_isAt_29 rfl (by assumption) ?_
      refine xg_baldW 33 dX12_isAt_32 rfl ⟨y2, y4⟩ (by first | omega | exact hR _ | exact ⟨hR _, by omega⟩ | exact ⟨by omega, hR _⟩ | exact ⟨hR _, hR _⟩) ?_
      refine xg_iloadn 34 dX12_isAt_33 rfl rfl rfl ?_
      refine xg_icgt 41 37 dX12_isAt_34 rfl rfl (by first | omega | exact hR _ | exact ⟨hR _, by omega⟩ | exact ⟨by omega, hR _⟩ | exact ⟨hR _, hR _⟩) (fun hb34 => ?_) (fun hb34 => ?_)
      · skip
        refine xg_iconst 42 dX12_isAt_41 rfl ?_
        subst hX
        exact xg_zreturn dX12_isAt_42 rfl (by first | exact bI_01 _ | omega) ⟨Nat.le_refl _, Nat.le_refl _⟩ ⟨congrArg (fun v => some (J v)) (by first | exact (bI_t (by omega)).symm | exact (bI_f (by omega)).symm), rfl⟩
      · skip
        refine xg_iconst 38 dX12_isAt_37 rfl ?_
        refine xg_goto 42 dX12_isAt_38 rfl ?_
        subst hX
        exact xg_zreturn dX12_isAt_42 rfl (by first | exact bI_01 _ | omega) ⟨Nat.le_refl _, Nat.le_refl _⟩ ⟨congrArg (fun v => some (J v)) (by first | exact (bI_t (by omega)).symm | exact (bI_f (by omega)).symm), rfl⟩

theorem dX12_blanks_0 : decode cX12_blanks 0 = .ok (.aload_n 0, 1) := by decide +kernel
theorem dX12_blanks_1 : decode cX12_blanks 1 = .ok (.bipush 32, 2) := by decide +kernel
theorem dX12_blanks_3 : decode cX12_blanks 3 = .ok (.bipush 32, 2) := by decide +kernel
theorem dX12_blanks_5 : decode cX12_blanks 5 = .ok (.invokevirtual 89, 3) := by decide +kernel
theorem dX12_blanks_8 : decode cX12_blanks 8 = .ok (.ifCond .eq 16, 3) := by decide +kernel
theorem dX12_blanks_11 : decode cX12_blanks 11 = .ok (.aload_n 0, 1) := by decide +kernel
theorem dX12_blanks_12 : decode cX12_blanks 12 = .ok (.dup, 1) := by decide +kernel
theorem dX12_blanks_13 : decode cX12_blanks 13 = .ok (.getfield 83, 3) := by decide +kernel
theorem dX12_blanks_16 : decode cX12_blanks 16 = .ok (.iconst 1, 1) := by decide +kernel
theorem dX12_blanks_17 : decode cX12_blanks 17 = .ok (.iadd, 1) := by decide +kernel
theorem dX12_blanks_18 : decode cX12_blanks 18 = .ok (.putfield 83, 3) := by decide +kernel
theorem dX12_blanks_21 : decode cX12_blanks 21 = .ok (.goto (-21), 3) := by decide +kernel
theorem dX12_blanks_24 : decode cX12_blanks 24 = .ok (.aload_n 0, 1) := by decide +kernel
theorem dX12_blanks_25 : decode cX12_blanks 25 = .ok (.aload_n 0, 1) := by decide +kernel
theorem dX12_blanks_26 : decode cX12_blanks 26 = .ok (.getfield 83, 3) := by decide +kernel
theorem dX12_blanks_29 : decode cX12_blanks 29 = .ok (.putfield 93, 3) := by decide +kernel
theorem dX12_blanks_32 : decode cX12_blanks 32 = .ok (.return_, 1) := by decide +kernel
set_option maxHeartbeats 4000000 in
set_option maxRecDepth 100000 in
theorem ct_X12_blanks {E : xE} {z : Nat} {T : Nat → Nat × Int} {F : Nat → Nat → Int} {I : Nat → Int → Int} {P : Nat → Nat → Option Nat} {Y : Nat → Int → Option Nat} {m : Nat} {w : Int → Int} (hw : wM T P m)(hT : ∀ j : Int, -128 ≤ I (m + 6) j ∧ I (m + 6) j ≤ 127) (hE : 0 ≤ F m 10 ∧ F m 10 ≤ F m 11 ∧ F m 11 ≤ 400)  : Ct E 1 mX12_blanks 0 0 [.ref m] (z, T, F, upA I (m + 1) w, P, Y) (xd none (z, T, fPos F m (sSkp (I (m + 6)) (F m 11) 32 32 (F m 10)) (sSkp (I (m + 6)) (F m 11) 32 32 (F m 10)), upA I (m + 1) w, P, Y)) := by
  obtain ⟨⟨q0, q1, q2, q3⟩, -⟩ := id hw
  refine Ct.of [some (.ref m)] kt_X12_blanks rfl (Nat.le_of_ble_eq_true rfl) rfl (fun d hd => ?_)
  generalize hX : xN E _ _ _ = X
  have loop0 : ∀ (mm : Nat) (q : Int), (F m 10 ≤ q ∧ q ≤ F m 11 ∧ sSkp (I (m + 6)) (F m 11) 32 32 q = sSkp (I (m + 6)) (F m 11) 32 32 (F m 10)) → F m 11 - q < (mm : Int) → xG E mX12_blanks (xR d 0 0) X 0 [some (.ref m)] [] (z, T, fPos F m (q) (F m 12), upA I (m + 1) w, P, Y) 0 0 := by
    intro mm
    induction mm with
    | zero => intro q hq hm; exfalso; omega
    | succ mm ih =>
      intro q hq hm
      refine xg_aloadn 1 dX12_blanks_0 rfl rfl rfl ?_
      refine xg_bipush 3 dX12_blanks_1 rfl (by decide) ?_
      refine xg_bipush 5 dX12_blanks_3 rfl (by decide) ?_
      refine xg_callV 8 12 [_, _] _ kv_X12_isAt ⟨_, _, rfl⟩ kl_RX12_89 dX12_blanks_5 rfl (by assumption) (by omega) rfl rfl (Nat.le_of_ble_eq_true rfl) (by omega) ⟨Nat.le_refl _, Nat.le_refl _⟩ (ct_X12_isAt (F := fPos F m (q) (F m 12)) hw hT (by rw [fPos_10, fPos_o F m _ _ (show 11 ≠ 10 ∧ 11 ≠ 12 by decide)]; omega) (by omega)) rfl ?_
      rw [fPos_10, fPos_o F m _ _ (show 11 ≠ 10 ∧ 11 ≠ 12 by decide)]
      refine xg_beq 24 11 dX12_blanks_8 rfl rfl (fun hb8 => ?_) (fun hb8 => ?_)
      · skip
        refine xg_aloadn 25 dX12_blanks_24 rfl rfl rfl ?_
        refine xg_aloadn 26 dX12_blanks_25 rfl rfl rfl ?_
        refine xg_getI 29 kf_RX12_83 dX12_blanks_26 rfl (by assumption) ?_
        rw [fPos_10]
        refine xg_putI 32 kf_RX12_93 dX12_blanks_29 rfl (by assumption) ?_
        subst hX
        exact xg_return dX12_blanks_32 rfl ⟨Nat.le_refl _, Nat.le_refl _⟩ ⟨rfl, by rw [fPos_s12, ← hq.2.2, sSkp_f hb8]⟩
      · skip
        refine xg_aloadn 12 dX12_blanks_11 rfl rfl rfl ?_
        refine xg_dup 13 dX12_blanks_12 rfl rfl ?_
        refine xg_getI 16 kf_RX12_83 dX12_blanks_13 rfl (by assumption) ?_
        refine xg_iconst 17 dX12_blanks_16 rfl ?_
        refine xg_iadd 18 dX12_blanks_17 rfl ?_
        refine xg_putI 21 kf_RX12_83 dX12_blanks_18 rfl (by assumption) ?_
        refine xg_goto 0 dX12_blanks_21 rfl ?_
        rw [fPos_10, fPos_s10]
        have ha := sAt_t hb8
        exact xg_weak _ (xle_s rfl xle_0) (ih (q + 1) ⟨by omega, by omega, by rw [sSkp_t hb8]; exact hq.2.2⟩ (by omega))
  have l0 := loop0 401 (F m 10) ⟨by omega, hE.2.1, rfl⟩ (by omega)
  rw [fPos_id] at l0
  exact l0

theorem dX12_letters_0 : decode cX12_letters 0 = .ok (.aload_n 0, 1) := by decide +kernel
theorem dX12_letters_1 : decode cX12_letters 1 = .ok (.invokevirtual 96, 3) := by decide +kernel
theorem dX12_letters_4 : decode cX12_letters 4 = .ok (.aload_n 0, 1) := by decide +kernel
theorem dX12_letters_5 : decode cX12_letters 5 = .ok (.bipush 97, 2) := by decide +kernel
theorem dX12_letters_7 : decode cX12_letters 7 = .ok (.bipush 122, 2) := by decide +kernel
theorem dX12_letters_9 : decode cX12_letters 9 = .ok (.invokevirtual 89, 3) := by decide +kernel
theorem dX12_letters_12 : decode cX12_letters 12 = .ok (.ifCond .eq 16, 3) := by decide +kernel
theorem dX12_letters_15 : decode cX12_letters 15 = .ok (.aload_n 0, 1) := by decide +kernel
theorem dX12_letters_16 : decode cX12_letters 16 = .ok (.dup, 1) := by decide +kernel
theorem dX12_letters_17 : decode cX12_letters 17 = .ok (.getfield 83, 3) := by decide +kernel
theorem dX12_letters_20 : decode cX12_letters 20 = .ok (.iconst 1, 1) := by decide +kernel
theorem dX12_letters_21 : decode cX12_letters 21 = .ok (.iadd, 1) := by decide +kernel
theorem dX12_letters_22 : decode cX12_letters 22 = .ok (.putfield 83, 3) := by decide +kernel
theorem dX12_letters_25 : decode cX12_letters 25 = .ok (.goto (-21), 3) := by decide +kernel
theorem dX12_letters_28 : decode cX12_letters 28 = .ok (.return_, 1) := by decide +kernel
set_option maxHeartbeats 4000000 in
set_option maxRecDepth 100000 in
theorem ct_X12_letters {E : xE} {z : Nat} {T : Nat → Nat × Int} {F : Nat → Nat → Int} {I : Nat → Int → Int} {P : Nat → Nat → Option Nat} {Y : Nat → Int → Option Nat} {m : Nat} {w : Int → Int} (hw : wM T P m)(hT : ∀ j : Int, -128 ≤ I (m + 6) j ∧ I (m + 6) j ≤ 127) (hE : 0 ≤ F m 10 ∧ F m 10 ≤ F m 11 ∧ F m 11 ≤ 400)  : Ct E 2 mX12_letters 0 0 [.ref m] (z, T, F, upA I (m + 1) w, P, Y) (xd none (z, T, fPos F m (sSkp (I (m + 6)) (F m 11) 97 122 (sSkp (I (m + 6)) (F m 11) 32 32 (F m 10))) (sSkp (I (m + 6)) (F m 11) 32 32 (F m 10)), upA I (m + 1) w, P, Y)) := by
  obtain ⟨⟨q0, q1, q2, q3⟩, -⟩ := id hw
  have hbk := sSkp_bd (t := I (m + 6)) (e := F m 11) (lo := 32) (hi := 32) (p := F m 10) hE.2.1
  refine Ct.of [some (.ref m)] kt_X12_letters rfl (Nat.le_of_ble_eq_true rfl) rfl (fun d hd => ?_)
  generalize hX : xN E _ _ _ = X
  refine xg_aloadn 1 dX12_letters_0 rfl rfl rfl ?_
  refine xg_callV 4 12 [] _ kv_X12_blanks ⟨_, _, rfl⟩ kl_RX12_96 dX12_letters_1 rfl (by assumption) (by omega) rfl rfl (Nat.le_of_ble_eq_true rfl) (by omega) ⟨Nat.le_refl _, Nat.le_refl _⟩ (ct_X12_blanks hw hT (by omega)) rfl ?_
  have loop4 : ∀ (mm : Nat) (q : Int), (sSkp (I (m + 6)) (F m 11) 32 32 (F m 10) ≤ q ∧ q ≤ F m 11 ∧ sSkp (I (m + 6)) (F m 11) 97 122 q = sSkp (I (m + 6)) (F m 11) 97 122 (sSkp (I (m + 6)) (F m 11) 32 32 (F m 10))) → F m 11 - q < (mm : Int) → xG E mX12_letters (xR d 0 0) X 4 [some (.ref m)] [] (z, T, fPos F m (q) (sSkp (I (m + 6)) (F m 11) 32 32 (F m 10)), upA I (m + 1) w, P, Y) 0 0 := by
    intro mm
    induction mm with
    | zero => intro q hq hm; exfalso; omega
    | succ mm ih =>
      intro q hq hm
      refine xg_aloadn 5 dX12_letters_4 rfl rfl rfl ?_
      refine xg_bipush 7 dX12_letters_5 rfl (by decide) ?_
      refine xg_bipush 9 dX12_letters_7 rfl (by decide) ?_
      refine xg_callV 12 12 [_, _] _ kv_X12_isAt ⟨_, _, rfl⟩ kl_RX12_89 dX12_letters_9 rfl (by assumption) (by omega) rfl rfl (Nat.le_of_ble_eq_true rfl) (by omega) ⟨Nat.le_refl _, Nat.le_refl _⟩ (ct_X12_isAt (F := fPos F m (q) (sSkp (I (m + 6)) (F m 11) 32 32 (F m 10))) hw hT (by rw [fPos_10, fPos_o F m _ _ (show 11 ≠ 10 ∧ 11 ≠ 12 by decide)]; omega) (by omega)) rfl ?_
      rw [fPos_10, fPos_o F m _ _ (show 11 ≠ 10 ∧ 11 ≠ 12 by decide)]
      refine xg_beq 28 15 dX12_letters_12 rfl rfl (fun hb12 => ?_) (fun hb12 => ?_)
      · skip
        subst hX
        exact xg_return dX12_letters_28 rfl ⟨Nat.le_refl _, Nat.le_refl _⟩ ⟨rfl, by rw [← hq.2.2, sSkp_f hb12]⟩
      · skip
        refine xg_aloadn 16 dX12_letters_15 rfl rfl rfl ?_
        refine xg_dup 17 dX12_letters_16 rfl rfl ?_
        refine xg_getI 20 kf_RX12_83 dX12_letters_17 rfl (by assumption) ?_
        refine xg_iconst 21 dX12_letters_20 rfl ?_
        refine xg_iadd 22 dX12_letters_21 rfl ?_
        refine xg_putI 25 kf_RX12_83 dX12_letters_22 rfl (by assumption) ?_
        refine xg_goto 4 dX12_letters_25 rfl ?_
        rw [fPos_10, fPos_s10]
        have ha := sAt_t hb12
        exact xg_weak _ (xle_s rfl xle_0) (ih (q + 1) ⟨by omega, by omega, by rw [sSkp_t hb12]; exact hq.2.2⟩ (by omega))
  exact loop4 401 (sSkp (I (m + 6)) (F m 11) 32 32 (F m 10)) ⟨by omega, hbk.2, rfl⟩ (by omega)

theorem dX12_isFigure_0 : decode cX12_isFigure 0 = .ok (.aload_n 0, 1) := by decide +kernel
theorem dX12_isFigure_1 : decode cX12_isFigure 1 = .ok (.invokevirtual 96, 3) := by decide +kernel
theorem dX12_isFigure_4 : decode cX12_isFigure 4 = .ok (.aload_n 0, 1) := by decide +kernel
theorem dX12_isFigure_5 : decode cX12_isFigure 5 = .ok (.bipush 48, 2) := by decide +kernel
theorem dX12_isFigure_7 : decode cX12_isFigure 7 = .ok (.bipush 57, 2) := by decide +kernel
theorem dX12_isFigure_9 : decode cX12_isFigure 9 = .ok (.invokevirtual 89, 3) := by decide +kernel
theorem dX12_isFigure_12 : decode cX12_isFigure 12 = .ok (.ireturn, 1) := by decide +kernel
set_option maxHeartbeats 4000000 in
set_option maxRecDepth 100000 in
theorem ct_X12_isFigure {E : xE} {z : Nat} {T : Nat → Nat × Int} {F : Nat → Nat → Int} {I : Nat → Int → Int} {P : Nat → Nat → Option Nat} {Y : Nat → Int → Option Nat} {m : Nat} {w : Int → Int} (hw : wM T P m)(hT : ∀ j : Int, -128 ≤ I (m + 6) j ∧ I (m + 6) j ≤ 127) (hE : 0 ≤ F m 10 ∧ F m 10 ≤ F m 11 ∧ F m 11 ≤ 400)  : Ct E 2 mX12_isFigure 0 0 [.ref m] (z, T, F, upA I (m + 1) w, P, Y) (xd (some (J (bI (sAt (I (m + 6)) (sSkp (I (m + 6)) (F m 11) 32 32 (F m 10)) (F m 11) 48 57)))) (z, T, fPos F m (sSkp (I (m + 6)) (F m 11) 32 32 (F m 10)) (sSkp (I (m + 6)) (F m 11) 32 32 (F m 10)), upA I (m + 1) w, P, Y)) := by
  obtain ⟨⟨q0, q1, q2, q3⟩, -⟩ := id hw
  have hbk := sSkp_bd (t := I (m + 6)) (e := F m 11) (lo := 32) (hi := 32) (p := F m 10) hE.2.1
  refine Ct.of [some (.ref m)] kt_X12_isFigure rfl (Nat.le_of_ble_eq_true rfl) rfl (fun d hd => ?_)
  generalize hX : xN E _ _ _ = X
  refine xg_aloadn 1 dX12_isFigure_0 rfl rfl rfl ?_
  refine xg_callV 4 12 [] _ kv_X12_blanks ⟨_, _, rfl⟩ kl_RX12_96 dX12_isFigure_1 rfl (by assumption) (by omega) rfl rfl (Nat.le_of_ble_eq_true rfl) (by omega) ⟨Nat.le_refl _, Nat.le_refl _⟩ (ct_X12_blanks hw hT (by omega)) rfl ?_
  refine xg_aloadn 5 dX12_isFigure_4 rfl rfl rfl ?_
  refine xg_bipush 7 dX12_isFigure_5 rfl (by decide) ?_
  refine xg_bipush 9 dX12_isFigure_7 rfl (by decide) ?_
  refine xg_callV 12 12 [_, _] _ kv_X12_isAt ⟨_, _, rfl⟩ kl_RX12_89 dX12_isFigure_9 rfl (by assumption) (by omega) rfl rfl (Nat.le_of_ble_eq_true rfl) (by omega) ⟨Nat.le_refl _, Nat.le_refl _⟩ (ct_X12_isAt (F := fPos F m (sSkp (I (m + 6)) (F m 11) 32 32 (F m 10)) (sSkp (I (m + 6)) (F m 11) 32 32 (F m 10))) hw hT (by rw [fPos_10, fPos_o F m _ _ (show 11 ≠ 10 ∧ 11 ≠ 12 by decide)]; omega) (by omega)) rfl ?_
  rw [fPos_10, fPos_o F m _ _ (show 11 ≠ 10 ∧ 11 ≠ 12 by decide)]
  subst hX
  exact xg_zreturn dX12_isFigure_12 rfl (by first | exact bI_01 _ | omega) ⟨Nat.le_refl _, Nat.le_refl _⟩ ⟨rfl, rfl⟩

theorem dX12_sign_0 : decode cX12_sign 0 = .ok (.aload_n 0, 1) := by decide +kernel
theorem dX12_sign_1 : decode cX12_sign 1 = .ok (.invokevirtual 96, 3) := by decide +kernel
theorem dX12_sign_4 : decode cX12_sign 4 = .ok (.aload_n 0, 1) := by decide +kernel
theorem dX12_sign_5 : decode cX12_sign 5 = .ok (.iload_n 1, 1) := by decide +kernel
theorem dX12_sign_6 : decode cX12_sign 6 = .ok (.iload_n 1, 1) := by decide +kernel
theorem dX12_sign_7 : decode cX12_sign 7 = .ok (.invokevirtual 89, 3) := by decide +kernel
theorem dX12_sign_10 : decode cX12_sign 10 = .ok (.ifCond .ne 5, 3) := by decide +kernel
theorem dX12_sign_13 : decode cX12_sign 13 = .ok (.iconst 0, 1) := by decide +kernel
theorem dX12_sign_14 : decode cX12_sign 14 = .ok (.ireturn, 1) := by decide +kernel
theorem dX12_sign_15 : decode cX12_sign 15 = .ok (.aload_n 0, 1) := by decide +kernel
theorem dX12_sign_16 : decode cX12_sign 16 = .ok (.dup, 1) := by decide +kernel
theorem dX12_sign_17 : decode cX12_sign 17 = .ok (.getfield 83, 3) := by decide +kernel
theorem dX12_sign_20 : decode cX12_sign 20 = .ok (.iconst 1, 1) := by decide +kernel
theorem dX12_sign_21 : decode cX12_sign 21 = .ok (.iadd, 1) := by decide +kernel
theorem dX12_sign_22 : decode cX12_sign 22 = .ok (.putfield 83, 3) := by decide +kernel
theorem dX12_sign_25 : decode cX12_sign 25 = .ok (.iconst 1, 1) := by decide +kernel
theorem dX12_sign_26 : decode cX12_sign 26 = .ok (.ireturn, 1) := by decide +kernel
set_option maxHeartbeats 4000000 in
set_option maxRecDepth 100000 in
theorem ct_X12_sign_t {E : xE} {z : Nat} {T : Nat → Nat × Int} {F : Nat → Nat → Int} {I : Nat → Int → Int} {P : Nat → Nat → Option Nat} {Y : Nat → Int → Option Nat} {m : Nat} {w : Int → Int} (hw : wM T P m)(hT : ∀ j : Int, -128 ≤ I (m + 6) j ∧ I (m + 6) j ≤ 127) (hE : 0 ≤ F m 10 ∧ F m 10 ≤ F m 11 ∧ F m 11 ≤ 400) {c : Int} (hc : -128 ≤ c ∧ c ≤ 127) (hb : sAt (I (m + 6)) (sSkp (I (m + 6)) (F m 11) 32 32 (F m 10)) (F m 11) c c = true) : Ct E 2 mX12_sign 0 0 [.ref m, J c] (z, T, F, upA I (m + 1) w, P, Y) (xd (some (J 1)) (z, T, fPos F m (sSkp (I (m + 6)) (F m 11) 32 32 (F m 10) + 1) (sSkp (I (m + 6)) (F m 11) 32 32 (F m 10)), upA I (m + 1) (w), P, Y)) := by
  obtain ⟨⟨q0, q1, q2, q3⟩, -⟩ := id hw
  have hbk := sSkp_bd (t := I (m + 6)) (e := F m 11) (lo := 32) (hi := 32) (p := F m 10) hE.2.1
  refine Ct.of [some (.ref m), some (J c)] kt_X12_sign rfl (Nat.le_of_ble_eq_true rfl) rfl (fun d hd => ?_)
  generalize hX : xN E _ _ _ = X
  refine xg_aloadn 1 dX12_sign_0 rfl rfl rfl ?_
  refine xg_callV 4 12 [] _ kv_X12_blanks ⟨_, _, rfl⟩ kl_RX12_96 dX12_sign_1 rfl (by assumption) (by omega) rfl rfl (Nat.le_of_ble_eq_true rfl) (by omega) ⟨Nat.le_refl _, Nat.le_refl _⟩ (ct_X12_blanks hw hT (by omega)) rfl ?_
  refine xg_aloadn 5 dX12_sign_4 rfl rfl rfl ?_
  refine xg_iloadn 6 dX12_sign_5 rfl rfl rfl ?_
  refine xg_iloadn 7 dX12_sign_6 rfl rfl rfl ?_
  refine xg_callV 10 12 [_, _] _ kv_X12_isAt ⟨_, _, rfl⟩ kl_RX12_89 dX12_sign_7 rfl (by assumption) (by omega) rfl rfl (Nat.le_of_ble_eq_true rfl) (by omega) ⟨Nat.le_refl _, Nat.le_refl _⟩ (ct_X12_isAt (F := fPos F m (sSkp (I (m + 6)) (F m 11) 32 32 (F m 10)) (sSkp (I (m + 6)) (F m 11) 32 32 (F m 10))) hw hT (by rw [fPos_10, fPos_o F m _ _ (show 11 ≠ 10 ∧ 11 ≠ 12 by decide)]; omega) (by omega)) rfl ?_
  rw [fPos_10, fPos_o F m _ _ (show 11 ≠ 10 ∧ 11 ≠ 12 by decide)]
  refine xg_bne 15 13 dX12_sign_10 rfl rfl (fun hb10 => ?_) (fun hb10 => ?_)
  · skip
    refine xg_aloadn 16 dX12_sign_15 rfl rfl rfl ?_
    refine xg_dup 17 dX12_sign_16 rfl rfl ?_
    refine xg_getI 20 kf_RX12_83 dX12_sign_17 rfl (by assumption) ?_
    rw [fPos_10]
    refine xg_iconst 21 dX12_sign_20 rfl ?_
    refine xg_iadd 22 dX12_sign_21 rfl ?_
    refine xg_putI 25 kf_RX12_83 dX12_sign_22 rfl (by assumption) ?_
    refine xg_iconst 26 dX12_sign_25 rfl ?_
    subst hX
    exact xg_zreturn dX12_sign_26 rfl (by first | exact bI_01 _ | omega) ⟨Nat.le_refl _, Nat.le_refl _⟩ ⟨rfl, by rw [fPos_s10]⟩
  · skip
    exfalso; rw [hb] at hb10; cases hb10

set_option maxHeartbeats 4000000 in
set_option maxRecDepth 100000 in
theorem ct_X12_sign_f {E : xE} {z : Nat} {T : Nat → Nat × Int} {F : Nat → Nat → Int} {I : Nat → Int → Int} {P : Nat → Nat → Option Nat} {Y : Nat → Int → Option Nat} {m : Nat} {w : Int → Int} (hw : wM T P m)(hT : ∀ j : Int, -128 ≤ I (m + 6) j ∧ I (m + 6) j ≤ 127) (hE : 0 ≤ F m 10 ∧ F m 10 ≤ F m 11 ∧ F m 11 ≤ 400) {c : Int} (hc : -128 ≤ c ∧ c ≤ 127) (hb : sAt (I (m + 6)) (sSkp (I (m + 6)) (F m 11) 32 32 (F m 10)) (F m 11) c c = false) : Ct E 2 mX12_sign 0 0 [.ref m, J c] (z, T, F, upA I (m + 1) w, P, Y) (xd (some (J 0)) (z, T, fPos F m (sSkp (I (m + 6)) (F m 11) 32 32 (F m 10)) (sSkp (I (m + 6)) (F m 11) 32 32 (F m 10)), upA I (m + 1) (w), P, Y)) := by
  obtain ⟨⟨q0, q1, q2, q3⟩, -⟩ := id hw
  have hbk := sSkp_bd (t := I (m + 6)) (e := F m 11) (lo := 32) (hi := 32) (p := F m 10) hE.2.1
  refine Ct.of [some (.ref m), some (J c)] kt_X12_sign rfl (Nat.le_of_ble_eq_true rfl) rfl (fun d hd => ?_)
  generalize hX : xN E _ _ _ = X
  refine xg_aloadn 1 dX12_sign_0 rfl rfl rfl ?_
  refine xg_callV 4 12 [] _ kv_X12_blanks ⟨_, _, rfl⟩ kl_RX12_96 dX12_sign_1 rfl (by assumption) (by omega) rfl rfl (Nat.le_of_ble_eq_true rfl) (by omega) ⟨Nat.le_refl _, Nat.le_refl _⟩ (ct_X12_blanks hw hT (by omega)) rfl ?_
  refine xg_aloadn 5 dX12_sign_4 rfl rfl rfl ?_
  refine xg_iloadn 6 dX12_sign_5 rfl rfl rfl ?_
  refine xg_iloadn 7 dX12_sign_6 rfl rfl rfl ?_
  refine xg_callV 10 12 [_, _] _ kv_X12_isAt ⟨_, _, rfl⟩ kl_RX12_89 dX12_sign_7 rfl (by assumption) (by omega) rfl rfl (Nat.le_of_ble_eq_true rfl) (by omega) ⟨Nat.le_refl _, Nat.le_refl _⟩ (ct_X12_isAt (F := fPos F m (sSkp (I (m + 6)) (F m 11) 32 32 (F m 10)) (sSkp (I (m + 6)) (F m 11) 32 32 (F m 10))) hw hT (by rw [fPos_10, fPos_o F m _ _ (show 11 ≠ 10 ∧ 11 ≠ 12 by decide)]; omega) (by omega)) rfl ?_
  rw [fPos_10, fPos_o F m _ _ (show 11 ≠ 10 ∧ 11 ≠ 12 by decide)]
  refine xg_bne 15 13 dX12_sign_10 rfl rfl (fun hb10 => ?_) (fun hb10 => ?_)
  · skip
    exfalso; rw [hb] at hb10; cases hb10
  · skip
    refine xg_iconst 14 dX12_sign_13 rfl ?_
    subst hX
    exact xg_zreturn dX12_sign_14 rfl (by first | exact bI_01 _ | omega) ⟨Nat.le_refl _, Nat.le_refl _⟩ ⟨rfl, rfl⟩

