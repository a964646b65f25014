theorem dX7_numberIn_0 : decode cX7_numberIn 0 = .ok (.iload_n 2, 1) := by decide +kernel
theorem dX7_numberIn_1 : decode cX7_numberIn 1 = .ok (.iload_n 1, 1) := by decide +kernel
theorem dX7_numberIn_2 : decode cX7_numberIn 2 = .ok (.isub, 1) := by decide +kernel
theorem dX7_numberIn_3 : decode cX7_numberIn 3 = .ok (.iconst 3, 1) := by decide +kernel
theorem dX7_numberIn_4 : decode cX7_numberIn 4 = .ok (.if_icmp .le 5, 3) := by decide +kernel
theorem dX7_numberIn_7 : decode cX7_numberIn 7 = .ok (.iconst (-1), 1) := by decide +kernel
theorem dX7_numberIn_8 : decode cX7_numberIn 8 = .ok (.ireturn, 1) := by decide +kernel
theorem dX7_numberIn_9 : decode cX7_numberIn 9 = .ok (.iconst 0, 1) := by decide +kernel
theorem dX7_numberIn_10 : decode cX7_numberIn 10 = .ok (.istore_n 3, 1) := by decide +kernel
theorem dX7_numberIn_11 : decode cX7_numberIn 11 = .ok (.iload_n 1, 1) := by decide +kernel
theorem dX7_numberIn_12 : decode cX7_numberIn 12 = .ok (.istore 4, 2) := by decide +kernel
theorem dX7_numberIn_14 : decode cX7_numberIn 14 = .ok (.iload 4, 2) := by decide +kernel
theorem dX7_numberIn_16 : decode cX7_numberIn 16 = .ok (.iload_n 2, 1) := by decide +kernel
theorem dX7_numberIn_17 : decode cX7_numberIn 17 = .ok (.if_icmp .ge 22, 3) := by decide +kernel
theorem dX7_numberIn_20 : decode cX7_numberIn 20 = .ok (.iload_n 3, 1) := by decide +kernel
theorem dX7_numberIn_21 : decode cX7_numberIn 21 = .ok (.bipush 10, 2) := by decide +kernel
theorem dX7_numberIn_23 : decode cX7_numberIn 23 = .ok (.imul, 1) := by decide +kernel
theorem dX7_numberIn_24 : decode cX7_numberIn 24 = .ok (.aload_n 0, 1) := by decide +kernel
theorem dX7_numberIn_25 : decode cX7_numberIn 25 = .ok (.iload 4, 2) := by decide +kernel
theorem dX7_numberIn_27 : decode cX7_numberIn 27 = .ok (.iaload, 1) := by decide +kernel
theorem dX7_numberIn_28 : decode cX7_numberIn 28 = .ok (.iadd, 1) := by decide +kernel
theorem dX7_numberIn_29 : decode cX7_numberIn 29 = .ok (.bipush 48, 2) := by decide +kernel
theorem dX7_numberIn_31 : decode cX7_numberIn 31 = .ok (.isub, 1) := by decide +kernel
theorem dX7_numberIn_32 : decode cX7_numberIn 32 = .ok (.istore_n 3, 1) := by decide +kernel
theorem dX7_numberIn_33 : decode cX7_numberIn 33 = .ok (.iinc 4 1, 3) := by decide +kernel
theorem dX7_numberIn_36 : decode cX7_numberIn 36 = .ok (.goto (-22), 3) := by decide +kernel
theorem dX7_numberIn_39 : decode cX7_numberIn 39 = .ok (.iload_n 3, 1) := by decide +kernel
theorem dX7_numberIn_40 : decode cX7_numberIn 40 = .ok (.ireturn, 1) := by decide +kernel
/-- a number's value, by its characters -/
def zNu (t : Int → Int) (p : Int) : Nat → Int
  | 0 => 0
  | n + 1 => zNu t p n * 10 + t (p + n) - 48
theorem zNu_b {t : Int → Int} {p : Int} (ht : ∀ j : Int, 0 ≤ j → j < 400 → 0 ≤ t j ∧ t j ≤ 255) : ∀ n : Nat, 0 ≤ p → p + n ≤ 400 → n ≤ 3 → -6000 ≤ zNu t p n ∧ zNu t p n ≤ 30000
  | 0, _, _, _ => ⟨(by show (-6000 : Int) ≤ 0; omega), (by show (0 : Int) ≤ 30000; omega)⟩
  | 1, h1, h2, h3 => by
    have := ht (p + 0) (by omega) (by omega)
    show -6000 ≤ 0 * 10 + t (p + ((0 : Nat) : Int)) - 48 ∧ 0 * 10 + t (p + ((0 : Nat) : Int)) - 48 ≤ 30000
    simp only [Int.natCast_zero] at *
    omega
  | 2, h1, h2, h3 => by
    have a := ht (p + 0) (by omega) (by omega)
    have b := ht (p + 1) (by omega) (by omega)
    show -6000 ≤ (0 * 10 + t (p + ((0 : Nat) : Int)) - 48) * 10 + t (p + ((1 : Nat) : Int)) - 48 ∧ (0 * 10 + t (p + ((0 : Nat) : Int)) - 48) * 10 + t (p + ((1 : Nat) : Int)) - 48 ≤ 30000
    simp only [Int.natCast_zero, Int.natCast_one] at *
    omega
  | 3, h1, h2, h3 => by
    have a := ht (p + 0) (by omega) (by omega)
    have b := ht (p + 1) (by omega) (by omega)
    have c := ht (p + 2) (by omega) (by omega)
    show -6000 ≤ ((0 * 10 + t (p + ((0 : Nat) : Int)) - 48) * 10 + t (p + ((1 : Nat) : Int)) - 48) * 10 + t (p + ((2 : Nat) : Int)) - 48 ∧ ((0 * 10 + t (p + ((0 : Nat) : Int)) - 48) * 10 + t (p + ((1 : Nat) : Int)) - 48) * 10 + t (p + ((2 : Nat) : Int)) - 48 ≤ 30000
    have e2 : ((2 : Nat) : Int) = 2 := rfl
    simp only [Int.natCast_zero, Int.natCast_one, e2] at *
    omega
  | n + 4, _, _, h => by omega
def zNum (t : Int → Int) (p e : Int) : Int := if 3 < e - p then -1 else zNu t p (e - p).toNat
set_option maxHeartbeats 4000000 in
set_option maxRecDepth 100000 in
theorem ct_X7_numberIn {E : xE} {z : Nat} {T : Nat → Nat × Int} {F : Nat → Nat → Int} {I : Nat → Int → Int} {P : Nat → Nat → Option Nat} {Y : Nat → Int → Option Nat} {x : Nat} {p e : Int} (hx : (T x).1 = 14 ∧ (T x).2 = 400) (hT : ∀ j : Int, 0 ≤ j → j < 400 → 0 ≤ I x j ∧ I x j ≤ 255) (hp : 0 ≤ p ∧ p < e ∧ e ≤ 400) : Ct E 0 mX7_numberIn 0 0 [.ref x, J p, J e] (z, T, F, I, P, Y) (xd (some (J (zNum (I x) p e))) (z, T, F, I, P, Y)) := by
  refine Ct.of [some (.ref x), some (J p), some (J e), none, none] kt_X7_numberIn rfl (Nat.le_of_ble_eq_true rfl) rfl (fun d hd => ?_)
  generalize hX : xN E _ _ _ = X
  refine xg_iloadn 1 dX7_numberIn_0 rfl rfl rfl ?_
  refine xg_iloadn 2 dX7_numberIn_1 rfl rfl rfl ?_
  refine xg_isub 3 dX7_numberIn_2 rfl ?_
  refine xg_iconst 4 dX7_numberIn_3 rfl ?_
  refine xg_icle 9 7 dX7_numberIn_4 rfl rfl (by omega) (fun hb4 => ?_) (fun hb4 => ?_)
  · skip
    refine xg_iconst 10 dX7_numberIn_9 rfl ?_
    refine xg_istoren 11 _ dX7_numberIn_10 rfl rfl rfl (by decide) (Or.inr rfl) ?_
    refine xg_iloadn 12 dX7_numberIn_11 rfl rfl rfl ?_
    refine xg_istore 14 _ dX7_numberIn_12 rfl rfl (by decide) (Or.inr rfl) ?_
    have loop14 : ∀ (mm : Nat) (n : Nat), p + n ≤ e → e - p - n < (mm : Int) → xG E mX7_numberIn (xR d 0 0) X 14 [some (.ref x), some (J p), some (J e), some (J (zNu (I x) p n)), some (J (p + n))] [] (z, T, F, I, P, Y) 0 0 := by
      intro mm
      induction mm with
      | zero => intro n yn hm; exfalso; omega
      | succ mm ih =>
        intro n yn hm
        refine xg_iload 16 dX7_numberIn_14 rfl rfl ?_
        refine xg_iloadn 17 dX7_numberIn_16 rfl rfl rfl ?_
        refine xg_icge 39 20 dX7_numberIn_17 rfl rfl (by omega) (fun hb17 => ?_) (fun hb17 => ?_)
        · skip
          refine xg_iloadn 40 dX7_numberIn_39 rfl rfl rfl ?_
          subst hX
          exact xg_ireturn dX7_numberIn_40 rfl ⟨Nat.le_refl _, Nat.le_refl _⟩ ⟨by unfold zNum; rw [if_neg (by omega), show e - p = (n : Int) by omega, Int.toNat_natCast], rfl⟩
        · skip
          refine xg_iloadn 21 dX7_numberIn_20 rfl rfl rfl ?_
          refine xg_bipush 23 dX7_numberIn_21 rfl (by decide) ?_
          refine xg_imul 24 dX7_numberIn_23 rfl ?_
          refine xg_aloadn 25 dX7_numberIn_24 rfl rfl rfl ?_
          refine xg_iload 27 dX7_numberIn_25 rfl rfl ?_
          refine xg_iald 28 dX7_numberIn_27 rfl hx.1 (by rw [hx.2]; omega) ?_
          refine xg_iadd 29 dX7_numberIn_28 rfl ?_
          refine xg_bipush 31 dX7_numberIn_29 rfl (by decide) ?_
          refine xg_isub 32 dX7_numberIn_31 rfl ?_
          refine xg_istoren 33 _ dX7_numberIn_32 rfl rfl rfl (by decide) (Or.inr rfl) ?_
          refine xg_iinc 36 _ dX7_numberIn_33 rfl rfl rfl rfl (by decide) (Or.inr rfl) ?_
          refine xg_goto 14 dX7_numberIn_36 rfl ?_
          have e9 : p + (n : Int) + 1 = p + ((n + 1 : Nat) : Int) := by omega
          rw [e9]
          exact ih (n + 1) (by omega) (by omega)
    have e8 : p + ((0 : Nat) : Int) = p := by omega
    have ll := loop14 401 0 (by omega) (by omega)
    rw [e8] at ll
    exact ll
  · skip
    refine xg_iconst 8 dX7_numberIn_7 rfl ?_
    subst hX
    exact xg_ireturn dX7_numberIn_8 rfl ⟨Nat.le_refl _, Nat.le_refl _⟩ ⟨by unfold zNum; rw [if_pos (by omega)], rfl⟩

