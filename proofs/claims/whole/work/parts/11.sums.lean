/-! sums and sets, the words of both sides -/
def pSum (f : Int → Int) : Nat → Int
  | 0 => 0
  | k + 1 => pSum f k + f (k : Int)
theorem pSum_0 (f : Int → Int) : pSum f 0 = 0 := rfl
theorem pSum_s (f : Int → Int) (k : Nat) : pSum f (k + 1) = pSum f k + f (k : Int) := rfl
theorem pSum_bd {f : Int → Int} {b : Int} : ∀ {k : Nat}, (∀ j : Nat, j < k → 0 ≤ f j ∧ f j ≤ b) → 0 ≤ pSum f k ∧ pSum f k ≤ b * k
  | 0, _ => by simp [pSum]
  | k + 1, h => by
    have h1 := pSum_bd (k := k) (fun j hj => h j (by omega))
    have h2 := h k (by omega)
    rw [pSum_s]
    refine ⟨by omega, ?_⟩
    rw [show b * ((k + 1 : Nat) : Int) = b * (k : Int) + b by rw [Int.natCast_add, Int.mul_add]; simp]
    omega
theorem pSum_congr {f g : Int → Int} : ∀ {k : Nat}, (∀ j : Nat, j < k → f j = g j) → pSum f k = pSum g k
  | 0, _ => rfl
  | k + 1, h => by rw [pSum_s, pSum_s, pSum_congr (k := k) (fun j hj => h j (by omega)), h k (by omega)]
theorem pSum_le {f : Int → Int} : ∀ {k m : Nat}, k ≤ m → (∀ j : Nat, j < m → 0 ≤ f j) → pSum f k ≤ pSum f m
  | k, 0, h, _ => by rw [show k = 0 by omega]; exact Int.le_refl _
  | k, m + 1, h, hf => by
    by_cases hk : k = m + 1
    · subst hk; exact Int.le_refl _
    · have h1 := pSum_le (k := k) (m := m) (by omega) (fun j hj => hf j (by omega))
      have h2 := hf m (by omega)
      rw [pSum_s]; omega
def nSet (p : Nat → Bool) : Nat → Nat
  | 0 => 0
  | k + 1 => nSet p k ||| (if p k = true then 2 ^ k else 0)
theorem nSet_lt (p : Nat → Bool) : ∀ k : Nat, nSet p k < 2 ^ k
  | 0 => by simp [nSet]
  | k + 1 => by
    have h := nSet_lt p k
    rw [nSet]
    refine Nat.or_lt_two_pow (Nat.lt_trans h (Nat.pow_lt_pow_right (by omega) (by omega))) ?_
    split
    · exact Nat.pow_lt_pow_right (by omega) (by omega)
    · exact Nat.two_pow_pos _
theorem nSet_bit (p : Nat → Bool) : ∀ k r : Nat, (nSet p k).testBit r = (decide (r < k) && p r)
  | 0, r => by simp [nSet]
  | k + 1, r => by
    rw [nSet, Nat.testBit_or, nSet_bit p k r]
    by_cases h : p k = true
    · rw [if_pos h, Nat.testBit_two_pow]
      by_cases hr : k = r
      · subst hr; simp [h]
      · have : (decide (r < k + 1)) = decide (r < k) := by
          rw [decide_eq_decide]; omega
        simp [hr, this]
    · rw [if_neg h, Nat.zero_testBit]
      by_cases hr : k = r
      · subst hr
        simp at h
        simp [h]
      · have : (decide (r < k + 1)) = decide (r < k) := by
          rw [decide_eq_decide]; omega
        simp [this]
theorem nSet_congr {p q : Nat → Bool} : ∀ {k : Nat}, (∀ j, j < k → p j = q j) → nSet p k = nSet q k
  | 0, _ => rfl
  | k + 1, h => by rw [nSet, nSet, nSet_congr (k := k) (fun j hj => h j (by omega)), h k (by omega)]
theorem xshl1 : ∀ r : Fin 31, xshl 1 ((r.val : Nat) : Int) = ((2 ^ r.val : Nat) : Int) := by decide +kernel
theorem xshl1' {r : Nat} (h : r < 31) : xshl 1 (r : Int) = ((2 ^ r : Nat) : Int) := xshl1 ⟨r, h⟩
theorem xsh31 : ∀ r : Fin 32, (((Int32.ofInt (r.val : Int)) &&& 31).toBitVec.smod 32).toNat = r.val := by decide +kernel
theorem xshr_nat {a r : Nat} (ha : a < 2147483648) (hr : r < 32) : xshr (a : Int) (r : Int) = ((a >>> r : Nat) : Int) := by
  have e : (Int32.ofInt (a : Int) >>> (Int32.ofInt (r : Int) &&& 31)) = Int32.ofBitVec (BitVec.sshiftRight (BitVec.ofNat 32 a) (((Int32.ofInt (r : Int)) &&& 31).toBitVec.smod 32).toNat) := by
    rw [Int32.ofInt_eq_ofNat]; rfl
  unfold xshr
  rw [e, xsh31 ⟨r, hr⟩]
  have hm : (BitVec.ofNat 32 a).msb = false := by
    rw [BitVec.msb_eq_false_iff_two_mul_lt, BitVec.toNat_ofNat, Nat.mod_eq_of_lt (by omega)]; omega
  have h2 : a >>> r ≤ a := Nat.shiftRight_le a r
  refine xbv ?_ (by omega)
  rw [BitVec.toNat_sshiftRight_of_msb_false hm, BitVec.toNat_ofNat, Nat.mod_eq_of_lt (by omega)]
theorem xhas {a r : Nat} (ha : a < 2147483648) (hr : r < 32) : xand (xshr (a : Int) (r : Int)) 1 = 1 ↔ a.testBit r = true := by
  have h2 : a >>> r ≤ a := Nat.shiftRight_le a r
  rw [xshr_nat ha hr, show (1 : Int) = ((1 : Nat) : Int) from rfl, xand_nat (by omega) (by omega), Nat.and_one_is_mod]
  unfold Nat.testBit
  rw [Nat.one_and_eq_mod_two, bne_iff_ne]
  omega
/-- what Integer.bitCount works off -/
def xbc (a : Int) : Int :=
  let i1 := a - xand (xushr a 1) 1431655765
  let i2 := xand i1 858993459 + xand (xushr i1 2) 858993459
  let i3 := xand (i2 + xushr i2 4) 252645135
  let i4 := i3 + xushr i3 8
  let i5 := i4 + xushr i4 16
  xand i5 63
def nPop : Nat → Nat → Nat
  | 0, _ => 0
  | k + 1, a => nPop k a + (if a.testBit k = true then 1 else 0)
theorem xbc_pop0 : ∀ a b : Fin 64, xbc ((64 * a.val + b.val : Nat) : Int) = ((nPop 12 (64 * a.val + b.val) : Nat) : Int) := by decide +kernel
theorem xbc_pop (a : Fin 4096) : xbc ((a.val : Nat) : Int) = ((nPop 12 a.val : Nat) : Int) := by
  have h := xbc_pop0 ⟨a.val / 64, by omega⟩ ⟨a.val % 64, by omega⟩
  rw [show 64 * (a.val / 64) + a.val % 64 = a.val by omega] at h
  exact h
theorem nPop_set (p : Nat → Bool) : ∀ k n : Nat, n ≤ k → ((nPop k (nSet p n) : Nat) : Int) = pSum (fun r => if p r.toNat = true then 1 else 0) n
  | 0, n, h => by rw [show n = 0 by omega]; rfl
  | k + 1, n, h => by
    rw [nPop, nSet_bit]
    by_cases hn : n = k + 1
    · subst hn
      have e : nPop k (nSet p (k + 1)) = nPop k (nSet p k) := by
        have : ∀ j a b : Nat, (∀ r, r < j → a.testBit r = b.testBit r) → nPop j a = nPop j b := by
          intro j
          induction j with
          | zero => intro a b _; rfl
          | succ j ih => intro a b hab; rw [nPop, nPop, ih a b (fun r hr => hab r (by omega)), hab j (by omega)]
        refine this k _ _ (fun r hr => ?_)
        rw [nSet_bit, nSet_bit]
        simp [hr, Nat.lt_succ_of_lt hr]
      rw [e, pSum_s, ← nPop_set p k k (Nat.le_refl _)]
      simp only [Int.toNat_natCast, Nat.lt_succ_self, decide_true, Bool.true_and]
      split <;> simp
    · have h1 := nPop_set p k n (by omega)
      rw [← h1]
      have : ¬ k < n := by omega
      simp [this]
theorem xbc_set (p : Nat → Bool) {n : Nat} (hn : n ≤ 12) : xbc (nSet p n : Nat) = pSum (fun r => if p r.toNat = true then 1 else 0) n := by
  have h := nSet_lt p n
  have h2 : nSet p n < 4096 := Nat.lt_of_lt_of_le h (show 2 ^ n ≤ 2 ^ 12 from Nat.pow_le_pow_right (by omega) hn)
  rw [xbc_pop ⟨nSet p n, h2⟩, nPop_set p 12 n hn]
