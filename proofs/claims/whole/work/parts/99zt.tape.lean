/-! the bytes that both sides are fed -/
theorem xby_bv (b c : BitVec 32) (h : ∀ i : Nat, i < 8 → c.getLsbD i = b.getLsbD i) : (0 ≤ (b &&& 255#32).toInt ∧ (b &&& 255#32).toInt ≤ 255) ∧ (c.signExtend 8).toInt = if (b &&& 255#32).toInt < 128 then (b &&& 255#32).toInt else (b &&& 255#32).toInt - 256 := by
  have h1 : (b &&& 255#32).toNat = b.toNat % 256 := by
    rw [BitVec.toNat_and, show (255#32).toNat = 2 ^ 8 - 1 from rfl, Nat.and_two_pow_sub_one_eq_mod]
  have h2 : (b &&& 255#32).toInt = ((b.toNat % 256 : Nat) : Int) := by
    rw [BitVec.toInt_eq_toNat_cond, h1, if_pos (by omega)]
  have h3 : c.signExtend 8 = b.setWidth 8 := by
    rw [BitVec.signExtend_eq_setWidth_of_le _ (by omega)]
    apply BitVec.eq_of_getLsbD_eq
    intro i hi
    rw [BitVec.getLsbD_setWidth, BitVec.getLsbD_setWidth, h i hi]
  have h4 : (b.setWidth 8).toNat = b.toNat % 256 := BitVec.toNat_setWidth ..
  rw [h2, h3, BitVec.toInt_eq_toNat_cond, h4]
  refine ⟨by omega, ?_⟩
  by_cases q : b.toNat % 256 < 128
  · rw [if_pos (by omega), if_pos (by omega)]
  · rw [if_neg (by omega), if_neg (by omega)]; omega
theorem xby (x s : Int) (hs : s = 24 ∨ s = 16 ∨ s = 8 ∨ s = 0) : (0 ≤ xand (xushr x s) 255 ∧ xand (xushr x s) 255 ≤ 255) ∧ xi2b (xshr x s) = if xand (xushr x s) 255 < 128 then xand (xushr x s) 255 else xand (xushr x s) 255 - 256 := by
  unfold xand xushr xi2b xshr
  rw [Int32.ofInt_toInt, Int32.ofInt_toInt]
  generalize Int32.ofInt x = a
  have key : ∀ k : Nat, k ≤ 24 → (0 ≤ ((a.toBitVec >>> k) &&& 255#32).toInt ∧ ((a.toBitVec >>> k) &&& 255#32).toInt ≤ 255) ∧ ((a.toBitVec.sshiftRight k).signExtend 8).toInt = if ((a.toBitVec >>> k) &&& 255#32).toInt < 128 then ((a.toBitVec >>> k) &&& 255#32).toInt else ((a.toBitVec >>> k) &&& 255#32).toInt - 256 := fun k hk => xby_bv _ _ (fun i hi => by
    rw [BitVec.getLsbD_sshiftRight, BitVec.getLsbD_ushiftRight]
    simp [show k + i < 32 by omega, show ¬ 32 ≤ i by omega])
  rcases hs with h | h | h | h <;> subst h
  · exact key 24 (by omega)
  · exact key 16 (by omega)
  · exact key 8 (by omega)
  · exact key 0 (by omega)
theorem rTp.feed {t u : Int → Int} {e : Int} {g : Int → Int} (h : rTp t u e) (he : 0 ≤ e) : rTp (cFd t e g) (sFdN u e g 20) (e + 20) := by
  intro j j0 j1
  by_cases c : j < e
  · rw [show cFd t e g j = t j from if_neg (by omega), show sFdN u e g 20 j = u j from if_neg (by omega)]
    exact h j j0 c
  · rw [show cFd t e g j = xand (xushr (g ((j - e) / 4)) (24 - 8 * ((j - e) % 4))) 255 from if_pos (by omega), show sFdN u e g 20 j = xi2b (xshr (g ((j - e) / 4)) (24 - 8 * ((j - e) % 4))) from if_pos (by omega)]
    exact xby _ _ (by omega)
theorem rTp.le {t u : Int → Int} {e e2 : Int} (h : rTp t u e) (he : e2 ≤ e) : rTp t u e2 := fun j j0 j1 => h j j0 (by omega)
