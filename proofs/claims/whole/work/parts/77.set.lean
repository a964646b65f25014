section RBX
variable {T : Nat → Nat × Int} {F F' : Nat → Nat → Int} {I I' : Nat → Int → Int} {P P' : Nat → Nat → Option Nat} {Y Y' : Nat → Int → Option Nat} {a : Nat} {π : Nat → Nat} {w w' : Int → Int}
/-- a number of the store set: pace, tick, seed, texts -/
theorem SR.sc {k : Nat} {i v : Int} (h : SR T F I P Y a w) (hk : (k = 12 ∧ i = 6) ∨ (k = 13 ∧ i = 13) ∨ (k = 14 ∧ i = 15) ∨ (k = 15 ∧ i = 1)) (hc : wCell i v) : SR T (upF F a k v) I P Y a (wS w i v) := by
  obtain ⟨g1, g2, ⟨π, g3⟩, g4, g5⟩ := id h
  have N := g1.1.2.1
  obtain ⟨-, ⟨s1, s2, s3⟩, -, -, -, s4⟩ := g3
  have hw : ∀ j : Int, j ≠ i → wS w i v j = w j := fun j hj => wS_ne _ _ _ hj
  have he : eqR w (wS w i v) := eqR_S _ _ _ (by omega)
  have fn : ∀ b : Nat, b ≠ a → upF F a k v b = F b := fun b hb => upF_na _ _ _ _ hb
  refine h.mv (fun b hb hb2 => fn b (by omega)) (fun _ _ _ _ => rfl) (wOk_S g1.1 _ _ hc) (wHi_S _ _ _ (by omega)) (hw _ (by omega)) (fun j _ _ => hw _ (by omega)) ⟨?_, s2.mv (fn _ (by omega)) (fun j _ _ => hw _ (by omega)), s3.mv (by rw [fn _ (by omega)]) (by rw [fn _ (by omega)]) (by rw [fn _ (by omega)]) (hw _ (by omega)) (hw _ (by omega)) (hw _ (by omega))⟩
    ((s4.heap (fn _ (by omega)) (fun _ _ => rfl)).congr (hw _ (by omega)) (fun j _ _ => hw _ (by omega)) g1.1.2.2.2.2.2.2.2.2.2.2.1.2) ((g4.heap (fn _ (by omega)) rfl rfl rfl rfl).congr he N (hw _ (by omega)) (hw _ (by omega)) (hw _ (by omega))) (by rw [fn _ (by omega), g5, he.left N (hw _ (by omega))])
  obtain ⟨c1, c9, c10, c11, c12, c13, c14, c15⟩ := s1
  rcases hk with ⟨rfl, rfl⟩ | ⟨rfl, rfl⟩ | ⟨rfl, rfl⟩ | ⟨rfl, rfl⟩
  all_goals refine ⟨?_, ?_, ?_, ?_, ?_, ?_, ?_, ?_⟩ <;> simp [upF, wS, *]
/-- plan, fan, size: the levels are still the old ones -/
theorem RB.sc {k : Nat} {i v : Int} (h : RB T F I P Y a π w) (hO : wOk w) (hk : (k = 9 ∧ i = 3) ∨ (k = 10 ∧ i = 4) ∨ (k = 11 ∧ i = 5)) : RB T (upF F a k v) I P Y a π (wS w i v) := by
  obtain ⟨-, ⟨s1, s2, s3⟩, -, -, -, s4⟩ := id h
  have hw : ∀ j : Int, j ≠ i → wS w i v j = w j := fun j hj => wS_ne _ _ _ hj
  have fn : ∀ b : Nat, b ≠ a → upF F a k v b = F b := fun b hb => upF_na _ _ _ _ hb
  refine h.mv (fun b _ _ => fn b (by omega)) (fun _ _ _ => rfl) (hw _ (by omega)) (fun j _ _ => hw _ (by omega)) hO.2.1.2 ⟨?_, s2.mv (fn _ (by omega)) (fun j _ _ => hw _ (by omega)), s3.mv (by rw [fn _ (by omega)]) (by rw [fn _ (by omega)]) (by rw [fn _ (by omega)]) (hw _ (by omega)) (hw _ (by omega)) (hw _ (by omega))⟩
    ((s4.heap (fn _ (by omega)) (fun _ _ => rfl)).congr (hw _ (by omega)) (fun j _ _ => hw _ (by omega)) hO.2.2.2.2.2.2.2.2.2.2.1.2)
  obtain ⟨c1, c9, c10, c11, c12, c13, c14, c15⟩ := s1
  rcases hk with ⟨rfl, rfl⟩ | ⟨rfl, rfl⟩ | ⟨rfl, rfl⟩
  all_goals refine ⟨?_, ?_, ?_, ?_, ?_, ?_, ?_, ?_⟩ <;> simp [upF, wS, *]
theorem xdr2 (z : Int) : xand (xushr z 16) 32767 = xand (xshr z 16) 32767 := by
  unfold xand xushr xshr
  rw [Int32.ofInt_toInt, Int32.ofInt_toInt]
  congr 1
  apply Int32.toBitVec_inj.mp
  show ((Int32.ofInt z).toBitVec >>> 16) &&& 32767#32 = ((Int32.ofInt z).toBitVec.sshiftRight 16) &&& 32767#32
  generalize (Int32.ofInt z).toBitVec = b
  apply BitVec.eq_of_getLsbD_eq
  intro i hi
  rw [BitVec.getLsbD_and, BitVec.getLsbD_and]
  by_cases h : i < 15
  · rw [BitVec.getLsbD_sshiftRight, BitVec.getLsbD_ushiftRight]
    simp [hi, show 16 + i < 32 by omega, show ¬ 32 ≤ i by omega]
  · have : (32767#32).getLsbD i = false := by
      show (32767 % 2 ^ 32).testBit i = false
      rw [show 32767 % 2 ^ 32 = 2 ^ 15 - 1 from rfl, Nat.testBit_two_pow_sub_one]
      exact decide_eq_false h
    rw [this, Bool.and_false, Bool.and_false]
theorem wInv_halt (h : wInv w) : wInv (sHalt w) := by
  have hN := h.1.1.2.1
  refine ⟨h.1.mv (wOk_halt h.1.1) (wHi_halt2 hN.2), wRn_halt h.2.1 hN.2, fun q => ?_, ?_⟩
  · rw [sHalt_16 h.1.1.2.2.2.2.2.2.2.2.2.2.2.1] at q; omega
  · have : sHalt w 11 = w 11 := by
      unfold sHalt
      split
      · rw [sNoMore_c (by omega) (by omega) (fun _ _ => by omega), sTold_lo _ _ _ _ (by omega) (by omega)]
      · rfl
    rw [this]; exact h.2.2.2
theorem wInv.S3 (h : wInv w) {i v : Int} (hi : i = 3 ∨ i = 4 ∨ i = 5) (hc : wCell i v) : wInv (wS w i v) := h.S (by omega) hc (fun q => by omega)
end RBX

