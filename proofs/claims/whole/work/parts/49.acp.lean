/-! arraycopy between two rows of ints, from their beginnings -/
def wCq (u v : Int → Int) (n : Int) : Int → Int := fun j => if 0 ≤ j ∧ j < n then v j else u j
theorem wCq_in (u v : Int → Int) (n : Int) {j : Int} (h : 0 ≤ j ∧ j < n) : wCq u v n j = v j := if_pos h
theorem xg_acp {E : xE} {M : xM} {X : xX} {pc : Nat} {L : List (Option Value)} {st : List Value} {z : Nat} {T : Nat → Nat × Int} {F : Nat → Nat → Int} {I : Nat → Int → Int} {P : Nat → Nat → Option Nat} {Y : Nat → Int → Option Nat} {c n i d0 mc ms a a0 : Nat} {l : Int} (q : Nat) (hl : Cond.methodLink M.1.cls i arraycopyName ∈ xT) (d : decode M.2.1 pc = .ok (.invokestatic i, 3)) (hq : pc + 3 = q) (hk0 : (T a0).1 = 14) (hk : (T a).1 = 14) (hne : a0 ≠ a) (hn : 0 ≤ l ∧ l ≤ (T a0).2 ∧ l ≤ (T a).2) (hsum : (st.map fun v => v.category).sum ≤ 8) (hd : 1 ≤ d0)
    (kk : xG E M (xR d0 mc ms) X q L st (z, T, F, upA I a (wCq (I a) (I a0) l), P, Y) c n) : xG E M (xR d0 mc ms) X pc L (J l :: J 0 :: .ref a :: J 0 :: .ref a0 :: st) (z, T, F, I, P, Y) c n := by
  subst hq
  intro p e s m args below meth cd C H locs ls hP hS hL TT hT XX
  have hts := C.2.2.2.2.2.1
  have hK : va_K E.2.1 vwCl (xtys E) s := C.2.2.2.2.2.2.2.2.1
  obtain ⟨h0, h1⟩ := hP.2 a (by show (T a).1 ≠ 0; rw [hk]; omega)
  obtain ⟨g0, g1⟩ := hP.2 a0 (by show (T a0).1 ≠ 0; rw [hk0]; omega)
  rw [xcell_int hk (Or.inl rfl)] at h1
  rw [xcell_int hk0 (Or.inl rfl)] at g1
  have h2 : (T a).2 < 2147483648 := h0.2.2.1
  have hln : (Int32.ofInt l).toNatClampNeg = l.toNat := xnat ⟨hn.1, by omega⟩
  have hl0 : (Int32.ofInt l).toInt = l := x32 ⟨by omega, by omega⟩
  have hc0 : H[a0]? = some (vp_cell (E.2.2.1 0) ((T a0).2.toNat, .inl (fun j => Int32.ofInt (I a0 j)))) := g1
  have hc1 : H[a]? = some (vp_cell (E.2.2.1 0) ((T a).2.toNat, .inl (fun j => Int32.ofInt (I a j)))) := h1
  obtain ⟨-, k0, hk0', cm0, hkk0⟩ := (hK.2 0 (E.2.2.1 0, .int) rfl).1 (T a0).2.toNat (fun j => .int (Int32.ofInt (I a0 j)))
  obtain ⟨-, k1, hk1', cm1, hkk1⟩ := (hK.2 0 (E.2.2.1 0, .int) rfl).1 (T a).2.toNat (fun j => .int (Int32.ofInt (I a j)))
  have n0 : ¬ (Int32.ofInt l) < 0 := by rw [show (0 : Int32) = Int32.ofInt 0 from rfl, x32lt ⟨⟨by omega, by omega⟩, by omega, by omega⟩]; omega
  have hnw : nativeFrameWords "java/lang/System" "arraycopy" 5 + 11 ≤ 52 := by decide +kernel
  obtain ⟨vm', X', step⟩ := XX.arraycopy C.1 C.2.2.2.2.1 (hts _ hl) (hts _ k_acp.1) (hts _ k_acp.2.1) (hts _ k_acp.2.2) (src := a0) (dst := a) (cs := vp_cell (E.2.2.1 0) ((T a0).2.toNat, .inl (fun j => Int32.ofInt (I a0 j)))) (cd := vp_cell (E.2.2.1 0) ((T a).2.toNat, .inl (fun j => Int32.ofInt (I a j)))) (srcPos := 0) (destPos := 0) (n := Int32.ofInt l) (by rw [hT]; exact hc0) (by rw [hT]; exact hc1)
    (fun _ h => by cases h) (fun _ h => by cases h) (fun h => by cases h) (fun h => by cases h) hk0' hk1' hkk0 hkk1 (by simp [refKind]) (by decide) (by decide) n0
    (by rw [hl0]; show ¬ ((0 : Int) + l > ((arrV _ _ _).slots.size : Int)); rw [arrV_size]; omega)
    (by rw [hl0]; show ¬ ((0 : Int) + l > ((arrV _ _ _).slots.size : Int)); rw [arrV_size]; omega)
    (fun vm₁ _ i hi => by
      have e : (vp_cell (E.2.2.1 0) ((T a0).2.toNat, .inl (fun j => Int32.ofInt (I a0 j)))).slots.getD ((0 : Int32).toNatClampNeg + i) .null = .int (Int32.ofInt (I a0 (((0 : Int32).toNatClampNeg + i : Nat) : Int))) := by
        show (arrV _ _ _).slots.getD _ _ = _
        rw [hln] at hi
        rw [Array.getD_eq_getD_getElem?, arrV_read _ _ (by show 0 + i < _; omega)]
        rfl
      exact ⟨by rw [e]; rfl, by rw [e]; exact trivial⟩)
    (g := F0 m pc ls (J l :: J 0 :: .ref a :: J 0 :: .ref a0 :: st)) rfl (by rw [C.2.2.2.1, hL.1]) (rest := st) rfl (by rw [C.2.1]; exact d) (by show 1 ≤ d0; omega) (by show 2 * 0 + _ + _ ≤ 60 * d0; omega)
  have e1 : copied (vp_cell (E.2.2.1 0) ((T a0).2.toNat, .inl (fun j => Int32.ofInt (I a0 j)))) (vp_cell (E.2.2.1 0) ((T a).2.toNat, .inl (fun j => Int32.ofInt (I a j)))) 0 0 (Int32.ofInt l) = vp_cell (E.2.2.1 0) ((T a).2.toNat, .inl (va_cpy (fun j => Int32.ofInt (I a0 j)) (fun j => Int32.ofInt (I a j)) (0 : Int32).toNatClampNeg (0 : Int32).toNatClampNeg (Int32.ofInt l).toNatClampNeg)) := va_copied (fun z : Int32 => Value.int z) (E.2.2.1 0) (E.2.2.1 0) (n0 := (T a0).2.toNat) (n1 := (T a).2.toNat) (sp := (0 : Int32).toNatClampNeg) (dp := (0 : Int32).toNatClampNeg) (n := (Int32.ofInt l).toNatClampNeg) (fun j : Nat => Int32.ofInt (I a0 j)) (fun j : Nat => Int32.ofInt (I a j)) (by rw [hln]; show 0 + l.toNat ≤ _; omega)
  have e2 : va_cpy (fun j => Int32.ofInt (I a0 j)) (fun j => Int32.ofInt (I a j)) (0 : Int32).toNatClampNeg (0 : Int32).toNatClampNeg (Int32.ofInt l).toNatClampNeg = fun j : Nat => Int32.ofInt (upA I a (wCq (I a) (I a0) l) a j) := by
    funext j
    rw [hln, upA_at]
    unfold va_cpy wCq
    show (if 0 ≤ j ∧ j < 0 + l.toNat then Int32.ofInt (I a0 ((0 + (j - 0) : Nat) : Int)) else _) = _
    by_cases hj : (j : Int) < l
    · rw [if_pos (by omega), if_pos (by omega), show 0 + (j - 0) = j by omega]
    · rw [if_neg (by omega), if_neg (by omega)]
  rw [e1, e2] at X' step
  have hl9 : a < H.size := (Array.getElem?_eq_some_iff.mp hc1).1
  have hheap : ((TT.setVm vm').setCell a (vp_cell (E.2.2.1 0) ((T a).2.toNat, .inl (fun j : Nat => Int32.ofInt (upA I a (wCq (I a) (I a0) l) a j))))).heap = H.setIfInBounds a (vp_cell (E.2.2.1 0) ((T a).2.toNat, .inl (fun j : Nat => Int32.ofInt (upA I a (wCq (I a) (I a0) l) a j)))) := by rw [← hT]; rfl
  obtain ⟨t, a1, b1⟩ := kk p e s m args below meth cd C (H.setIfInBounds a (vp_cell (E.2.2.1 0) ((T a).2.toNat, .inl (fun j : Nat => Int32.ofInt (upA I a (wCq (I a) (I a0) l) a j))))) _ ls
    (hP.set a (by simp) (fun q hq => by simp [Array.getElem?_setIfInBounds, Ne.symm hq]) rfl rfl (xBo.no (by show (T a).1 ≠ 7; rw [hk]; omega)) (fun x hx => by
      show xck E (T x).1 (T x).2 (F x) (upA I a (wCq (I a) (I a0) l) x) (P x) (Y x) = xck E (T x).1 (T x).2 (F x) (I x) (P x) (Y x)
      rw [upA_na _ _ _ hx]) (by
      rw [xcell_int hk (Or.inl rfl)]
      show (H.setIfInBounds a _)[a]? = some _
      simp [Array.getElem?_setIfInBounds, hl9]))
    ⟨by simp; exact hS.1, fun q g1 g2 => by
      rw [show (H.setIfInBounds a (vp_cell (E.2.2.1 0) ((T a).2.toNat, .inl (fun j : Nat => Int32.ofInt (upA I a (wCq (I a) (I a0) l) a j)))))[q]? = H[q]? by
        have : q ≠ a := fun e => g2 (by rw [e]; exact h0.1)
        simp [Array.getElem?_setIfInBounds, Ne.symm this]]
      exact hS.2.1 q g1 g2, fun q hq => by
      rcases List.mem_append.mp hq with h | h
      · exact hS.2.2 q h
      · obtain ⟨z, -, hz⟩ := List.mem_map.mp h
        rw [← hz]
        exact h0.1⟩ hL _ hheap X'
  exact ⟨t, step t a1, b1⟩

