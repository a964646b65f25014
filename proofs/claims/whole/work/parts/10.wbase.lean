def bI (b : Bool) : Int := if b = true then 1 else 0
theorem bI_01 (b : Bool) : bI b = 0 ∨ bI b = 1 := by cases b <;> simp [bI]
theorem bI_t {p : Prop} [Decidable p] (h : p) : bI (decide p) = 1 := by simp [bI, h]
theorem bI_f {p : Prop} [Decidable p] (h : ¬ p) : bI (decide p) = 0 := by simp [bI, h]
theorem bI_d (p : Prop) [Decidable p] : bI (decide p) = if p then 1 else 0 := by by_cases h : p <;> simp [bI, h]
def upA (I : Nat → Int → Int) (a : Nat) (f : Int → Int) : Nat → Int → Int := fun b => if b = a then f else I b
theorem upA_at (I : Nat → Int → Int) (a : Nat) (f : Int → Int) : upA I a f a = f := if_pos rfl
theorem upA_na (I : Nat → Int → Int) (a : Nat) (f : Int → Int) {b : Nat} (h : b ≠ a) : upA I a f b = I b := if_neg h
theorem upA_id (I : Nat → Int → Int) (a : Nat) : upA I a (I a) = I := by funext b; unfold upA; split <;> simp_all
theorem upA_up (I : Nat → Int → Int) (a : Nat) (f g : Int → Int) : upA (upA I a f) a g = upA I a g := by funext b; unfold upA; split <;> rfl
def wS (w : Int → Int) (k v : Int) : Int → Int := fun j => if j = k then v else w j
theorem wS_at (w : Int → Int) (k v : Int) : wS w k v k = v := if_pos rfl
theorem wS_ne (w : Int → Int) (k v : Int) {j : Int} (h : j ≠ k) : wS w k v j = w j := if_neg h
theorem upA_wS (I : Nat → Int → Int) (a : Nat) (w : Int → Int) (k v : Int) : upI (upA I a w) a k v = upA I a (wS w k v) := by
  funext b j
  unfold upI upA wS
  by_cases hb : b = a
  · subst hb; by_cases hj : j = k <;> simp [hj]
  · simp [hb]
/-- all elements are ints as the machine has them -/
def w32 (w : Int → Int) : Prop := ∀ i : Int, -2147483648 ≤ w i ∧ w i < 2147483648
theorem w32_S {w : Int → Int} (h : w32 w) (k v : Int) (hv : -2147483648 ≤ v ∧ v < 2147483648) : w32 (wS w k v) := by
  intro i; unfold wS; split
  · exact hv
  · exact h i
def xw (z : Int) : Int := (Int32.ofInt z).toInt
theorem J_xw (z : Int) : J (xw z) = J z := by unfold J xw; rw [Int32.ofInt_toInt]
theorem xw_r (z : Int) : -2147483648 ≤ xw z ∧ xw z < 2147483648 := by
  unfold xw
  have h1 := Int32.le_toInt (Int32.ofInt z)
  have h2 := Int32.toInt_lt (Int32.ofInt z)
  omega
theorem xw_id {z : Int} (h : -2147483648 ≤ z ∧ z < 2147483648) : xw z = z := x32 h
section XW
variable {E : xE} {M : xM} {R : Room} {X : xX} {pc : Nat} {L : List (Option Value)} {st : List Value} {h : xH} {z : Nat} {T : Nat → Nat × Int} {F : Nat → Nat → Int} {I : Nat → Int → Int} {P : Nat → Nat → Option Nat} {Y : Nat → Int → Option Nat} {c n : Nat}
theorem xg_ialdW {a : Nat} {w : Int → Int} {i : Int} (q : Nat) (d : decode M.2.1 pc = .ok (.iaload, 1)) (hq : pc + 1 = q) (hk : (T a).1 = 14) (hi : 0 ≤ i ∧ i < (T a).2) (kk : xG E M R X q L (J (w i) :: st) (z, T, F, upA I a w, P, Y) c n) : xG E M R X pc L (J i :: .ref a :: st) (z, T, F, upA I a w, P, Y) c n :=
  xg_iald q d hq hk hi (by rw [upA_at]; exact kk)
theorem xg_iastW {a : Nat} {w : Int → Int} {i v : Int} (q : Nat) (d : decode M.2.1 pc = .ok (.iastore, 1)) (hq : pc + 1 = q) (hk : (T a).1 = 14) (hi : 0 ≤ i ∧ i < (T a).2) (kk : xG E M R X q L st (z, T, F, upA I a (wS w i v), P, Y) c n) : xG E M R X pc L (J v :: J i :: .ref a :: st) (z, T, F, upA I a w, P, Y) c n :=
  xg_iast q d hq hk hi (by rw [upA_wS]; exact kk)
/-- a branch over a thing that is true or not -/
theorem xg_beq {b : Bool} {o : Int} (q r : Nat) (d : decode M.2.1 pc = .ok (.ifCond .eq o, 3)) (hq : (pc : Int) + o = (q : Int)) (hq2 : pc + 3 = r) (kt : b = false → xG E M R X q L st h c n) (kf : b = true → xG E M R X r L st h c n) : xG E M R X pc L (J (bI b) :: st) h c n :=
  xg_ifeq q r d hq hq2 (by rcases bI_01 b with h | h <;> omega) (fun t => kt (by cases b with | false => rfl | true => simp [bI] at t)) (fun t => kf (by cases b with | true => rfl | false => simp [bI] at t))
theorem xg_bne {b : Bool} {o : Int} (q r : Nat) (d : decode M.2.1 pc = .ok (.ifCond .ne o, 3)) (hq : (pc : Int) + o = (q : Int)) (hq2 : pc + 3 = r) (kt : b = true → xG E M R X q L st h c n) (kf : b = false → xG E M R X r L st h c n) : xG E M R X pc L (J (bI b) :: st) h c n :=
  xg_ifne q r d hq hq2 (by rcases bI_01 b with h | h <;> omega) (fun t => kt (by cases b with | true => rfl | false => simp [bI] at t)) (fun t => kf (by cases b with | false => rfl | true => simp [bI] at t))
theorem xg_deq {p : Prop} [Decidable p] {o : Int} (q r : Nat) (d : decode M.2.1 pc = .ok (.ifCond .eq o, 3)) (hq : (pc : Int) + o = (q : Int)) (hq2 : pc + 3 = r) (kt : ¬ p → xG E M R X q L st h c n) (kf : p → xG E M R X r L st h c n) : xG E M R X pc L (J (bI (decide p)) :: st) h c n :=
  xg_beq q r d hq hq2 (fun t => kt (of_decide_eq_false t)) (fun t => kf (of_decide_eq_true t))
theorem xg_dne {p : Prop} [Decidable p] {o : Int} (q r : Nat) (d : decode M.2.1 pc = .ok (.ifCond .ne o, 3)) (hq : (pc : Int) + o = (q : Int)) (hq2 : pc + 3 = r) (kt : p → xG E M R X q L st h c n) (kf : ¬ p → xG E M R X r L st h c n) : xG E M R X pc L (J (bI (decide p)) :: st) h c n :=
  xg_bne q r d hq hq2 (fun t => kt (of_decide_eq_true t)) (fun t => kf (of_decide_eq_false t))
theorem xg_mmin {i d0 mc ms : Nat} {a b : Int} (q : Nat) (hl : Cond.methodLink M.1.cls i Lib.Math.min.name ∈ xT) (d : decode M.2.1 pc = .ok (.invokestatic i, 3)) (hq : pc + 3 = q) (hr : (-2147483648 ≤ a ∧ a < 2147483648) ∧ -2147483648 ≤ b ∧ b < 2147483648) (hsum : (st.map fun v => v.category).sum ≤ 8) (hd : 1 ≤ d0) (hc : c ≤ mc ∧ n ≤ ms) (kk : xG E M (xR d0 mc ms) X q L (J (min a b) :: st) h c n) : xG E M (xR d0 mc ms) X pc L (J b :: J a :: st) h c n := by
  subst hq
  intro p e s m args below meth cd C H locs ls hP hS hL
  have hts := C.2.2.2.2.2.1
  refine va_mmin C.1 C.2.1 (C.2.2.2.1.trans hL.1.symm) C.2.2.2.2.1 (hts _ hl) (hts _ k_mmin.1) (hts _ k_mmin.2.1) (hts _ k_mmin.2.2) (by show 1 ≤ d0; omega) (by show _ ≤ 60 * d0; omega) hc.1 hc.2 d ?_
  have k2 := kk p e s m args below meth cd C H locs ls hP hS hL
  rw [show (if Int32.ofInt b < Int32.ofInt a then Int32.ofInt b else Int32.ofInt a) = Int32.ofInt (min a b) by
    simp only [x32lt ⟨hr.2, hr.1⟩]
    by_cases h : b < a
    · rw [if_pos h, Int.min_eq_right (by omega)]
    · rw [if_neg h, Int.min_eq_left (by omega)]]
  exact k2
theorem xg_mmax {i d0 mc ms : Nat} {a b : Int} (q : Nat) (hl : Cond.methodLink M.1.cls i Lib.Math.max.name ∈ xT) (d : decode M.2.1 pc = .ok (.invokestatic i, 3)) (hq : pc + 3 = q) (hr : (-2147483648 ≤ a ∧ a < 2147483648) ∧ -2147483648 ≤ b ∧ b < 2147483648) (hsum : (st.map fun v => v.category).sum ≤ 8) (hd : 1 ≤ d0) (hc : c ≤ mc ∧ n ≤ ms) (kk : xG E M (xR d0 mc ms) X q L (J (max a b) :: st) h c n) : xG E M (xR d0 mc ms) X pc L (J b :: J a :: st) h c n := by
  subst hq
  intro p e s m args below meth cd C H locs ls hP hS hL
  have hts := C.2.2.2.2.2.1
  refine va_mmax C.1 C.2.1 (C.2.2.2.1.trans hL.1.symm) C.2.2.2.2.1 (hts _ hl) (hts _ k_mmax.1) (hts _ k_mmax.2.1) (hts _ k_mmax.2.2) (by show 1 ≤ d0; omega) (by show _ ≤ 60 * d0; omega) hc.1 hc.2 d ?_
  have k2 := kk p e s m args below meth cd C H locs ls hP hS hL
  rw [show (if Int32.ofInt a < Int32.ofInt b then Int32.ofInt b else Int32.ofInt a) = Int32.ofInt (max a b) by
    simp only [x32lt hr]
    by_cases h : a < b
    · rw [if_pos h, Int.max_eq_right (by omega)]
    · rw [if_neg h, Int.max_eq_left (by omega)]]
  exact k2
end XW
/-! bits of ints that are not negative -/
theorem xnn {a : Int} (h : 0 ≤ a ∧ a < 2147483648) : (Int32.ofInt a).toBitVec = BitVec.ofNat 32 a.toNat := by
  obtain ⟨k, rfl⟩ := Int.eq_ofNat_of_zero_le h.1
  rw [Int32.ofInt_eq_ofNat]
  rfl
theorem xbv {b : BitVec 32} {k : Nat} (h : b.toNat = k) (hk : k < 2147483648) : (Int32.ofBitVec b).toInt = (k : Int) := by
  show b.toInt = _
  rw [BitVec.toInt_eq_toNat_of_lt (by omega), h]
theorem xor2_nat {a b : Nat} (ha : a < 2147483648) (hb : b < 2147483648) : xor2 (a : Int) (b : Int) = ((a ||| b : Nat) : Int) := by
  have h : (a ||| b) < 2 ^ 31 := Nat.or_lt_two_pow (by omega) (by omega)
  have e : (Int32.ofInt (a : Int) ||| Int32.ofInt (b : Int)) = Int32.ofBitVec (BitVec.ofNat 32 a ||| BitVec.ofNat 32 b) := by
    rw [Int32.ofInt_eq_ofNat, Int32.ofInt_eq_ofNat]; rfl
  unfold xor2
  rw [e]
  refine xbv ?_ (by omega)
  rw [BitVec.toNat_or, BitVec.toNat_ofNat, BitVec.toNat_ofNat, Nat.mod_eq_of_lt (by omega), Nat.mod_eq_of_lt (by omega)]
theorem xand_nat {a b : Nat} (ha : a < 2147483648) (hb : b < 2147483648) : xand (a : Int) (b : Int) = ((a &&& b : Nat) : Int) := by
  have h : (a &&& b) < 2 ^ 31 := Nat.and_lt_two_pow _ (by omega)
  have e : (Int32.ofInt (a : Int) &&& Int32.ofInt (b : Int)) = Int32.ofBitVec (BitVec.ofNat 32 a &&& BitVec.ofNat 32 b) := by
    rw [Int32.ofInt_eq_ofNat, Int32.ofInt_eq_ofNat]; rfl
  unfold xand
  rw [e]
  refine xbv ?_ (by omega)
  rw [BitVec.toNat_and, BitVec.toNat_ofNat, BitVec.toNat_ofNat, Nat.mod_eq_of_lt (by omega), Nat.mod_eq_of_lt (by omega)]
