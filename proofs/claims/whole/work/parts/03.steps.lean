abbrev xX : Type := List Frame → Array Value → State → State → Prop
def xCx (E : xE) (M : xM) (p : Program) (s : State) (m : MethodId) (args : Array Value) (meth : Method) (cd : Code) : Prop :=
  p.tables.exec = Jvm.exec ∧ cd.code = M.2.1 ∧ meth.sig.returnType = M.2.2.2.1 ∧ cd.maxLocals = M.2.2.1 ∧ s.vm.findClass M.1.cls = some m.cls ∧ (∀ w ∈ xT, w.before args s = true) ∧ meth.locks = false ∧ (meth.name = M.1.name ∧ (M.2.2.2.2 = 99 ∨ s.methodNamed? M.1 = some m)) ∧ xKn E s
def xG (E : xE) (M : xM) (R : Room) (X : xX) (pc : Nat) (L : List (Option Value)) (st : List Value) (h : xH) (c n : Nat) : Prop :=
  ∀ (p : Program) (e : Env) (s : State) (m : MethodId) (args : Array Value) (below : List Frame) (meth : Method) (cd : Code), xCx E M p s m args meth cd →
    ∀ (H : Heap) (locs : List Loc) (ls : Array Slot), xHP E h H → va_S (xA E) s.heap H locs → xhasL ls M.2.2.1 L →
      W p E.1 e R s m args below meth cd H locs c n (X below args s) (F0 m pc ls st)
theorem J_add (a b : Int) : J (a + b) = .int (Int32.ofInt a + Int32.ofInt b) := by unfold J; rw [Int32.ofInt_add]
theorem J_sub (a b : Int) : J (a - b) = .int (Int32.ofInt a - Int32.ofInt b) := by unfold J; rw [Int32.ofInt_sub]
theorem J_mul (a b : Int) : J (a * b) = .int (Int32.ofInt a * Int32.ofInt b) := by unfold J; rw [Int32.ofInt_mul]
theorem J_neg (a : Int) : J (-a) = .int (-Int32.ofInt a) := by unfold J; rw [Int32.ofInt_neg]
theorem J_and (a b : Int) : J (xand a b) = .int (Int32.ofInt a &&& Int32.ofInt b) := by unfold J xand; rw [Int32.ofInt_toInt]
theorem J_or (a b : Int) : J (xor2 a b) = .int (Int32.ofInt a ||| Int32.ofInt b) := by unfold J xor2; rw [Int32.ofInt_toInt]
theorem J_xor (a b : Int) : J (xxor a b) = .int (Int32.ofInt a ^^^ Int32.ofInt b) := by unfold J xxor; rw [Int32.ofInt_toInt]
theorem J_shl (a b : Int) : J (xshl a b) = .int (Int32.ofInt a <<< (Int32.ofInt b &&& 31)) := by unfold J xshl; rw [Int32.ofInt_toInt]
theorem J_shr (a b : Int) : J (xshr a b) = .int (Int32.ofInt a >>> (Int32.ofInt b &&& 31)) := by unfold J xshr; rw [Int32.ofInt_toInt]
theorem J_ushr (a b : Int) : J (xushr a b) = .int ((Int32.ofInt a).toUInt32 >>> ((Int32.ofInt b).toUInt32 &&& Int32.toUInt32 31)).toInt32 := by unfold J xushr; rw [Int32.ofInt_toInt]
theorem J_i2b (a : Int) : J (xi2b a) = .int (Int32.ofInt a).toInt8.toInt32 := by
  unfold J xi2b
  rfl
theorem J_div {a b : Int} (h : 0 ≤ a ∧ a < 2147483648 ∧ 0 < b ∧ b < 2147483648) : J (a / b) = .int (Int32.ofInt a / Int32.ofInt b) := by
  unfold J
  rw [← Int.tdiv_eq_ediv_of_nonneg h.1, Int32.ofInt_tdiv]
  · show (-2147483648 : Int) ≤ a; omega
  · show a ≤ (2147483647 : Int); omega
  · show (-2147483648 : Int) ≤ b; omega
  · show b ≤ (2147483647 : Int); omega
theorem J_mod {a b : Int} (h : 0 ≤ a ∧ a < 2147483648 ∧ 0 < b ∧ b < 2147483648) : J (a % b) = .int (Int32.ofInt a - Int32.ofInt a / Int32.ofInt b * Int32.ofInt b) := by
  rw [show a % b = a - a / b * b by rw [Int.emod_def, Int.mul_comm]]
  unfold J
  rw [Int32.ofInt_sub, Int32.ofInt_mul]
  have h1 := J_div h
  unfold J at h1
  injection h1 with h1
  rw [h1]
theorem x32ne {b : Int} (h : -2147483648 ≤ b ∧ b < 2147483648) (h0 : b ≠ 0) : ¬ Int32.ofInt b = 0 := by
  intro q
  have := congrArg Int32.toInt q
  rw [x32 h] at this
  exact h0 this
theorem J_i2l {a : Int} (h : -2147483648 ≤ a ∧ a < 2147483648) : JL a = .long (Int32.ofInt a).toInt64 := by
  unfold JL
  rw [Int32.toInt64_ofInt]
  · show (-2147483648 : Int) ≤ a; omega
  · show a ≤ (2147483647 : Int); omega
theorem J_l2i (a : Int) : J a = .int (Int64.ofInt a).toInt32 := by unfold J; rw [Int64.toInt32_ofInt]
theorem JL_sub (a b : Int) : JL (a - b) = .long (Int64.ofInt a - Int64.ofInt b) := by unfold JL; rw [Int64.ofInt_sub]
theorem JL_mul (a b : Int) : JL (a * b) = .long (Int64.ofInt a * Int64.ofInt b) := by unfold JL; rw [Int64.ofInt_mul]
theorem JL_div {a b : Int} (h : 0 ≤ a ∧ a < 9223372036854775808 ∧ 0 < b ∧ b < 9223372036854775808) : JL (a / b) = .long (Int64.ofInt a / Int64.ofInt b) := by
  unfold JL
  rw [← Int.tdiv_eq_ediv_of_nonneg h.1, Int64.ofInt_tdiv]
  · show (-9223372036854775808 : Int) ≤ a; omega
  · show a ≤ (9223372036854775807 : Int); omega
  · show (-9223372036854775808 : Int) ≤ b; omega
  · show b ≤ (9223372036854775807 : Int); omega
theorem x64ne {b : Int} (h : -9223372036854775808 ≤ b ∧ b < 9223372036854775808) (h0 : b ≠ 0) : ¬ Int64.ofInt b = 0 := by
  intro q
  have := congrArg Int64.toInt q
  rw [x64 h] at this
  exact h0 this
theorem x32lt {a b : Int} (h : (-2147483648 ≤ a ∧ a < 2147483648) ∧ -2147483648 ≤ b ∧ b < 2147483648) : (Int32.ofInt a < Int32.ofInt b) ↔ a < b := by rw [Int32.lt_iff_toInt_lt, x32 h.1, x32 h.2]
theorem x32le {a b : Int} (h : (-2147483648 ≤ a ∧ a < 2147483648) ∧ -2147483648 ≤ b ∧ b < 2147483648) : (Int32.ofInt a ≤ Int32.ofInt b) ↔ a ≤ b := by rw [Int32.le_iff_toInt_le, x32 h.1, x32 h.2]
theorem x32eq {a b : Int} (h : (-2147483648 ≤ a ∧ a < 2147483648) ∧ -2147483648 ≤ b ∧ b < 2147483648) : (Int32.ofInt a = Int32.ofInt b) ↔ a = b := ⟨fun q => by rw [← x32 h.1, ← x32 h.2, q], fun q => by rw [q]⟩
theorem x32z {a : Int} (h : -2147483648 ≤ a ∧ a < 2147483648) : (-2147483648 ≤ a ∧ a < 2147483648) ∧ (-2147483648 : Int) ≤ 0 ∧ (0 : Int) < 2147483648 := ⟨h, by omega, by omega⟩
def xcmp (a b : Int) : Int := if b < a then 1 else if a = b then 0 else -1
theorem J_lcmp {a b : Int} (h : (-9223372036854775808 ≤ a ∧ a < 9223372036854775808) ∧ -9223372036854775808 ≤ b ∧ b < 9223372036854775808) : J (xcmp a b) = .int (lg_cmp (Int64.ofInt a) (Int64.ofInt b)) := by
  unfold J xcmp lg_cmp
  have e1 : (Int64.ofInt a > Int64.ofInt b) ↔ b < a := by rw [gt_iff_lt, Int64.lt_iff_toInt_lt, x64 h.1, x64 h.2]
  have e2 : (Int64.ofInt a = Int64.ofInt b) ↔ a = b := ⟨fun q => by rw [← x64 h.1, ← x64 h.2, q], fun q => by rw [q]⟩
  simp only [e1, e2]
  repeat' split
  all_goals rfl
section XG
variable {E : xE} {M : xM} {R : Room} {X : xX} {pc : Nat} {L : List (Option Value)} {st : List Value} {h : xH} {c n : Nat}

theorem xg_iadd {a b : Int} (q : Nat) (d : decode M.2.1 pc = .ok (.iadd, 1)) (hq : pc + 1 = q) (kk : xG E M R X q L (J (a + b) :: st) h c n) : xG E M R X pc L (J b :: J a :: st) h c n := by
  subst hq
  intro p e s m args below meth cd C H locs ls hP hS hL
  have k2 := kk p e s m args below meth cd C H locs ls hP hS hL
  rw [J_add] at k2
  exact lv_iadd C.1 C.2.1 d k2
theorem xg_isub {a b : Int} (q : Nat) (d : decode M.2.1 pc = .ok (.isub, 1)) (hq : pc + 1 = q) (kk : xG E M R X q L (J (a - b) :: st) h c n) : xG E M R X pc L (J b :: J a :: st) h c n := by
  subst hq
  intro p e s m args below meth cd C H locs ls hP hS hL
  have k2 := kk p e s m args below meth cd C H locs ls hP hS hL
  rw [J_sub] at k2
  exact lv_isub C.1 C.2.1 d k2
theorem xg_imul {a b : Int} (q : Nat) (d : decode M.2.1 pc = .ok (.imul, 1)) (hq : pc + 1 = q) (kk : xG E M R X q L (J (a * b) :: st) h c n) : xG E M R X pc L (J b :: J a :: st) h c n := by
  subst hq
  intro p e s m args below meth cd C H locs ls hP hS hL
  have k2 := kk p e s m args below meth cd C H locs ls hP hS hL
  rw [J_mul] at k2
  exact lv_imul C.1 C.2.1 d k2
theorem xg_iand {a b : Int} (q : Nat) (d : decode M.2.1 pc = .ok (.iand, 1)) (hq : pc + 1 = q) (kk : xG E M R X q L (J (xand a b) :: st) h c n) : xG E M R X pc L (J b :: J a :: st) h c n := by
  subst hq
  intro p e s m args below meth cd C H locs ls hP hS hL
  have k2 := kk p e s m args below meth cd C H locs ls hP hS hL
  rw [J_and] at k2
  exact lv_iand C.1 C.2.1 d k2
theorem xg_ior {a b : Int} (q : Nat) (d : decode M.2.1 pc = .ok (.ior, 1)) (hq : pc + 1 = q) (kk : xG E M R X q L (J (xor2 a b) :: st) h c n) : xG E M R X pc L (J b :: J a :: st) h c n := by
  subst hq
  intro p e s m args below meth cd C H locs ls hP hS hL
  have k2 := kk p e s m args below meth cd C H locs ls hP hS hL
  rw [J_or] at k2
  exact lv_ior C.1 C.2.1 d k2
theorem xg_ixor {a b : Int} (q : Nat) (d : decode M.2.1 pc = .ok (.ixor, 1)) (hq : pc + 1 = q) (kk : xG E M R X q L (J (xxor a b) :: st) h c n) : xG E M R X pc L (J b :: J a :: st) h c n := by
  subst hq
  intro p e s m args below meth cd C H locs ls hP hS hL
  have k2 := kk p e s m args below meth cd C H locs ls hP hS hL
  rw [J_xor] at k2
  exact lv_ixor C.1 C.2.1 d k2
theorem xg_ishl {a b : Int} (q : Nat) (d : decode M.2.1 pc = .ok (.ishl, 1)) (hq : pc + 1 = q) (kk : xG E M R X q L (J (xshl a b) :: st) h c n) : xG E M R X pc L (J b :: J a :: st) h c n := by
  subst hq
  intro p e s m args below meth cd C H locs ls hP hS hL
  have k2 := kk p e s m args below meth cd C H locs ls hP hS hL
  rw [J_shl] at k2
  exact lv_ishl C.1 C.2.1 d k2
theorem xg_ishr {a b : Int} (q : Nat) (d : decode M.2.1 pc = .ok (.ishr, 1)) (hq : pc + 1 = q) (kk : xG E M R X q L (J (xshr a b) :: st) h c n) : xG E M R X pc L (J b :: J a :: st) h c n := by
  subst hq
  intro p e s m args below meth cd C H locs ls hP hS hL
  have k2 := kk p e s m args below meth cd C H locs ls hP hS hL
  rw [J_shr] at k2
  exact lv_ishr C.1 C.2.1 d k2
theorem xg_iushr {a b : Int} (q : Nat) (d : decode M.2.1 pc = .ok (.iushr, 1)) (hq : pc + 1 = q) (kk : xG E M R X q L (J (xushr a b) :: st) h c n) : xG E M R X pc L (J b :: J a :: st) h c n := by
  subst hq
  intro p e s m args below meth cd C H locs ls hP hS hL
  have k2 := kk p e s m args below meth cd C H locs ls hP hS hL
  rw [J_ushr] at k2
  exact lv_iushr C.1 C.2.1 d rfl k2
theorem xg_ineg {a : Int} (q : Nat) (d : decode M.2.1 pc = .ok (.ineg, 1)) (hq : pc + 1 = q) (kk : xG E M R X q L (J (-a) :: st) h c n) : xG E M R X pc L (J a :: st) h c n := by
  subst hq
  intro p e s m args below meth cd C H locs ls hP hS hL
  have k2 := kk p e s m args below meth cd C H locs ls hP hS hL
  rw [J_neg] at k2
  exact lv_ineg C.1 C.2.1 d k2
theorem xg_i2b {a : Int} (q : Nat) (d : decode M.2.1 pc = .ok (.i2b, 1)) (hq : pc + 1 = q) (kk : xG E M R X q L (J (xi2b a) :: st) h c n) : xG E M R X pc L (J a :: st) h c n := by
  subst hq
  intro p e s m args below meth cd C H locs ls hP hS hL
  have k2 := kk p e s m args below meth cd C H locs ls hP hS hL
  rw [J_i2b] at k2
  exact lv_i2b C.1 C.2.1 d rfl k2
theorem xg_idiv {a b : Int} (q : Nat) (d : decode M.2.1 pc = .ok (.idiv, 1)) (hq : pc + 1 = q) (hr : 0 ≤ a ∧ a < 2147483648 ∧ 0 < b ∧ b < 2147483648) (kk : xG E M R X q L (J (a / b) :: st) h c n) : xG E M R X pc L (J b :: J a :: st) h c n := by
  subst hq
  intro p e s m args below meth cd C H locs ls hP hS hL
  have k2 := kk p e s m args below meth cd C H locs ls hP hS hL
  rw [J_div hr] at k2
  exact lv_idiv C.1 C.2.1 d (x32ne ⟨by omega, by omega⟩ (by omega)) k2
theorem xg_irem {a b : Int} (q : Nat) (d : decode M.2.1 pc = .ok (.irem, 1)) (hq : pc + 1 = q) (hr : 0 ≤ a ∧ a < 2147483648 ∧ 0 < b ∧ b < 2147483648) (kk : xG E M R X q L (J (a % b) :: st) h c n) : xG E M R X pc L (J b :: J a :: st) h c n := by
  subst hq
  intro p e s m args below meth cd C H locs ls hP hS hL
  have k2 := kk p e s m args below meth cd C H locs ls hP hS hL
  rw [J_mod hr] at k2
  exact lv_irem C.1 C.2.1 d (x32ne ⟨by omega, by omega⟩ (by omega)) k2
theorem xg_i2l {a : Int} (q : Nat) (d : decode M.2.1 pc = .ok (.i2l, 1)) (hq : pc + 1 = q) (hr : -2147483648 ≤ a ∧ a < 2147483648) (kk : xG E M R X q L (JL a :: st) h c n) : xG E M R X pc L (J a :: st) h c n := by
  subst hq
  intro p e s m args below meth cd C H locs ls hP hS hL
  have k2 := kk p e s m args below meth cd C H locs ls hP hS hL
  rw [J_i2l hr] at k2
  exact lv_i2l C.1 C.2.1 d rfl k2
theorem xg_l2i {a : Int} (q : Nat) (d : decode M.2.1 pc = .ok (.l2i, 1)) (hq : pc + 1 = q) (kk : xG E M R X q L (J a :: st) h c n) : xG E M R X pc L (JL a :: st) h c n := by
  subst hq
  intro p e s m args below meth cd C H locs ls hP hS hL
  have k2 := kk p e s m args below meth cd C H locs ls hP hS hL
  rw [J_l2i] at k2
  exact lv_l2i C.1 C.2.1 d rfl k2
theorem xg_lsub {a b : Int} (q : Nat) (d : decode M.2.1 pc = .ok (.lsub, 1)) (hq : pc + 1 = q) (kk : xG E M R X q L (JL (a - b) :: st) h c n) : xG E M R X pc L (JL b :: JL a :: st) h c n := by
  subst hq
  intro p e s m args below meth cd C H locs ls hP hS hL
  have k2 := kk p e s m args below meth cd C H locs ls hP hS hL
  rw [JL_sub] at k2
  exact lv_lsub C.1 C.2.1 d k2
theorem xg_lmul {a b : Int} (q : Nat) (d : decode M.2.1 pc = .ok (.lmul, 1)) (hq : pc + 1 = q) (kk : xG E M R X q L (JL (a * b) :: st) h c n) : xG E M R X pc L (JL b :: JL a :: st) h c n := by
  subst hq
  intro p e s m args below meth cd C H locs ls hP hS hL
  have k2 := kk p e s m args below meth cd C H locs ls hP hS hL
  rw [JL_mul] at k2
  exact lv_lmul C.1 C.2.1 d k2
theorem xg_ldiv {a b : Int} (q : Nat) (d : decode M.2.1 pc = .ok (.ldiv, 1)) (hq : pc + 1 = q) (hr : 0 ≤ a ∧ a < 9223372036854775808 ∧ 0 < b ∧ b < 9223372036854775808) (kk : xG E M R X q L (JL (a / b) :: st) h c n) : xG E M R X pc L (JL b :: JL a :: st) h c n := by
  subst hq
  intro p e s m args below meth cd C H locs ls hP hS hL
  have k2 := kk p e s m args below meth cd C H locs ls hP hS hL
  rw [JL_div hr] at k2
  exact lv_ldiv C.1 C.2.1 d (x64ne ⟨by omega, by omega⟩ (by omega)) k2
theorem xg_lcmp {a b : Int} (q : Nat) (d : decode M.2.1 pc = .ok (.lcmp, 1)) (hq : pc + 1 = q) (hr : (-9223372036854775808 ≤ a ∧ a < 9223372036854775808) ∧ -9223372036854775808 ≤ b ∧ b < 9223372036854775808) (kk : xG E M R X q L (J (xcmp a b) :: st) h c n) : xG E M R X pc L (JL b :: JL a :: st) h c n := by
  subst hq
  intro p e s m args below meth cd C H locs ls hP hS hL
  have k2 := kk p e s m args below meth cd C H locs ls hP hS hL
  rw [J_lcmp hr] at k2
  exact W.lcmp C.1 C.2.1 d k2
theorem xg_dup {v : Value} (q : Nat) (d : decode M.2.1 pc = .ok (.dup, 1)) (hq : pc + 1 = q) (hv : v.category = 1) (kk : xG E M R X q L (v :: v :: st) h c n) : xG E M R X pc L (v :: st) h c n := by
  subst hq
  intro p e s m args below meth cd C H locs ls hP hS hL
  have k2 := kk p e s m args below meth cd C H locs ls hP hS hL
  skip
  exact lv_dup C.1 C.2.1 d hv k2
theorem xg_pop {v : Value} (q : Nat) (d : decode M.2.1 pc = .ok (.pop, 1)) (hq : pc + 1 = q) (hv : v.category = 1) (kk : xG E M R X q L (st) h c n) : xG E M R X pc L (v :: st) h c n := by
  subst hq
  intro p e s m args below meth cd C H locs ls hP hS hL
  have k2 := kk p e s m args below meth cd C H locs ls hP hS hL
  skip
  exact lv_pop C.1 C.2.1 d hv k2
theorem xg_dup2 {v w : Value} (q : Nat) (d : decode M.2.1 pc = .ok (.dup2, 1)) (hq : pc + 1 = q) (hv : v.category = 1) (hw : w.category = 1) (kk : xG E M R X q L (v :: w :: v :: w :: st) h c n) : xG E M R X pc L (v :: w :: st) h c n := by
  subst hq
  intro p e s m args below meth cd C H locs ls hP hS hL
  have k2 := kk p e s m args below meth cd C H locs ls hP hS hL
  skip
  exact lv_dup2_11 C.1 C.2.1 d hv hw k2
theorem xg_null (q : Nat) (d : decode M.2.1 pc = .ok (.aconst_null, 1)) (hq : pc + 1 = q) (kk : xG E M R X q L (.null :: st) h c n) : xG E M R X pc L (st) h c n := by
  subst hq
  intro p e s m args below meth cd C H locs ls hP hS hL
  have k2 := kk p e s m args below meth cd C H locs ls hP hS hL
  skip
  exact lv_null C.1 C.2.1 d k2
theorem xg_iconst {z : Int} (q : Nat) (d : decode M.2.1 pc = .ok (.iconst z, 1)) (hq : pc + 1 = q) (kk : xG E M R X q L (J z :: st) h c n) : xG E M R X pc L st h c n := by
  subst hq
  intro p e s m args below meth cd C H locs ls hP hS hL
  exact lv_iconst C.1 C.2.1 d rfl (kk p e s m args below meth cd C H locs ls hP hS hL)
theorem xg_bipush {z : Int} (q : Nat) (d : decode M.2.1 pc = .ok (.bipush z, 2)) (hq : pc + 2 = q) (hz : -128 ≤ z ∧ z < 128) (kk : xG E M R X q L (J z :: st) h c n) : xG E M R X pc L st h c n := by
  subst hq
  intro p e s m args below meth cd C H locs ls hP hS hL
  exact lv_bipush C.1 C.2.1 d (Int8.toInt32_ofInt (by show (-128 : Int) ≤ z; omega) (by show z ≤ (127 : Int); omega)) (kk p e s m args below meth cd C H locs ls hP hS hL)
theorem xg_sipush {z : Int} (q : Nat) (d : decode M.2.1 pc = .ok (.sipush z, 3)) (hq : pc + 3 = q) (hz : -32768 ≤ z ∧ z < 32768) (kk : xG E M R X q L (J z :: st) h c n) : xG E M R X pc L st h c n := by
  subst hq
  intro p e s m args below meth cd C H locs ls hP hS hL
  exact lv_sipush C.1 C.2.1 d (Int16.toInt32_ofInt (by show (-32768 : Int) ≤ z; omega) (by show z ≤ (32767 : Int); omega)) (kk p e s m args below meth cd C H locs ls hP hS hL)
theorem xg_lconst {z : Fin 2} (q : Nat) (w : Int) (d : decode M.2.1 pc = .ok (.lconst z, 1)) (hq : pc + 1 = q) (hw : w = ((z : Nat) : Int)) (kk : xG E M R X q L (JL w :: st) h c n) : xG E M R X pc L st h c n := by
  subst hq
  subst hw
  intro p e s m args below meth cd C H locs ls hP hS hL
  exact lv_lconst C.1 C.2.1 d (by rw [Int64.ofInt_eq_ofNat]) (kk p e s m args below meth cd C H locs ls hP hS hL)
theorem xg_ldc {z : Int} {v : Int32} {i : Nat} (q : Nat) (hw : Jvm.Cond.constant M.1.cls i v ∈ xT) (d : decode M.2.1 pc = .ok (.ldc i, 2)) (hq : pc + 2 = q) (hz : Int32.ofInt z = v) (kk : xG E M R X q L (J z :: st) h c n) : xG E M R X pc L st h c n := by
  subst hq
  subst hz
  intro p e s m args below meth cd C H locs ls hP hS hL
  exact lv_ldc C.1 C.2.1 C.2.2.2.2.1 (C.2.2.2.2.2.1 _ hw) d (kk p e s m args below meth cd C H locs ls hP hS hL)
theorem xg_ldcw {z : Int} {v : Int32} {i : Nat} (q : Nat) (hw : Jvm.Cond.constant M.1.cls i v ∈ xT) (d : decode M.2.1 pc = .ok (.ldc_w i, 3)) (hq : pc + 3 = q) (hz : Int32.ofInt z = v) (kk : xG E M R X q L (J z :: st) h c n) : xG E M R X pc L st h c n := by
  subst hq
  subst hz
  intro p e s m args below meth cd C H locs ls hP hS hL
  exact lv_ldcw C.1 C.2.1 C.2.2.2.2.1 (C.2.2.2.2.2.1 _ hw) d (kk p e s m args below meth cd C H locs ls hP hS hL)
theorem xg_ldc2 {z : Int} {v : Int64} {i : Nat} (q : Nat) (hw : Jvm.Cond.constantLong M.1.cls i v ∈ xT) (d : decode M.2.1 pc = .ok (.ldc2_w i, 3)) (hq : pc + 3 = q) (hz : Int64.ofInt z = v) (kk : xG E M R X q L (JL z :: st) h c n) : xG E M R X pc L st h c n := by
  subst hq
  subst hz
  intro p e s m args below meth cd C H locs ls hP hS hL
  exact lv_ldc2 C.1 C.2.1 C.2.2.2.2.1 (C.2.2.2.2.2.1 _ hw) d (kk p e s m args below meth cd C H locs ls hP hS hL)
theorem xg_iload {i : Nat} {z : Int} (q : Nat) (d : decode M.2.1 pc = .ok (.iload i, 2)) (hq : pc + 2 = q) (hl : xat L i = some (J z)) (kk : xG E M R X q L (J z :: st) h c n) : xG E M R X pc L st h c n := by
  subst hq
  intro p e s m args below meth cd C H locs ls hP hS hL
  exact lv_iload C.1 C.2.1 d (hL.2.2 _ _ hl) (kk p e s m args below meth cd C H locs ls hP hS hL)
theorem xg_iloadn {i : Nat} {k : Fin 4} {z : Int} (q : Nat) (d : decode M.2.1 pc = .ok (.iload_n k, 1)) (hq : pc + 1 = q) (hk : (k : Nat) = i) (hl : xat L i = some (J z)) (kk : xG E M R X q L (J z :: st) h c n) : xG E M R X pc L st h c n := by
  subst hq
  intro p e s m args below meth cd C H locs ls hP hS hL
  exact lv_iload_n C.1 C.2.1 d hk (hL.2.2 _ _ hl) (kk p e s m args below meth cd C H locs ls hP hS hL)
theorem xg_aload {i : Nat} {z : Nat} (q : Nat) (d : decode M.2.1 pc = .ok (.aload i, 2)) (hq : pc + 2 = q) (hl : xat L i = some (.ref z)) (kk : xG E M R X q L (.ref z :: st) h c n) : xG E M R X pc L st h c n := by
  subst hq
  intro p e s m args below meth cd C H locs ls hP hS hL
  exact lv_aload C.1 C.2.1 d (hL.2.2 _ _ hl) (kk p e s m args below meth cd C H locs ls hP hS hL)
theorem xg_aloadn {i : Nat} {k : Fin 4} {z : Nat} (q : Nat) (d : decode M.2.1 pc = .ok (.aload_n k, 1)) (hq : pc + 1 = q) (hk : (k : Nat) = i) (hl : xat L i = some (.ref z)) (kk : xG E M R X q L (.ref z :: st) h c n) : xG E M R X pc L st h c n := by
  subst hq
  intro p e s m args below meth cd C H locs ls hP hS hL
  exact lv_aload_n C.1 C.2.1 d hk (hL.2.2 _ _ hl) (kk p e s m args below meth cd C H locs ls hP hS hL)
theorem xg_lload {i : Nat} {z : Int} (q : Nat) (d : decode M.2.1 pc = .ok (.lload i, 2)) (hq : pc + 2 = q) (hl : xat L i = some (JL z)) (kk : xG E M R X q L (JL z :: st) h c n) : xG E M R X pc L st h c n := by
  subst hq
  intro p e s m args below meth cd C H locs ls hP hS hL
  exact lv_lload C.1 C.2.1 d (hL.2.2 _ _ hl) (kk p e s m args below meth cd C H locs ls hP hS hL)
theorem xg_lloadn {i : Nat} {k : Fin 4} {z : Int} (q : Nat) (d : decode M.2.1 pc = .ok (.lload_n k, 1)) (hq : pc + 1 = q) (hk : (k : Nat) = i) (hl : xat L i = some (JL z)) (kk : xG E M R X q L (JL z :: st) h c n) : xG E M R X pc L st h c n := by
  subst hq
  intro p e s m args below meth cd C H locs ls hP hS hL
  exact lv_lload_n C.1 C.2.1 d hk (hL.2.2 _ _ hl) (kk p e s m args below meth cd C H locs ls hP hS hL)
theorem xg_istore {i : Nat} {z : Int} (q : Nat) (L' : List (Option Value)) (d : decode M.2.1 pc = .ok (.istore i, 2)) (hq : pc + 2 = q) (hl : xput L i (some (J z)) = L') (hi : i < M.2.2.1) (ho : i = 0 ∨ xone (xat L (i - 1)) = true) (kk : xG E M R X q L' st h c n) : xG E M R X pc L (J z :: st) h c n := by
  subst hq
  subst hl
  intro p e s m args below meth cd C H locs ls hP hS hL
  exact lv_istore C.1 C.2.1 d hL.to hi rfl (fun ls' hl' => kk p e s m args below meth cd C H locs ls' hP hS (xhasL.put1 ho hl'))
theorem xg_istoren {i : Nat} {k : Fin 4} {z : Int} (q : Nat) (L' : List (Option Value)) (d : decode M.2.1 pc = .ok (.istore_n k, 1)) (hq : pc + 1 = q) (hk : (k : Nat) = i) (hl : xput L i (some (J z)) = L') (hi : i < M.2.2.1) (ho : i = 0 ∨ xone (xat L (i - 1)) = true) (kk : xG E M R X q L' st h c n) : xG E M R X pc L (J z :: st) h c n := by
  subst hq
  subst hl
  intro p e s m args below meth cd C H locs ls hP hS hL
  exact lv_istore_n C.1 C.2.1 d hk hL.to hi rfl (fun ls' hl' => kk p e s m args below meth cd C H locs ls' hP hS (xhasL.put1 ho hl'))
theorem xg_astore {i : Nat} {z : Nat} (q : Nat) (L' : List (Option Value)) (d : decode M.2.1 pc = .ok (.astore i, 2)) (hq : pc + 2 = q) (hl : xput L i (some (.ref z)) = L') (hi : i < M.2.2.1) (ho : i = 0 ∨ xone (xat L (i - 1)) = true) (kk : xG E M R X q L' st h c n) : xG E M R X pc L (.ref z :: st) h c n := by
  subst hq
  subst hl
  intro p e s m args below meth cd C H locs ls hP hS hL
  exact lv_astore C.1 C.2.1 d hL.to hi rfl (fun ls' hl' => kk p e s m args below meth cd C H locs ls' hP hS (xhasL.put1 ho hl'))
theorem xg_astoren {i : Nat} {k : Fin 4} {z : Nat} (q : Nat) (L' : List (Option Value)) (d : decode M.2.1 pc = .ok (.astore_n k, 1)) (hq : pc + 1 = q) (hk : (k : Nat) = i) (hl : xput L i (some (.ref z)) = L') (hi : i < M.2.2.1) (ho : i = 0 ∨ xone (xat L (i - 1)) = true) (kk : xG E M R X q L' st h c n) : xG E M R X pc L (.ref z :: st) h c n := by
  subst hq
  subst hl
  intro p e s m args below meth cd C H locs ls hP hS hL
  exact lv_astore_n C.1 C.2.1 d hk hL.to hi rfl (fun ls' hl' => kk p e s m args below meth cd C H locs ls' hP hS (xhasL.put1 ho hl'))
theorem xg_lstore {i : Nat} {z : Int} (q : Nat) (L' : List (Option Value)) (d : decode M.2.1 pc = .ok (.lstore i, 2)) (hq : pc + 2 = q) (hl : xput (xput L i (some (JL z))) (i + 1) none = L') (hi : i + 1 < M.2.2.1) (ho : i = 0 ∨ xone (xat L (i - 1)) = true) (kk : xG E M R X q L' st h c n) : xG E M R X pc L (JL z :: st) h c n := by
  subst hq
  subst hl
  intro p e s m args below meth cd C H locs ls hP hS hL
  exact lv_lstore C.1 C.2.1 d hL.to hi rfl (fun ls' hl' => kk p e s m args below meth cd C H locs ls' hP hS (xhasL.put2 ho hl'))
theorem xg_lstoren {i : Nat} {k : Fin 4} {z : Int} (q : Nat) (L' : List (Option Value)) (d : decode M.2.1 pc = .ok (.lstore_n k, 1)) (hq : pc + 1 = q) (hk : (k : Nat) = i) (hl : xput (xput L i (some (JL z))) (i + 1) none = L') (hi : i + 1 < M.2.2.1) (ho : i = 0 ∨ xone (xat L (i - 1)) = true) (kk : xG E M R X q L' st h c n) : xG E M R X pc L (JL z :: st) h c n := by
  subst hq
  subst hl
  intro p e s m args below meth cd C H locs ls hP hS hL
  exact lv_lstore_n C.1 C.2.1 d hk hL.to hi rfl (fun ls' hl' => kk p e s m args below meth cd C H locs ls' hP hS (xhasL.put2 ho hl'))
theorem xg_iinc {i : Nat} {w z y : Int} (q : Nat) (L' : List (Option Value)) (d : decode M.2.1 pc = .ok (.iinc i w, 3)) (hq : pc + 3 = q) (hz : xat L i = some (J z)) (hy : z + w = y) (hl : xput L i (some (J y)) = L') (hi : i < M.2.2.1) (ho : i = 0 ∨ xone (xat L (i - 1)) = true) (kk : xG E M R X q L' st h c n) : xG E M R X pc L st h c n := by
  subst hq
  subst hl
  subst hy
  intro p e s m args below meth cd C H locs ls hP hS hL
  obtain ⟨k, hk⟩ := List.getElem?_of_mem (xpairs_mem.mpr hz)
  refine lv_iinc (v := Int32.ofInt (z + w)) C.1 C.2.1 d hL.to (k := k) (x := Int32.ofInt z) hk (by rw [Int32.ofInt_add]) hi rfl (fun ls' hl' => kk p e s m args below meth cd C H locs ls' hP hS (xhasL.put1 ho hl'))
theorem xg_goto {o : Int} (q : Nat) (d : decode M.2.1 pc = .ok (.goto o, 3)) (hq : (pc : Int) + o = (q : Int)) (kk : xG E M R X q L st h c n) : xG E M R X pc L st h c n := by
  intro p e s m args below meth cd C H locs ls hP hS hL
  exact lv_goto C.1 C.2.1 d hq (kk p e s m args below meth cd C H locs ls hP hS hL)
theorem xg_ifeq {a o : Int} (q r : Nat) (d : decode M.2.1 pc = .ok (.ifCond .eq o, 3)) (hq : (pc : Int) + o = (q : Int)) (hq2 : pc + 3 = r) (hr : -2147483648 ≤ a ∧ a < 2147483648) (kt : a = 0 → xG E M R X q L st h c n) (kf : a ≠ 0 → xG E M R X r L st h c n) : xG E M R X pc L (J a :: st) h c n := by
  subst hq2
  intro p e s m args below meth cd C H locs ls hP hS hL
  exact lv_if_eq C.1 C.2.1 d hq (fun t => kt ((x32eq (x32z hr)).mp t) p e s m args below meth cd C H locs ls hP hS hL) (fun t => kf (fun w => t ((x32eq (x32z hr)).mpr w)) p e s m args below meth cd C H locs ls hP hS hL)
theorem xg_iceq {a b o : Int} (q r : Nat) (d : decode M.2.1 pc = .ok (.if_icmp .eq o, 3)) (hq : (pc : Int) + o = (q : Int)) (hq2 : pc + 3 = r) (hr : (-2147483648 ≤ a ∧ a < 2147483648) ∧ -2147483648 ≤ b ∧ b < 2147483648) (kt : a = b → xG E M R X q L st h c n) (kf : a ≠ b → xG E M R X r L st h c n) : xG E M R X pc L (J b :: J a :: st) h c n := by
  subst hq2
  intro p e s m args below meth cd C H locs ls hP hS hL
  exact lv_icmp_eq C.1 C.2.1 d hq (fun t => kt ((x32eq hr).mp t) p e s m args below meth cd C H locs ls hP hS hL) (fun t => kf (fun w => t ((x32eq hr).mpr w)) p e s m args below meth cd C H locs ls hP hS hL)
theorem xg_ifne {a o : Int} (q r : Nat) (d : decode M.2.1 pc = .ok (.ifCond .ne o, 3)) (hq : (pc : Int) + o = (q : Int)) (hq2 : pc + 3 = r) (hr : -2147483648 ≤ a ∧ a < 2147483648) (kt : a ≠ 0 → xG E M R X q L st h c n) (kf : a = 0 → xG E M R X r L st h c n) : xG E M R X pc L (J a :: st) h c n := by
  subst hq2
  intro p e s m args below meth cd C H locs ls hP hS hL
  exact lv_if_ne C.1 C.2.1 d hq (fun t => kt (fun w => t ((x32eq (x32z hr)).mpr w)) p e s m args below meth cd C H locs ls hP hS hL) (fun t => kf ((x32eq (x32z hr)).mp t) p e s m args below meth cd C H locs ls hP hS hL)
theorem xg_icne {a b o : Int} (q r : Nat) (d : decode M.2.1 pc = .ok (.if_icmp .ne o, 3)) (hq : (pc : Int) + o = (q : Int)) (hq2 : pc + 3 = r) (hr : (-2147483648 ≤ a ∧ a < 2147483648) ∧ -2147483648 ≤ b ∧ b < 2147483648) (kt : a ≠ b → xG E M R X q L st h c n) (kf : a = b → xG E M R X r L st h c n) : xG E M R X pc L (J b :: J a :: st) h c n := by
  subst hq2
  intro p e s m args below meth cd C H locs ls hP hS hL
  exact lv_icmp_ne C.1 C.2.1 d hq (fun t => kt (fun w => t ((x32eq hr).mpr w)) p e s m args below meth cd C H locs ls hP hS hL) (fun t => kf ((x32eq hr).mp t) p e s m args below meth cd C H locs ls hP hS hL)
theorem xg_iflt {a o : Int} (q r : Nat) (d : decode M.2.1 pc = .ok (.ifCond .lt o, 3)) (hq : (pc : Int) + o = (q : Int)) (hq2 : pc + 3 = r) (hr : -2147483648 ≤ a ∧ a < 2147483648) (kt : a < 0 → xG E M R X q L st h c n) (kf : 0 ≤ a → xG E M R X r L st h c n) : xG E M R X pc L (J a :: st) h c n := by
  subst hq2
  intro p e s m args below meth cd C H locs ls hP hS hL
  exact lv_if_lt C.1 C.2.1 d hq (fun t => kt ((x32lt (x32z hr)).mp t) p e s m args below meth cd C H locs ls hP hS hL) (fun t => kf (Int.not_lt.mp (fun w => t ((x32lt (x32z hr)).mpr w))) p e s m args below meth cd C H locs ls hP hS hL)
theorem xg_iclt {a b o : Int} (q r : Nat) (d : decode M.2.1 pc = .ok (.if_icmp .lt o, 3)) (hq : (pc : Int) + o = (q : Int)) (hq2 : pc + 3 = r) (hr : (-2147483648 ≤ a ∧ a < 2147483648) ∧ -2147483648 ≤ b ∧ b < 2147483648) (kt : a < b → xG E M R X q L st h c n) (kf : b ≤ a → xG E M R X r L st h c n) : xG E M R X pc L (J b :: J a :: st) h c n := by
  subst hq2
  intro p e s m args below meth cd C H locs ls hP hS hL
  exact lv_icmp_lt C.1 C.2.1 d hq (fun t => kt ((x32lt hr).mp t) p e s m args below meth cd C H locs ls hP hS hL) (fun t => kf (Int.not_lt.mp (fun w => t ((x32lt hr).mpr w))) p e s m args below meth cd C H locs ls hP hS hL)
theorem xg_ifge {a o : Int} (q r : Nat) (d : decode M.2.1 pc = .ok (.ifCond .ge o, 3)) (hq : (pc : Int) + o = (q : Int)) (hq2 : pc + 3 = r) (hr : -2147483648 ≤ a ∧ a < 2147483648) (kt : 0 ≤ a → xG E M R X q L st h c n) (kf : a < 0 → xG E M R X r L st h c n) : xG E M R X pc L (J a :: st) h c n := by
  subst hq2
  intro p e s m args below meth cd C H locs ls hP hS hL
  exact lv_if_ge C.1 C.2.1 d hq (fun t => kt ((x32le ⟨(x32z hr).2, hr⟩).mp t) p e s m args below meth cd C H locs ls hP hS hL) (fun t => kf (Int.not_le.mp (fun w => t ((x32le ⟨(x32z hr).2, hr⟩).mpr w))) p e s m args below meth cd C H locs ls hP hS hL)
theorem xg_icge {a b o : Int} (q r : Nat) (d : decode M.2.1 pc = .ok (.if_icmp .ge o, 3)) (hq : (pc : Int) + o = (q : Int)) (hq2 : pc + 3 = r) (hr : (-2147483648 ≤ a ∧ a < 2147483648) ∧ -2147483648 ≤ b ∧ b < 2147483648) (kt : b ≤ a → xG E M R X q L st h c n) (kf : a < b → xG E M R X r L st h c n) : xG E M R X pc L (J b :: J a :: st) h c n := by
  subst hq2
  intro p e s m args below meth cd C H locs ls hP hS hL
  exact lv_icmp_ge C.1 C.2.1 d hq (fun t => kt ((x32le ⟨hr.2, hr.1⟩).mp t) p e s m args below meth cd C H locs ls hP hS hL) (fun t => kf (Int.not_le.mp (fun w => t ((x32le ⟨hr.2, hr.1⟩).mpr w))) p e s m args below meth cd C H locs ls hP hS hL)
theorem xg_ifgt {a o : Int} (q r : Nat) (d : decode M.2.1 pc = .ok (.ifCond .gt o, 3)) (hq : (pc : Int) + o = (q : Int)) (hq2 : pc + 3 = r) (hr : -2147483648 ≤ a ∧ a < 2147483648) (kt : 0 < a → xG E M R X q L st h c n) (kf : a ≤ 0 → xG E M R X r L st h c n) : xG E M R X pc L (J a :: st) h c n := by
  subst hq2
  intro p e s m args below meth cd C H locs ls hP hS hL
  exact lv_if_gt C.1 C.2.1 d hq (fun t => kt ((x32lt ⟨(x32z hr).2, hr⟩).mp t) p e s m args below meth cd C H locs ls hP hS hL) (fun t => kf (Int.not_lt.mp (fun w => t ((x32lt ⟨(x32z hr).2, hr⟩).mpr w))) p e s m args below meth cd C H locs ls hP hS hL)
theorem xg_icgt {a b o : Int} (q r : Nat) (d : decode M.2.1 pc = .ok (.if_icmp .gt o, 3)) (hq : (pc : Int) + o = (q : Int)) (hq2 : pc + 3 = r) (hr : (-2147483648 ≤ a ∧ a < 2147483648) ∧ -2147483648 ≤ b ∧ b < 2147483648) (kt : b < a → xG E M R X q L st h c n) (kf : a ≤ b → xG E M R X r L st h c n) : xG E M R X pc L (J b :: J a :: st) h c n := by
  subst hq2
  intro p e s m args below meth cd C H locs ls hP hS hL
  exact lv_icmp_gt C.1 C.2.1 d hq (fun t => kt ((x32lt ⟨hr.2, hr.1⟩).mp t) p e s m args below meth cd C H locs ls hP hS hL) (fun t => kf (Int.not_lt.mp (fun w => t ((x32lt ⟨hr.2, hr.1⟩).mpr w))) p e s m args below meth cd C H locs ls hP hS hL)
theorem xg_ifle {a o : Int} (q r : Nat) (d : decode M.2.1 pc = .ok (.ifCond .le o, 3)) (hq : (pc : Int) + o = (q : Int)) (hq2 : pc + 3 = r) (hr : -2147483648 ≤ a ∧ a < 2147483648) (kt : a ≤ 0 → xG E M R X q L st h c n) (kf : 0 < a → xG E M R X r L st h c n) : xG E M R X pc L (J a :: st) h c n := by
  subst hq2
  intro p e s m args below meth cd C H locs ls hP hS hL
  exact lv_if_le C.1 C.2.1 d hq (fun t => kt ((x32le (x32z hr)).mp t) p e s m args below meth cd C H locs ls hP hS hL) (fun t => kf (Int.not_le.mp (fun w => t ((x32le (x32z hr)).mpr w))) p e s m args below meth cd C H locs ls hP hS hL)
theorem xg_icle {a b o : Int} (q r : Nat) (d : decode M.2.1 pc = .ok (.if_icmp .le o, 3)) (hq : (pc : Int) + o = (q : Int)) (hq2 : pc + 3 = r) (hr : (-2147483648 ≤ a ∧ a < 2147483648) ∧ -2147483648 ≤ b ∧ b < 2147483648) (kt : a ≤ b → xG E M R X q L st h c n) (kf : b < a → xG E M R X r L st h c n) : xG E M R X pc L (J b :: J a :: st) h c n := by
  subst hq2
  intro p e s m args below meth cd C H locs ls hP hS hL
  exact lv_icmp_le C.1 C.2.1 d hq (fun t => kt ((x32le hr).mp t) p e s m args below meth cd C H locs ls hP hS hL) (fun t => kf (Int.not_le.mp (fun w => t ((x32le hr).mpr w))) p e s m args below meth cd C H locs ls hP hS hL)
theorem xg_tin {a o dflt lo hi : Int} {offs : Array Int} {len : Nat} (q : Nat) (d : decode M.2.1 pc = .ok (.tableswitch dflt lo hi offs, len)) (hr : -2147483648 ≤ a ∧ a < 2147483648) (h1 : lo ≤ a ∧ a ≤ hi) (ho : offs[(a - lo).toNat]? = some o) (hq : (pc : Int) + o = (q : Int)) (kk : xG E M R X q L st h c n) : xG E M R X pc L (J a :: st) h c n := by
  intro p e s m args below meth cd C H locs ls hP hS hL
  exact lv_tableIn C.1 C.2.1 d (by rw [x32 hr]; omega) (by rw [x32 hr]; omega) (by rw [x32 hr]; exact ho) hq (kk p e s m args below meth cd C H locs ls hP hS hL)
theorem xg_tout {a dflt lo hi : Int} {offs : Array Int} {len : Nat} (q : Nat) (d : decode M.2.1 pc = .ok (.tableswitch dflt lo hi offs, len)) (hr : -2147483648 ≤ a ∧ a < 2147483648) (h1 : a < lo ∨ hi < a) (hq : (pc : Int) + dflt = (q : Int)) (kk : xG E M R X q L st h c n) : xG E M R X pc L (J a :: st) h c n := by
  intro p e s m args below meth cd C H locs ls hP hS hL
  exact lv_tableOut C.1 C.2.1 d (by rw [x32 hr]; exact h1) hq (kk p e s m args below meth cd C H locs ls hP hS hL)
theorem xg_weak (L' : List (Option Value)) (hl : xle L' L) (kk : xG E M R X pc L' st h c n) : xG E M R X pc L st h c n := by
  intro p e s m args below meth cd C H locs ls hP hS hL
  exact kk p e s m args below meth cd C H locs ls hP hS (hL.le hl)
theorem xg_widen (c' n' : Nat) (h1 : c ≤ c') (h2 : n ≤ n') (kk : xG E M R X pc L st h c' n') : xG E M R X pc L st h c n := by
  intro p e s m args below meth cd C H locs ls hP hS hL
  exact W.widen h1 h2 (kk p e s m args below meth cd C H locs ls hP hS hL)
theorem xg_to {st' : List Value} {h' : xH} (e1 : st = st') (e2 : h = h') (kk : xG E M R X pc L st' h' c n) : xG E M R X pc L st h c n := by
  subst e1; subst e2; exact kk
end XG
