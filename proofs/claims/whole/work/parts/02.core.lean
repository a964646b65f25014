/-! the whole library is read from the first part on: a name of part 92 -/
theorem xWide : True := (fun _ => trivial) @Jvm.Free.Multi.fill_facts
/-! the words that every method may use -/
def xT : List Cond := lw_tbl.filter goodWord
theorem xT_t {w : Cond} (i : Nat) (h : tables_1[i]? = some w) (g : goodWord w = true) : w ∈ xT :=
  List.mem_filter.mpr ⟨List.mem_append_right _ (List.mem_of_getElem? h), g⟩
theorem xT_s {w : Cond} (i : Nat) (h : (k2_sels lw_privs)[i]? = some w) (g : goodWord w = true) : w ∈ xT :=
  List.mem_filter.mpr ⟨List.mem_append_left _ (List.mem_of_getElem? h), g⟩
theorem xT_good : GoodIn xT xT := fun w h => ⟨h, good_of_word (List.mem_filter.mp h).2⟩
theorem xT_law {args : Array Value} {s : State} (h : ∀ w ∈ lw_tbl, w.before args s = true) : ∀ w ∈ xT, w.before args s = true := fun w hw => h w (List.mem_filter.mp hw).1

/-! numbers -/
def J (z : Int) : Value := .int (Int32.ofInt z)
def JL (z : Int) : Value := .long (Int64.ofInt z)
theorem x32 {z : Int} (h : -2147483648 ≤ z ∧ z < 2147483648) : (Int32.ofInt z).toInt = z := Int32.toInt_ofInt_of_le (by omega) (by omega)
theorem x64 {z : Int} (h : -9223372036854775808 ≤ z ∧ z < 9223372036854775808) : (Int64.ofInt z).toInt = z := Int64.toInt_ofInt_of_le (by omega) (by omega)
theorem xnat {z : Int} (h : 0 ≤ z ∧ z < 2147483648) : (Int32.ofInt z).toNatClampNeg = z.toNat := Int32.toNatClampNeg_ofInt_of_le (by omega) (by omega)
theorem xof (v : Int32) : Value.int v = J v.toInt := by unfold J; rw [Int32.ofInt_toInt]
theorem xofL (v : Int64) : Value.long v = JL v.toInt := by unfold JL; rw [Int64.ofInt_toInt]
def xand (a b : Int) : Int := (Int32.ofInt a &&& Int32.ofInt b).toInt
def xor2 (a b : Int) : Int := (Int32.ofInt a ||| Int32.ofInt b).toInt
def xxor (a b : Int) : Int := (Int32.ofInt a ^^^ Int32.ofInt b).toInt
def xshl (a b : Int) : Int := (Int32.ofInt a <<< (Int32.ofInt b &&& 31)).toInt
def xshr (a b : Int) : Int := (Int32.ofInt a >>> (Int32.ofInt b &&& 31)).toInt
def xushr (a b : Int) : Int := ((Int32.ofInt a).toUInt32 >>> ((Int32.ofInt b).toUInt32 &&& Int32.toUInt32 31)).toInt32.toInt
def xi2b (a : Int) : Int := (Int32.ofInt a).toInt8.toInt

/-! the heap as functions: how large; kind and length; int fields; int elements; reference fields; reference elements -/
abbrev xH : Type := Nat × (Nat → Nat × Int) × (Nat → Nat → Int) × (Nat → Int → Int) × (Nat → Nat → Option Nat) × (Nat → Int → Option Nat)
abbrev xM : Type := MethodName × ByteArray × Nat × Option FieldType × Nat
abbrev xE : Type := Launch × va_G × (Nat → ClassId) × Nat × (State → Prop)
def xtys (E : xE) : List (ClassId × FieldType) := [(E.2.2.1 0, .int), (E.2.2.1 1, .byte), (E.2.2.1 2, .long), (E.2.2.1 3, .object RX6), (E.2.2.1 4, .object RX8), (E.2.2.1 5, .array .int)]
def xfl (f g : Nat → Value) : List Bool → Nat → List Value
  | [], _ => []
  | b :: t, j => (if b = true then g j else f j) :: xfl f g t (j + 1)
def xfs (k : Nat) : List Bool := match k with
  | 0 => [true, true, true, true, true, true]
  | 1 => [false, false, false, false]
  | 2 => [true, true, true, true, false, false]
  | 3 => [false, true, true, true, true, true]
  | 4 => [true, true, true, true, true, false, false]
  | 5 => [true, true, true, true, false, false]
  | 6 => [true, true, false, false, false]
  | 7 => [true, true, true, false, false, false]
  | 8 => [true, false, true, true, true, true, true, true, true, false, false, false, false, false, false, false, true]
  | 9 => [true, true, true, false, false]
  | 10 => [false, false, false, false, false, false]
  | 11 => [true, false, false, true, true, true, true, false, false, true, true, true, true]
  | 12 => [false, true, true, true, true, true, false, false, true, false, false, false, false, false, false, true, false, true, true, true, true]
  | _ => []
def xck (E : xE) (k : Nat) (n : Int) (f : Nat → Int) (i : Int → Int) (p : Nat → Option Nat) (y : Int → Option Nat) : va_E :=
  if k ≤ 13 then .inr (k - 1, xfl (fun j => J (f j)) (fun j => va_rf (p j)) (xfs (k - 1)) 0)
  else if k ≤ 15 then .inl (E.2.2.1 (k - 14), n.toNat, .inl (fun j => Int32.ofInt (i j)))
  else if k = 16 then .inl (E.2.2.1 (k - 14), n.toNat, .inr (.inl (fun j => Int64.ofInt (i j))))
  else .inl (E.2.2.1 (k - 14), n.toNat, .inr (.inr (.inr (.inr (fun j => y j)))))
def xcell (E : xE) (h : xH) (a : Nat) : va_E := xck E (h.2.1 a).1 (h.2.1 a).2 (h.2.2.1 a) (h.2.2.2.1 a) (h.2.2.2.2.1 a) (h.2.2.2.2.2 a)
/-- a boolean field of a row is a boolean -/
def xBo (h : xH) (a : Nat) : Prop := (h.2.1 a).1 = 7 → J (h.2.2.1 a 4) = J 0 ∨ J (h.2.2.1 a 4) = J 1
theorem xBo.no {h : xH} {a : Nat} (hk : (h.2.1 a).1 ≠ 7) : xBo h a := fun q => absurd q hk
theorem xBo.cell2 {E : xE} {h h' : xH} {a : Nat} (hT : h'.2.1 a = h.2.1 a) (hc : xcell E h' a = xcell E h a) (hb : xBo h a) : xBo h' a := by
  intro q
  rw [hT] at q
  have h1 := hb q
  unfold xcell at hc
  rw [hT, q] at hc
  unfold xck at hc
  rw [if_pos (by omega), if_pos (by omega)] at hc
  have h2 : xfl (fun j => J (h'.2.2.1 a j)) (fun j => va_rf (h'.2.2.2.2.1 a j)) (xfs 6) 0 = xfl (fun j => J (h.2.2.1 a j)) (fun j => va_rf (h.2.2.2.2.1 a j)) (xfs 6) 0 := (Prod.mk.inj (Sum.inr.inj hc)).2
  have h3 : J (h'.2.2.1 a 4) = J (h.2.2.1 a 4) := Option.some.inj (congrArg (fun l => l[4]?) h2)
  rw [h3]; exact h1
theorem xBo.cell {E : xE} {h h' : xH} {a : Nat} (hT : h'.2.1 = h.2.1) (hc : xcell E h' a = xcell E h a) (hb : xBo h a) : xBo h' a := xBo.cell2 (by rw [hT]) hc hb
def xHP (E : xE) (h : xH) (H : Heap) : Prop := H.size = h.1 ∧ ∀ a : Nat, (h.2.1 a).1 ≠ 0 → (E.2.2.2.1 ≤ a ∧ 0 ≤ (h.2.1 a).2 ∧ (h.2.1 a).2 < 2147483648 ∧ (h.2.1 a).1 ≤ 19 ∧ xBo h a) ∧ va_at E.2.1 vwCl (a, xcell E h a) H
def xst (E : xE) : Prop := ∀ u U : State, u.WarmedH U.vm → (∀ q : Nat, q < E.2.2.2.1 → U.heap[q]? = u.heap[q]?) → E.2.2.2.2 u → E.2.2.2.2 U
def xKn (E : xE) (U : State) : Prop := va_K E.2.1 vwCl (xtys E) U ∧ xst E ∧ E.2.2.2.2 U ∧ E.2.2.2.1 ≤ U.heap.size
theorem xKn.moved {E : xE} {u U : State} (hvm : u.WarmedH U.vm) (hq : ∀ q : Nat, q < E.2.2.2.1 → U.heap[q]? = u.heap[q]?) (hz : u.heap.size ≤ U.heap.size) (h : xKn E u) : xKn E U :=
  ⟨h.1.moved hvm.alike, h.2.1, h.2.1 u U hvm hq h.2.2.1, Nat.le_trans h.2.2.2 hz⟩
def xA (E : xE) : Nat → Prop := fun q => E.2.2.2.1 ≤ q

/-! updates -/
def upF (F : Nat → Nat → Int) (a k : Nat) (v : Int) : Nat → Nat → Int := fun b j => if b = a ∧ j = k then v else F b j
def upI (F : Nat → Int → Int) (a : Nat) (k v : Int) : Nat → Int → Int := fun b j => if b = a ∧ j = k then v else F b j
def upP (F : Nat → Nat → Option Nat) (a k : Nat) (v : Option Nat) : Nat → Nat → Option Nat := fun b j => if b = a ∧ j = k then v else F b j
def upY (F : Nat → Int → Option Nat) (a : Nat) (k : Int) (v : Option Nat) : Nat → Int → Option Nat := fun b j => if b = a ∧ j = k then v else F b j
def upT (T : Nat → Nat × Int) (a : Nat) (k : Nat) (n : Int) : Nat → Nat × Int := fun b => if b = a then (k, n) else T b
def up0 {α : Type} {β : Type} (F : Nat → α → β) (a : Nat) (v : β) : Nat → α → β := fun b j => if b = a then v else F b j
theorem upF_at (F : Nat → Nat → Int) (a k : Nat) (v : Int) : upF F a k v a k = v := if_pos ⟨rfl, rfl⟩
theorem upI_at (F : Nat → Int → Int) (a : Nat) (k v : Int) : upI F a k v a k = v := if_pos ⟨rfl, rfl⟩
theorem upP_at (F : Nat → Nat → Option Nat) (a k : Nat) (v : Option Nat) : upP F a k v a k = v := if_pos ⟨rfl, rfl⟩
theorem upY_at (F : Nat → Int → Option Nat) (a : Nat) (k : Int) (v : Option Nat) : upY F a k v a k = v := if_pos ⟨rfl, rfl⟩
theorem upF_na (F : Nat → Nat → Int) (a k : Nat) (v : Int) {b : Nat} (h : b ≠ a) : upF F a k v b = F b := by funext j; exact if_neg (fun q => h q.1)
theorem upI_na (F : Nat → Int → Int) (a : Nat) (k v : Int) {b : Nat} (h : b ≠ a) : upI F a k v b = F b := by funext j; exact if_neg (fun q => h q.1)
theorem upP_na (F : Nat → Nat → Option Nat) (a k : Nat) (v : Option Nat) {b : Nat} (h : b ≠ a) : upP F a k v b = F b := by funext j; exact if_neg (fun q => h q.1)
theorem upY_na (F : Nat → Int → Option Nat) (a : Nat) (k : Int) (v : Option Nat) {b : Nat} (h : b ≠ a) : upY F a k v b = F b := by funext j; exact if_neg (fun q => h q.1)
theorem upF_nk (F : Nat → Nat → Int) (a k : Nat) (v : Int) {b j : Nat} (h : j ≠ k) : upF F a k v b j = F b j := if_neg (fun q => h q.2)
theorem upI_nk (F : Nat → Int → Int) (a : Nat) (k v : Int) {b : Nat} {j : Int} (h : j ≠ k) : upI F a k v b j = F b j := if_neg (fun q => h q.2)
theorem upP_nk (F : Nat → Nat → Option Nat) (a k : Nat) (v : Option Nat) {b j : Nat} (h : j ≠ k) : upP F a k v b j = F b j := if_neg (fun q => h q.2)
theorem upY_nk (F : Nat → Int → Option Nat) (a : Nat) (k : Int) (v : Option Nat) {b : Nat} {j : Int} (h : j ≠ k) : upY F a k v b j = F b j := if_neg (fun q => h q.2)
theorem upT_at (T : Nat → Nat × Int) (a k : Nat) (n : Int) : upT T a k n a = (k, n) := if_pos rfl
theorem upT_na (T : Nat → Nat × Int) (a k : Nat) (n : Int) {b : Nat} (h : b ≠ a) : upT T a k n b = T b := if_neg h

/-! one cell of the heap written -/
theorem xHP.lt {E : xE} {h : xH} {H : Heap} (hP : xHP E h H) {a : Nat} (ha : (h.2.1 a).1 ≠ 0) : a < h.1 := by
  rw [← hP.1]; exact (hP.2 a ha).2.lt
theorem xHP.set {E : xE} {h h' : xH} {H H1 : Heap} (hP : xHP E h H) (a : Nat) (z : H1.size = H.size) (oq : ∀ q : Nat, q ≠ a → H1[q]? = H[q]?) (hz : h'.1 = h.1) (hT : h'.2.1 = h.2.1) (hB : xBo h' a)
    (hn : ∀ b : Nat, b ≠ a → xcell E h' b = xcell E h b) (hv : va_at E.2.1 vwCl (a, xcell E h' a) H1) : xHP E h' H1 := by
  refine ⟨by rw [z, hP.1, hz], fun b hb => ?_⟩
  rw [hT] at hb
  obtain ⟨⟨g1, g2, g3, g4, g5⟩, h2⟩ := hP.2 b hb
  by_cases hba : b = a
  · subst hba; exact ⟨by rw [hT]; exact ⟨g1, g2, g3, g4, hB⟩, hv⟩
  · exact ⟨by rw [hT]; exact ⟨g1, g2, g3, g4, g5.cell hT (hn b hba)⟩, by rw [hn b hba]; exact h2.kept (oq b hba)⟩
/-! one cell more -/
theorem xHP.push {E : xE} {h h' : xH} {H H1 : Heap} (hP : xHP E h H) (z : H1.size = H.size + 1) (oq : ∀ q : Nat, q < H.size → H1[q]? = H[q]?) (hz : h'.1 = h.1 + 1) {k : Nat} {n : Int} (hT : h'.2.1 = upT h.2.1 h.1 k n) (hb : E.2.2.2.1 ≤ h.1) (hn0 : 0 ≤ n ∧ n < 2147483648 ∧ k ≤ 19) (hB : xBo h' h.1)
    (hn : ∀ b : Nat, b ≠ h.1 → xcell E h' b = xcell E h b) (hv : va_at E.2.1 vwCl (h.1, xcell E h' h.1) H1) : xHP E h' H1 := by
  refine ⟨by rw [z, hP.1, hz], fun b hb2 => ?_⟩
  by_cases hba : b = h.1
  · subst hba
    refine ⟨⟨hb, ?_⟩, hv⟩
    rw [hT, upT_at]; exact ⟨hn0.1, hn0.2.1, hn0.2.2, hB⟩
  · rw [hT, upT_na _ _ _ _ hba] at hb2
    obtain ⟨⟨g1, g2, g3, g4, g5⟩, h2⟩ := hP.2 b hb2
    refine ⟨by rw [hT, upT_na _ _ _ _ hba]; exact ⟨g1, g2, g3, g4, xBo.cell2 (by rw [hT, upT_na _ _ _ _ hba]) (hn b hba) g5⟩, ?_⟩
    rw [hn b hba]
    exact h2.kept (oq b h2.lt)
theorem xfl_get (f g : Nat → Value) : ∀ (bs : List Bool) (j k : Nat) (b : Bool), bs[k]? = some b → (xfl f g bs j)[k]? = some (if b = true then g (j + k) else f (j + k))
  | [], _, k, _, h => by simp at h
  | b0 :: t, j, 0, b, h => by simp at h; subst h; rfl
  | b0 :: t, j, k + 1, b, h => by
    have h1 := xfl_get f g t (j + 1) k b (by simpa using h)
    rw [show j + 1 + k = j + (k + 1) by omega] at h1
    simpa [xfl] using h1
theorem xfl_set (f g : Nat → Value) : ∀ (bs : List Bool) (j k : Nat) (b : Bool) (f' g' : Nat → Value), bs[k]? = some b → (∀ i, i ≠ j + k → f' i = f i ∧ g' i = g i) → xfl f' g' bs j = (xfl f g bs j).set k (if b = true then g' (j + k) else f' (j + k))
  | [], _, k, _, _, _, h, _ => by simp at h
  | b0 :: t, j, 0, b, f', g', h, hn => by
    simp at h; subst h
    have h1 : ∀ (t : List Bool) (i : Nat), j < i → xfl f' g' t i = xfl f g t i := by
      intro t
      induction t with
      | nil => intro i _; rfl
      | cons c t ih => intro i hi; simp only [xfl]; rw [ih (i + 1) (by omega), (hn i (by omega)).1, (hn i (by omega)).2]
    simp only [xfl, List.set_cons_zero, Nat.add_zero]
    rw [h1 t (j + 1) (by omega)]
  | b0 :: t, j, k + 1, b, f', g', h, hn => by
    have h1 := xfl_set f g t (j + 1) k b f' g' (by simpa using h) (fun i hi => hn i (by omega))
    rw [show j + 1 + k = j + (k + 1) by omega] at h1
    simp only [xfl, List.set_cons_succ]
    rw [h1, (hn j (by omega)).1, (hn j (by omega)).2]
theorem xfl_len (f g : Nat → Value) : ∀ (bs : List Bool) (j : Nat), (xfl f g bs j).length = bs.length
  | [], _ => rfl
  | _ :: t, j => by simp [xfl, xfl_len f g t]

/-! locals -/
def xat : List (Option Value) → Nat → Option Value
  | [], _ => none
  | v :: _, 0 => v
  | _ :: t, i + 1 => xat t i
def xput : List (Option Value) → Nat → Option Value → List (Option Value)
  | [], _, _ => []
  | _ :: t, 0, v => v :: t
  | w :: t, i + 1, v => w :: xput t i v
def xle : List (Option Value) → List (Option Value) → Prop
  | [], _ => True
  | none :: t, [] => xle t []
  | none :: t, _ :: u => xle t u
  | some _ :: _, [] => False
  | some v :: t, w :: u => w = some v ∧ xle t u
def xone : Option Value → Bool
  | some (.long _) => false
  | some (.double _) => false
  | _ => true
def xhasL (ls : Array Slot) (n : Nat) (L : List (Option Value)) : Prop := ls.size = n ∧ lv_wf ls ∧ ∀ (i : Nat) (v : Value), xat L i = some v → ls[i]? = some (.val v)
theorem xle_at : ∀ (L' L : List (Option Value)), xle L' L → ∀ (i : Nat) (v : Value), xat L' i = some v → xat L i = some v
  | [], _, _, _, _, h => by simp [xat] at h
  | none :: t, [], h, 0, v, hv => by simp [xat] at hv
  | none :: t, [], h, i + 1, v, hv => by
    have := xle_at t [] h i v hv
    simp [xat] at this
  | none :: t, _ :: u, h, 0, v, hv => by simp [xat] at hv
  | none :: t, _ :: u, h, i + 1, v, hv => xle_at t u h i v hv
  | some _ :: _, [], h, _, _, _ => by cases h
  | some w :: t, x :: u, h, 0, v, hv => by
    simp only [xat] at hv ⊢
    rw [h.1]; exact hv
  | some w :: t, x :: u, h, i + 1, v, hv => xle_at t u h.2 i v hv
theorem xhasL.le {ls : Array Slot} {n : Nat} {L L' : List (Option Value)} (h : xhasL ls n L) (hl : xle L' L) : xhasL ls n L' := ⟨h.1, h.2.1, fun i v hv => h.2.2 i v (xle_at L' L hl i v hv)⟩
def xpairs (L : List (Option Value)) : List (Nat × Value) := (List.range L.length).filterMap fun i => (xat L i).map fun v => (i, v)
theorem xat_lt : ∀ (L : List (Option Value)) (i : Nat) (v : Value), xat L i = some v → i < L.length
  | [], _, _, h => by simp [xat] at h
  | _ :: _, 0, _, _ => by simp
  | _ :: t, i + 1, v, h => by have := xat_lt t i v h; simp; omega
theorem xpairs_mem {L : List (Option Value)} {i : Nat} {v : Value} : (i, v) ∈ xpairs L ↔ xat L i = some v := by
  unfold xpairs
  rw [List.mem_filterMap]
  constructor
  · rintro ⟨j, hj, h⟩
    cases hx : xat L j with
    | none => rw [hx] at h; simp at h
    | some w => rw [hx] at h; simp at h; obtain ⟨rfl, rfl⟩ := h; exact hx
  · intro h
    exact ⟨i, List.mem_range.mpr (xat_lt L i v h), by rw [h]; rfl⟩
theorem xhasL.to {ls : Array Slot} {n : Nat} {L : List (Option Value)} (h : xhasL ls n L) : lv_has ls n (xpairs L) := ⟨h.1, h.2.1, fun q hq => h.2.2 q.1 q.2 (xpairs_mem.mp hq)⟩
theorem xput_at : ∀ (L : List (Option Value)) (i j : Nat) (w v : Option Value), xat (xput L i w) j = v → (j = i ∧ v = w) ∨ (j = i ∧ v = none) ∨ (j ≠ i ∧ xat L j = v)
  | [], i, j, w, v, h => by
    simp only [xput, xat] at h
    subst h
    by_cases hj : j = i
    · exact Or.inr (Or.inl ⟨hj, rfl⟩)
    · exact Or.inr (Or.inr ⟨hj, rfl⟩)
  | _ :: t, 0, 0, w, v, h => Or.inl ⟨rfl, h.symm⟩
  | _ :: t, 0, j + 1, w, v, h => Or.inr (Or.inr ⟨by omega, h⟩)
  | _ :: t, i + 1, 0, w, v, h => Or.inr (Or.inr ⟨by omega, h⟩)
  | _ :: t, i + 1, j + 1, w, v, h => by
    rcases xput_at t i j w v h with ⟨a, b⟩ | ⟨a, b⟩ | ⟨a, b⟩
    · exact Or.inl ⟨by omega, b⟩
    · exact Or.inr (Or.inl ⟨by omega, b⟩)
    · exact Or.inr (Or.inr ⟨by omega, b⟩)
theorem xone_cat {v : Value} (h : xone (some v) = true) : v.category = 1 := by cases v <;> simp_all [xone, Value.category]
/-- from the kit's list behind a store of one word back to the positional one -/
theorem xhasL.put1 {ls : Array Slot} {n i : Nat} {L : List (Option Value)} {v : Value} (hc : i = 0 ∨ xone (xat L (i - 1)) = true)
    (h : lv_has ls n ((i, v) :: (xpairs L).filter (fun q => !(q.1 == i) && !(q.1 + 1 == i && q.2.category == 2)))) : xhasL ls n (xput L i (some v)) := by
  refine ⟨h.1, h.2.1, fun j w hw => ?_⟩
  rcases xput_at L i j _ _ hw with ⟨rfl, e⟩ | ⟨rfl, e⟩ | ⟨hne, e⟩
  · cases e; exact h.2.2 (j, v) List.mem_cons_self
  · cases e
  · refine h.2.2 (j, w) (List.mem_cons_of_mem _ (List.mem_filter.mpr ⟨xpairs_mem.mpr e, ?_⟩))
    by_cases h1 : j + 1 = i
    · rcases hc with h0 | h0
      · omega
      · rw [show i - 1 = j by omega, e] at h0
        have h2 := xone_cat h0
        simp [hne, h2]
    · simp [hne, h1]
theorem xhasL.put2 {ls : Array Slot} {n i : Nat} {L : List (Option Value)} {v : Value} (hc : i = 0 ∨ xone (xat L (i - 1)) = true)
    (h : lv_has ls n ((i, v) :: (xpairs L).filter (fun q => !(q.1 == i) && (!(q.1 == i + 1) && !(q.1 + 1 == i && q.2.category == 2))))) : xhasL ls n (xput (xput L i (some v)) (i + 1) none) := by
  refine ⟨h.1, h.2.1, fun j w hw => ?_⟩
  rcases xput_at _ (i + 1) j _ _ hw with ⟨rfl, e⟩ | ⟨rfl, e⟩ | ⟨hne1, e1⟩
  · cases e
  · cases e
  rcases xput_at L i j _ _ e1 with ⟨rfl, e⟩ | ⟨rfl, e⟩ | ⟨hne, e⟩
  · cases e; exact h.2.2 (j, v) List.mem_cons_self
  · cases e
  · refine h.2.2 (j, w) (List.mem_cons_of_mem _ (List.mem_filter.mpr ⟨xpairs_mem.mpr e, ?_⟩))
    by_cases h1 : j + 1 = i
    · rcases hc with h0 | h0
      · omega
      · rw [show i - 1 = j by omega, e] at h0
        have h2 := xone_cat h0
        simp [hne, hne1, h2]
    · simp [hne, hne1, h1]
theorem xhasL.entry {args : List Value} {ls : Array Slot} {n : Nat} {l : List (Nat × Value)} {L : List (Option Value)} (h : lv_has ls n l) (hL : ∀ i v, xat L i = some v → (i, v) ∈ l) : xhasL ls n L := ⟨h.1, h.2.1, fun i v hv => h.2.2 (i, v) (hL i v hv)⟩
