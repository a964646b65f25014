/-! a new matrix of ints -/
section XMN
variable {E : xE} {M : xM} {X : xX} {pc : Nat} {L : List (Option Value)} {st : List Value} {z : Nat} {T : Nat → Nat × Int} {F : Nat → Nat → Int} {I : Nat → Int → Int} {P : Nat → Nat → Option Nat} {Y : Nat → Int → Option Nat} {c n d0 mc ms : Nat}
def mnT (T : Nat → Nat × Int) (z : Nat) (l1 l2 : Int) : Nat → Nat × Int := fun b => if b = z then (19, l1) else if z < b ∧ b < z + 1 + l1.toNat then (14, l2) else T b
def mnI (I : Nat → Int → Int) (z : Nat) (l1 : Int) : Nat → Int → Int := fun b j => if z < b ∧ b < z + 1 + l1.toNat then 0 else I b j
def mnY (Y : Nat → Int → Option Nat) (z : Nat) (l1 : Int) : Nat → Int → Option Nat := fun b j => if b = z then (if 0 ≤ j ∧ j < l1 then some (z + 1 + j.toNat) else none) else Y b j
theorem mn_outer (cA : ClassId) (N h0 : Nat) : ∀ i : Nat, Jvm.Free.Multi.outerC cA N h0 i = arrV cA N (fun j => va_rf (if j < i then some (h0 + 1 + j) else none))
  | 0 => by
    show ({ cls := cA, slots := Array.replicate N .null, vm := .none } : Cell) = _
    rw [arrV_new]
    exact congrArg (arrV cA N) (funext fun j => by rw [if_neg (by omega)]; rfl)
  | i + 1 => by
    show (Jvm.Free.Multi.outerC cA N h0 i).setSlot i (.ref (h0 + 1 + i)) = _
    rw [mn_outer cA N h0 i, arrV_store]
    refine congrArg (arrV cA N) (funext fun j => ?_)
    unfold updV
    by_cases e : j = i
    · subst e
      rw [if_pos (by omega)]
      simp [va_rf]
    · by_cases h : j < i
      · simp [e, h, Nat.lt_succ_of_lt h]
      · simp [e, h, show ¬ j < i + 1 by omega]
theorem xg_mna {i : Nat} {l1 l2 : Int} (q : Nat) (hl : Cond.classLink M.1.cls i "[[I" ∈ xT) (ho : ∀ u : State, E.2.2.2.2 u → (Cond.arrayOver (.array .int)).before #[] u = true) (d : decode M.2.1 pc = .ok (.multianewarray i 2, 4)) (hq : pc + 4 = q) (h1 : 0 ≤ l1 ∧ l1 ≤ 1000) (h2 : 0 ≤ l2 ∧ l2 ≤ 1000) (hc : c + 1 + l1.toNat ≤ mc ∧ n + l1.toNat + l1.toNat * l2.toNat ≤ ms)
    (kk : xG E M (xR d0 mc ms) X q L (.ref z :: st) (z + 1 + l1.toNat, mnT T z l1 l2, F, mnI I z l1, P, mnY Y z l1) (c + 1 + l1.toNat) (n + l1.toNat + l1.toNat * l2.toNat)) : xG E M (xR d0 mc ms) X pc L (J l2 :: J l1 :: st) (z, T, F, I, P, Y) c n := by
  subst hq
  intro p e s m args below meth cd C H locs ls hP hS hL TT hT XX
  have hts := C.2.2.2.2.2.1
  have hKn : xKn E s := C.2.2.2.2.2.2.2.2
  have hz : H.size = z := hP.1
  have hb : E.2.2.2.1 ≤ z := by rw [← hz]; exact Nat.le_trans hKn.2.2.2 hS.1
  have n1 : ¬ (Int32.ofInt l1) < 0 := by rw [show (0 : Int32) = Int32.ofInt 0 from rfl, x32lt ⟨⟨by omega, by omega⟩, by omega, by omega⟩]; omega
  have n2 : ¬ (Int32.ofInt l2) < 0 := by rw [show (0 : Int32) = Int32.ofInt 0 from rfl, x32lt ⟨⟨by omega, by omega⟩, by omega, by omega⟩]; omega
  have hN : (Int32.ofInt l1).toNatClampNeg = l1.toNat := xnat ⟨h1.1, by omega⟩
  have hM : (Int32.ofInt l2).toNatClampNeg = l2.toNat := xnat ⟨h2.1, by omega⟩
  obtain ⟨vm₁, cA, comp, -, fA, fC, hO, -, X', step⟩ := XX.multianewarray2F C.1 (ty := .int) C.2.2.2.2.1 (hts _ hl) (show (Cond.arrayOver (.array .int)).before args s = true from ho s hKn.2.2.1) (hts _ k_acint) (g := F0 m pc ls (J l2 :: J l1 :: st)) rfl (by rw [C.2.1]; exact d) rfl n1 n2 (by rw [hN]; omega) (by rw [hM]; show l2.toNat * 4 ≤ _; omega) (by rw [hM]; omega) rfl rfl (by rw [hN]; show _ ≤ mc; omega) (by rw [hN, hM]; show _ ≤ ms; omega)
  have eA : cA = E.2.2.1 5 := by
    have h9 : s.vm.findClass ("[" ++ (FieldType.array FieldType.int).toString) = some (E.2.2.1 5) := (hKn.1.2 5 _ rfl).2
    exact Option.some.inj (fA.symm.trans h9)
  have eC : comp = E.2.2.1 0 := by
    have h9 : s.vm.findClass ("[" ++ (FieldType.int).toString) = some (E.2.2.1 0) := (hKn.1.2 0 _ rfl).2
    exact Option.some.inj (fC.symm.trans h9)
  subst eA eC
  rw [hN, hM] at X' step
  generalize hF : Jvm.Free.Multi.fill (TT.setVm vm₁) (E.2.2.1 5) (E.2.2.1 0) l1.toNat l2.toNat (defaultValue .int) l1.toNat = G at X' step
  have hTh : (TT.setVm vm₁).heap = H := hT
  obtain ⟨f1, f2, -, -⟩ := Jvm.Free.Multi.fill_facts (TT.setVm vm₁) (E.2.2.1 5) (E.2.2.1 0) l1.toNat l2.toNat (defaultValue .int) l1.toNat
  rw [hF, hTh] at f1 f2
  have hold : ∀ x : Nat, x < H.size → G.heap[x]? = H[x]? := fun x hx => by
    have := Jvm.Free.Multi.fill_old (TT.setVm vm₁) (E.2.2.1 5) (E.2.2.1 0) l1.toNat l2.toNat (defaultValue .int) (a := x) (by rw [hTh]; exact hx) l1.toNat
    rw [hF, hTh] at this
    exact this
  have hrow : ∀ j : Nat, j < l1.toNat → G.heap[H.size + 1 + j]? = some (Jvm.Free.Multi.innerC (E.2.2.1 0) l2.toNat (defaultValue .int)) := fun j hj => by
    have := Jvm.Free.Multi.fill_inner (TT.setVm vm₁) (E.2.2.1 5) (E.2.2.1 0) l1.toNat l2.toNat (defaultValue .int) l1.toNat j hj
    rw [hF, hTh] at this
    exact this
  rw [hz] at f1 f2 hold hrow
  have hT0 : (TT.heap).size = z := by rw [hT]; exact hz
  rw [hT0] at step
  have hnew : xHP E (z + 1 + l1.toNat, mnT T z l1 l2, F, mnI I z l1, P, mnY Y z l1) G.heap := by
    refine ⟨?_, fun b hb1 => ?_⟩
    · rw [f1]
    · show (E.2.2.2.1 ≤ b ∧ 0 ≤ (mnT T z l1 l2 b).2 ∧ (mnT T z l1 l2 b).2 < 2147483648 ∧ (mnT T z l1 l2 b).1 ≤ 19 ∧ xBo (z + 1 + l1.toNat, mnT T z l1 l2, F, mnI I z l1, P, mnY Y z l1) b) ∧ va_at E.2.1 vwCl (b, xck E (mnT T z l1 l2 b).1 (mnT T z l1 l2 b).2 (F b) (mnI I z l1 b) (P b) (mnY Y z l1 b)) G.heap
      by_cases hbz : b = z
      · subst hbz
        have e1 : mnT T b l1 l2 b = (19, l1) := if_pos rfl
        rw [e1]
        refine ⟨⟨hb, h1.1, by show l1 < _; omega, Nat.le_refl _, xBo.no (by show (mnT T b l1 l2 b).1 ≠ 7; rw [e1]; show 19 ≠ 7; omega)⟩, ?_⟩
        show G.heap[b]? = some (vp_cell (E.2.2.1 5) (l1.toNat, .inr (.inr (.inr (.inr (fun j : Nat => mnY Y b l1 b j))))))
        rw [f2, mn_outer, vp_cell_q]
        refine congrArg some (congrArg _ (funext fun j => congrArg va_rf ?_))
        unfold mnY
        rw [if_pos rfl]
        by_cases hj : j < l1.toNat
        · rw [if_pos hj, if_pos (by omega)]; rfl
        · rw [if_neg hj, if_neg (by omega)]
      · by_cases hbi : z < b ∧ b < z + 1 + l1.toNat
        · have e1 : mnT T z l1 l2 b = (14, l2) := by unfold mnT; rw [if_neg hbz, if_pos hbi]
          rw [e1]
          refine ⟨⟨by omega, h2.1, by show l2 < _; omega, by show 14 ≤ 19; omega, xBo.no (by show (mnT T z l1 l2 b).1 ≠ 7; rw [e1]; show 14 ≠ 7; omega)⟩, ?_⟩
          show G.heap[b]? = some (arrV (E.2.2.1 0) l2.toNat (fun j => .int (Int32.ofInt (mnI I z l1 b j))))
          have h3 := hrow (b - (z + 1)) (by omega)
          rw [show z + 1 + (b - (z + 1)) = b by omega] at h3
          rw [h3]
          show some ({ cls := E.2.2.1 0, slots := Array.replicate l2.toNat (Value.int 0), vm := .none } : Cell) = _
          rw [arrV_new]
          exact congrArg some (congrArg _ (funext fun j => by unfold mnI; rw [if_pos hbi]; rfl))
        · have e1 : mnT T z l1 l2 b = T b := by unfold mnT; rw [if_neg hbz, if_neg hbi]
          have hb2 : (T b).1 ≠ 0 := by rw [← e1]; exact hb1
          obtain ⟨g1, g2⟩ := hP.2 b hb2
          have g3 : b < H.size := g2.lt
          rw [e1, show mnI I z l1 b = I b from funext fun j => if_neg hbi, show mnY Y z l1 b = Y b from funext fun j => if_neg hbz]
          exact ⟨⟨g1.1, g1.2.1, g1.2.2.1, g1.2.2.2.1, fun q => g1.2.2.2.2 (by show (T b).1 = 7; rw [← e1]; exact q)⟩, g2.kept (hold b (by rw [← hz]; exact g3))⟩
  obtain ⟨t, a1, b1⟩ := kk p e s m args below meth cd C G.heap locs ls hnew ⟨by rw [f1]; have := hS.1; rw [hz] at this; omega, fun x g1 g2 => by
    rw [hold x (by have := hS.1; rw [hz] at this; exact Nat.lt_of_lt_of_le g1 this)]; exact hS.2.1 x g1 g2, hS.2.2⟩ hL G rfl X'
  exact ⟨t, step t a1, b1⟩
theorem mnT_at (T : Nat → Nat × Int) (z : Nat) (l1 l2 : Int) : mnT T z l1 l2 z = (19, l1) := if_pos rfl
theorem mnT_in (T : Nat → Nat × Int) (z : Nat) (l1 l2 : Int) {b : Nat} (h : z < b) (h2 : b < z + 1 + l1.toNat) : mnT T z l1 l2 b = (14, l2) := by unfold mnT; rw [if_neg (by omega), if_pos ⟨h, h2⟩]
theorem mnT_lo (T : Nat → Nat × Int) (z : Nat) (l1 l2 : Int) {b : Nat} (h : b < z) : mnT T z l1 l2 b = T b := by unfold mnT; rw [if_neg (by omega), if_neg (by omega)]
theorem mnT_hi (T : Nat → Nat × Int) (z : Nat) (l1 l2 : Int) {b : Nat} (h : z + 1 + l1.toNat ≤ b) : mnT T z l1 l2 b = T b := by unfold mnT; rw [if_neg (by omega), if_neg (by omega)]
theorem mnI_lo (I : Nat → Int → Int) (z : Nat) (l1 : Int) {b : Nat} (h : b < z) : mnI I z l1 b = I b := by funext j; unfold mnI; rw [if_neg (by omega)]
theorem mnY_lo (Y : Nat → Int → Option Nat) (z : Nat) (l1 : Int) {b : Nat} (h : b ≠ z) : mnY Y z l1 b = Y b := by funext j; unfold mnY; rw [if_neg h]
theorem mnY_in (Y : Nat → Int → Option Nat) (z : Nat) (l1 : Int) {j : Nat} (h : (j : Int) < l1) : mnY Y z l1 z (j : Int) = some (z + 1 + j) := by unfold mnY; rw [if_pos rfl, if_pos (by omega), Int.toNat_natCast]
end XMN

