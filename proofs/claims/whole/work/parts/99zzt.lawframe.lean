/-! THE CLAIM OUT OF ONE WALK OF THE LAW'S BODY. Your part is whole_start (and what it stands on); all else here is the same for every law, but numbers. -/
def R_law : String := "RunLedgerLaw"
def lw_P (b : Addr) (xs : List Int32) (args : Array Value) (s : State) : Prop := args = #[.ref b] ∧ s.IntsAt b xs ∧ xs.length ≤ 3072 ∧ (Jvm.Cond.and given_1 narrow_1).before args s = true
def lw_Q (_ : Array Value) (s : State) (o : Outcome) (t : State) : Prop := o = .returned (some (.int 1)) ∧ Framed s o t [] 601024 7293034
def lw_Z (below : List Frame) (a : Array Value) (s : State) : State → Prop := fun t => ∃ o, t.status = .running ∧ Ended t below o ∧ lw_Q a s o t
/-- the law's own end, with 1 on the stack, nothing written that was there before, its room as the claim has it -/
theorem lw_ret {p : Program} {l : Launch} {e : Env} {s : State} {m : MethodId} {below : List Frame} {meth : Method} {c : Code} {b : Nat} (hx : p.tables.exec = Jvm.exec) (hb : c.code = code) (hr : meth.sig.returnType = ret) (hlocks : meth.locks = false) {pc : Nat} {H : Heap} {ls : Array Slot} (hdg : decode code pc = .ok (.ireturn, 1)) : W p l e room_1 s m #[Value.ref b] below meth c H [] 601024 7293034 (lw_Z below #[Value.ref b] s) (F0 m pc ls [.int 1]) := by
  intro T hT X
  obtain ⟨fs, hret, hrun, hended, hW, hframe⟩ := X.leave (v := some (.int 1)) (hlocks := hlocks) (fun h => by rw [hr] at h; cases h)
  have hmeth' : T.vm.method? m = some meth := X.method'
  refine ⟨T.setFrames fs, ?_, .returned (some (.int 1)), hrun, hended, rfl, ⟨_, rfl⟩, hW, hframe⟩
  jvm_step X.here [X.here.top, hx, hb, hdg, hmeth', hr, ret, narrow_b1]
  (try refine ⟨rfl, ?_⟩); (try refine ⟨rfl, ?_⟩)
  first | (intro acts; rw [hret _ acts rfl rfl rfl]) | rw [hret _ _ rfl rfl rfl]
  exact Steps.refl _
/-- what holds at the law's entry: the machine, the code, the tables' words (any of lw_tbl by 'hts w (by decide +kernel)'), the script of L ints xs at the cell b, what the Statement gives of the start (any of its parts by flat_of_before) -/
def lw_At (p : Program) (s : State) (m : MethodId) (meth : Method) (c : Code) (b L : Nat) (xs : Nat → Int32) : Prop :=
  p.tables.exec = Jvm.exec ∧ c.code = code ∧ meth.sig.returnType = ret ∧ c.maxLocals = 7 ∧ s.vm.findClass R_law = some m.cls ∧ (∀ w ∈ lw_tbl, w.before #[Value.ref b] s = true) ∧ va_X b L xs s s.heap ∧ b < s.heap.size ∧ meth.locks = false ∧ (Jvm.Cond.and given_1 narrow_1).before #[Value.ref b] s = true
/-! the law's own frame -/
abbrev mL_law_ (nm : MethodName) : xM := (⟨RL, nm.name, nm.desc⟩, code, 7, ret, 99)
theorem i32r (v : Int32) : -2147483648 ≤ v.toInt ∧ v.toInt < 2147483648 := by
  have h1 := Int32.le_toInt v
  have h2 := Int32.toInt_lt v
  omega
theorem xand_r (a b : Int) : -2147483648 ≤ xand a b ∧ xand a b < 2147483648 := i32r _
theorem xcmp_self (a : Int) : xcmp a a = 0 := by unfold xcmp; simp
theorem x_mono {s : State} {pl : Platform} {r r' : Room} (hf : r.frames ≤ r'.frames) (hl : r.locals ≤ r'.locals) (hc : r.cells ≤ r'.cells) (hs : r.slots ≤ r'.slots) (h : s.hasRoom pl r' = true) : s.hasRoom pl r = true := by
  simp only [State.hasRoom, Bool.and_eq_true, decide_eq_true_eq] at h ⊢
  obtain ⟨⟨⟨⟨y, a, b, c, d, e⟩, f⟩, g⟩, i⟩ := h
  exact ⟨⟨⟨⟨by omega, by omega, by omega, by omega, by omega, e⟩, by omega⟩, by omega⟩, i⟩
section XLF
variable {p : Program} {l : Launch} {e : Env} {R R' : Room} {s : State} {m : MethodId} {args : Array Value} {below : List Frame} {meth : Method} {c : Code} {H : Heap} {locs : List Loc} {cells slots : Nat} {Q : State → Prop} {g : JFrame}
theorem x_room (hf : R'.frames ≤ R.frames) (hl : R'.locals ≤ R.locals) (hc : R'.cells ≤ R.cells) (hs : R'.slots ≤ R.slots) (k : W p l e R' s m args below meth c H locs cells slots Q g) : W p l e R s m args below meth c H locs cells slots Q g :=
  fun T hT X => k T hT ⟨X.admits, X.cas, X.clock, X.frames, x_mono hf hl hc hs X.room, X.hears, X.method, X.code, X.here, X.tail, X.warmed, X.limits, X.bytes, X.same⟩
theorem lwg_ret (hx : p.tables.exec = Jvm.exec) (hb : c.code = code) (hr : meth.sig.returnType = ret) (hlocks : meth.locks = false) {pc : Nat} {ls : Array Slot} (hdg : decode code pc = .ok (.ireturn, 1)) : W p l e R s m args below meth c H [] 601024 7293034 (lw_Z below args s) (F0 m pc ls [.int 1]) := by
  intro T hT X
  obtain ⟨fs, hret, hrun, hended, hW, hframe⟩ := X.leave (v := some (.int 1)) (hlocks := hlocks) (fun h => by rw [hr] at h; cases h)
  have hmeth' : T.vm.method? m = some meth := X.method'
  refine ⟨T.setFrames fs, ?_, .returned (some (.int 1)), hrun, hended, rfl, ⟨_, rfl⟩, hW, hframe⟩
  jvm_step X.here [X.here.top, hx, hb, hdg, hmeth', hr, ret, narrow_b1]
  (try refine ⟨rfl, ?_⟩); (try refine ⟨rfl, ?_⟩)
  first | (intro acts; rw [hret _ acts rfl rfl rfl]) | rw [hret _ _ rfl rfl rfl]
  exact Steps.refl _
end XLF
/-- the law's end, where its own heap is the start's -/
def xLX (E : xE) : xX := fun below args s t => s.heap.size ≤ E.2.2.2.1 → lw_Z below args s t
section XLR
variable {E : xE} {nm : MethodName} {M : xM} {X : xX} {R : Room} {pc : Nat} {L : List (Option Value)} {st : List Value} {h : xH} {c n b N : Nat} {xs : Nat → Int32} {i : Int}
theorem xg_lawret {R : Room} (d : decode code pc = .ok (.ireturn, 1)) (hc : c ≤ 601024 ∧ n ≤ 7293034) : xG E (mL_law_ nm) R (xLX E) pc L [J 1] h c n := by
  intro p e s m args below meth cd C H locs ls hP hS hL T hT XX
  by_cases hb : s.heap.size ≤ E.2.2.2.1
  · obtain ⟨t, a1, a2⟩ := (W.widen (k := 601024) (n := 7293034) hc.1 hc.2 (va_forget (fun q hq => Nat.le_trans hb (hS.2.2 q hq)) (lwg_ret (R := R) (args := args) (below := below) (H := H) (ls := ls) C.1 C.2.1 C.2.2.1 C.2.2.2.2.2.2.1 d))) T hT XX
    exact ⟨t, a1, fun _ => a2⟩
  · exact ⟨_, Steps.refl _, fun q => absurd q hb⟩
theorem xg_ialdS (q : Nat) (d : decode M.2.1 pc = .ok (.iaload, 1)) (hq : pc + 1 = q) (hX : ∀ u : State, E.2.2.2.2 u → va_X b N xs u u.heap ∧ b < E.2.2.2.1) (hi : (0 ≤ i ∧ i < N) ∧ N ≤ 3072) (kk : xG E M R X q L (J (xs i.toNat).toInt :: st) h c n) : xG E M R X pc L (J i :: .ref b :: st) h c n := by
  subst hq
  intro p e s m args below meth cd C H locs ls hP hS hL
  have hK : xKn E s := C.2.2.2.2.2.2.2.2
  obtain ⟨h1, h2⟩ := hX s hK.2.2.1
  have e1 : (Int32.ofInt i).toNatClampNeg = i.toNat := xnat (by omega)
  have hin : vp_in (Int32.ofInt i) N := by
    unfold vp_in
    rw [e1]
    intro hh
    rcases hh with hh | hh
    · have h9 : (Int32.ofInt i).toInt < (0 : Int32).toInt := Int32.lt_iff_toInt_lt.mp hh
      rw [x32 (by omega)] at h9
      have h8 : (0 : Int32).toInt = 0 := rfl
      omega
    · omega
  refine va_sld C.1 C.2.1 h1 (Nat.lt_of_lt_of_le h2 hK.2.2.2) (A := xA E) (Nat.not_le.mpr h2) hS hin d ?_
  rw [e1, xof]
  exact kk p e s m args below meth cd C H locs ls hP hS hL
theorem xg_slen (q : Nat) (hX : ∀ u : State, E.2.2.2.2 u → va_X b N xs u u.heap ∧ b < E.2.2.2.1) (hN : N ≤ 3072) (d : decode M.2.1 pc = .ok (.arraylength, 1)) (hq : pc + 1 = q) (kk : xG E M R X q L (J (N : Int) :: st) h c n) : xG E M R X pc L (.ref b :: st) h c n := by
  subst hq
  intro p e s m args below meth cd C H locs ls hP hS hL
  have hK : xKn E s := C.2.2.2.2.2.2.2.2
  obtain ⟨h1, h2⟩ := hX s hK.2.2.1
  refine va_slen C.1 C.2.1 h1 (Nat.lt_of_lt_of_le h2 hK.2.2.2) (A := xA E) (Nat.not_le.mpr h2) hS d ?_
  have e1 : Value.int (Int32.ofNat N) = J (N : Int) := by unfold J; congr 1
  rw [e1]
  exact kk p e s m args below meth cd C H locs ls hP hS hL
theorem xg_less7 {v0 v1 v2 v3 v4 : Value} {x y : Option Value} (kk : xG E M R X pc [some v0, some v1, some v2, some v3, some v4, none, none] st h c n) : xG E M R X pc [some v0, some v1, some v2, some v3, some v4, x, y] st h c n := by
  intro p e s m args below meth cd C H locs ls hP hS hL
  refine kk p e s m args below meth cd C H locs ls hP hS ⟨hL.1, hL.2.1, fun i v hv => hL.2.2 i v ?_⟩
  match i, hv with
  | 0, hv => exact hv
  | 1, hv => exact hv
  | 2, hv => exact hv
  | 3, hv => exact hv
  | 4, hv => exact hv
  | 5, hv => simp [xat] at hv
  | 6, hv => simp [xat] at hv
  | i + 7, hv => simp [xat] at hv
end XLR

