/-! throws: contracts of methods that throw -/
/-- the words of the six exceptions that tell nothing good or bad of a frame: told apart -/
def xThW (u : State) (X : String) : Prop := va_Nw (.castable X X) u ∧ va_Nw (.declares (Bundle.init0 "java/lang/RuntimeException")) u ∧ va_Nw (.declares (Bundle.init0 "java/lang/Exception")) u ∧ va_Nw (.declares (Bundle.init0 Bundle.tN)) u
/-- what a throw leans on -/
def xThr (E : xE) (X : String) : Prop := E.1.stackTraces = false ∧ ∀ u : State, E.2.2.2.2 u → xThW u X ∧ vx_Zq Bundle.tN "UNASSIGNED_STACK" Bundle.steD (xA E) u u.heap ∧ vx_Zq Bundle.tN "SUPPRESSED_SENTINEL" Bundle.listD (xA E) u u.heap
def xXC (E : xE) (X : String) (hx : xH → Prop) : String → State → State → Prop := fun X' st t => X' = X ∧ (∃ h' : xH, hx h' ∧ xHP E h' t.heap) ∧ va_F (xA E) st t
/-- the method throws X: what the heap is then -/
def CtX (E : xE) (k : Nat) (M : xM) (mc ms : Nat) (As : List Value) (h : xH) (X : String) (hx : xH → Prop) : Prop :=
  ∀ d : Nat, k ≤ d → vx_Met E.1 M.1 (xW M) (xR d mc ms) (xPc E As h) (fun _ _ _ _ => False) (xXC E X hx) mc ms (xA E)
def xNX (E : xE) (X : String) (hx : xH → Prop) (mc ms : Nat) : xX := fun below args s => vx_MQ below (fun _ _ _ _ => False) (xXC E X hx) args s mc ms (xA E)
section XTH
variable {E : xE} {M M' : xM} {X0 : xX} {pc : Nat} {L : List (Option Value)} {st rest : List Value} {h : xH} {c n d mc ms mc' ms' k k' i : Nat} {As : List Value} {hx : xH → Prop} {X : String} {z : Nat} {T : Nat → Nat × Int} {F : Nat → Nat → Int} {I : Nat → Int → Int} {P : Nat → Nat → Option Nat} {Y : Nat → Int → Option Nat}
theorem CtX.of (L : List (Option Value)) (hM : xMt M) (hc : As.all (fun v => decide (v.category = 1)) = true) (hlen : (lg_sl As).length ≤ M.2.2.1) (hL : xent As M.2.2.1 = L)
    (body : ∀ d, k ≤ d → xG E M (xR d mc ms) (xNX E X hx mc ms) 0 L [] h 0 0) : CtX E k M mc ms As h X hx := by
  intro d hd
  subst hL
  refine vx_ofW (cc := M.2.1) (maxL := M.2.2.1) (ret := M.2.2.2.1) (ws' := xT) hM.2.2.2.1 rfl ?_
  intro p e s m args below meth c s₁ B hml _ hv
  obtain ⟨rfl, hP, hK⟩ := hv
  have hts := atoms_spec (ws := xW M) B.pre
  have hts2 : ∀ w ∈ xT, w.before As.toArray s = true := fun w hw => hts w (List.mem_cons_of_mem _ hw)
  have hown : s.vm.findClass M.1.cls = some m.cls := findClass_of_methodNamed B.named
  have hl := lv_entry As (n := M.2.2.1) hlen
  rw [lg_entry_eq]
  generalize (lg_sl As ++ List.replicate (M.2.2.1 - (lg_sl As).length) Slot.unset).toArray = ls at hl ⊢
  refine body d hd p e s m As.toArray below meth c ⟨B.exec, B.bytes, B.returns, hml, hown, hts2, B.notSynchronized, ⟨(name_of_methodNamed B.named B.method).1, Or.inr B.named⟩, hK⟩ s.heap [] ls hP va_S.rf (xhasL.pad (xhasL.entry (args := As) hl (fun i v hv => ?_)) _)
  have := xent_mem As 0 hc i v hv
  rwa [Nat.zero_add] at this
theorem CtX.post {hx' : xH → Prop} (hp : ∀ h', hx h' → hx' h') (ct : CtX E k M mc ms As h X hx) : CtX E k M mc ms As h X hx' := by
  intro d hd p e ha hc hk s m args below hf hq1 hq2 hq3
  obtain ⟨t, o, h1, h2, h3, h4⟩ := ct d hd p e ha hc hk s m args below hf hq1 hq2 hq3
  refine ⟨t, o, h1, h2, h3, ?_⟩
  rcases h4 with ⟨f, -⟩ | ⟨q, e1, E', ce, L', ⟨e2, ⟨h', e3, e4⟩, e5⟩, e6⟩
  · exact f.elim
  · exact Or.inr ⟨q, e1, E', ce, L', ⟨e2, ⟨h', hp _ e3, e4⟩, e5⟩, e6⟩
theorem xHP.more {H H1 : Heap} (hP : xHP E (z, T, F, I, P, Y) H) (hz : H.size ≤ H1.size) (hq : ∀ q : Nat, q < H.size → H1[q]? = H[q]?) : xHP E (H1.size, T, F, I, P, Y) H1 :=
  ⟨rfl, fun a ha => by
    obtain ⟨h1, h2⟩ := hP.2 a ha
    exact ⟨h1, h2.kept (hq a h2.lt)⟩⟩
/-- throw new X(): the heap is as it was, but larger -/
theorem xg_throw {ik ic : Nat} (hMt : xMt M) (hTh : xThr E X) (hnp : M.2.2.2.2 ≠ 99) (hX : Bundle.fit X = true) (hk : Cond.classLink M.1.cls ik X ∈ xT) (hini : Cond.initialized X ∈ xT)
    (hat : ∀ w ∈ vx_at0 M.1.cls ic X ["java/lang/RuntimeException", "java/lang/Exception"], w ∈ xT ∨ w ∈ [Cond.castable X X, .declares (Bundle.init0 "java/lang/RuntimeException"), .declares (Bundle.init0 "java/lang/Exception"), .declares (Bundle.init0 Bundle.tN)])
    (d0 : decode M.2.1 pc = .ok (.new ik, 3)) (d3 : decode M.2.1 (pc + 3) = .ok (.dup, 1)) (d4 : decode M.2.1 (pc + 4) = .ok (.invokespecial ic, 3)) (d7 : decode M.2.1 (pc + 7) = .ok (.athrow, 1))
    (hd : 6 ≤ d) (hc : c + 1 ≤ mc ∧ n + 6 ≤ ms) (hp : ∀ z' : Nat, z ≤ z' → hx (z', T, F, I, P, Y)) : xG E M (xR d mc ms) (xNX E X hx mc ms) pc L [] (z, T, F, I, P, Y) c n := by
  intro p e s m args below meth cd C H locs ls hP hS hL T9 hT9 X9
  have hts := C.2.2.2.2.2.1
  have hK : xKn E s := C.2.2.2.2.2.2.2.2
  obtain ⟨hThl, hThr⟩ := hTh
  obtain ⟨⟨w1, w2, w3, w4⟩, zq1, zq2⟩ := hThr s hK.2.2.1
  have hB : ∀ w ∈ [Cond.castable X X, .declares (Bundle.init0 "java/lang/RuntimeException"), .declares (Bundle.init0 "java/lang/Exception"), .declares (Bundle.init0 Bundle.tN)], w.before args s = true := by
    intro w hw
    simp only [List.mem_cons, List.not_mem_nil, or_false] at hw
    rcases hw with rfl | rfl | rfl | rfl
    · exact va_Nw.use rfl w1
    · exact va_Nw.use rfl w2
    · exact va_Nw.use rfl w3
    · exact va_Nw.use rfl w4
  have hB2 : ∀ w ∈ [Cond.castable X X, .declares (Bundle.init0 "java/lang/RuntimeException"), .declares (Bundle.init0 "java/lang/Exception"), .declares (Bundle.init0 Bundle.tN)], vx_ot w = true := by
    intro w hw
    simp only [List.mem_cons, List.not_mem_nil, or_false] at hw
    rcases hw with rfl | rfl | rfl | rfl <;> rfl
  have hG : ∀ w ∈ xT, vx_ot w = true := fun w hw => by
    have := (List.mem_filter.mp hw).2
    unfold vx_ot; rw [this, Bool.or_true]
  have hnm : s.methodNamed? M.1 = some m := C.2.2.2.2.2.2.2.1.2.resolve_left hnp
  have htab : ∀ x ∈ cd.exceptionTable.toList, False := by
    obtain ⟨meth9, c9, h1, h2, -, -, -, -, h7, -⟩ := Cond.code_spec hnm (hts _ hMt.1)
    cases Option.some.inj (h1.symm.trans X9.method)
    cases Option.some.inj (h2.symm.trans X9.code)
    intro x hx
    rw [Array.isEmpty_iff.mp h7] at hx
    cases hx
  refine vx_throw0 (own := M.1.cls) (cls := X) (names := ["java/lang/RuntimeException", "java/lang/Exception"]) (ik := ik) (ic := ic) (rest := []) C.1 C.2.1 hThl C.2.2.2.2.1 hX (by decide +kernel) (hts _ hk) (hts _ hini) (fun w hw => ?_) (fun w hw => ?_) zq1 zq2 hS ?_ d0 d3 d4 d7 (fun x hx => (htab x hx).elim) ?_ ?_ ?_ ?_ C.2.2.2.2.2.2.1 (fun t hA hz hq => ?_) hS.2.2 hc.1 hc.2 T9 hT9 X9
  · rcases hat w hw with h1 | h1
    · exact hts w h1
    · exact hB w h1
  · rcases List.mem_cons.mp hw with rfl | hw
    · exact hG _ hk
    rcases List.mem_cons.mp hw with rfl | hw
    · exact hG _ hini
    rcases hat w hw with h1 | h1
    · exact hG w h1
    · exact hB2 w h1
  · exact hL.1.trans C.2.2.2.1.symm
  · show 2 + 3 < d; omega
  · show 0 + (13 * (2 + 1) + 42) ≤ 60 * d; omega
  · exact hc.1
  · exact hc.2
  · refine ⟨rfl, ⟨_, hp t.heap.size ?_, hP.more hz hq⟩, Nat.le_trans hS.1 hz, fun q h1 h2 => ?_⟩
    · rw [← show H.size = z from hP.1]; exact hz
    · rw [hq q (Nat.lt_of_lt_of_le h1 hS.1)]; exact hS.2.1 q h1 h2
/-- a call that throws X, caught by this method's own table -/
theorem xg_callVX {b ci : Nat} {nm : String} (hh : List (Nat × Nat × Nat × Nat)) (pre : List ExceptionTableEntry) (x : ExceptionTableEntry) (suf : List ExceptionTableEntry) (hpc : Nat) (hxp : x.handlerPc = hpc) (hnp : M.2.2.2.2 ≠ 99) (hcw : Cond.codeWith M.1 M.2.1 M.2.2.1 M.2.2.2.1 hh ∈ xT) (hsp : tableOf hh = pre ++ x :: suf)
    (hpass : ∀ z ∈ pre, covers z pc = false ∨ (z.catchType ≠ 0 ∧ ∃ nm : String, Cond.classLink M.1.cls z.catchType nm ∈ xT ∧ ∀ u : State, E.2.2.2.2 u → va_Nc X nm u)) (hcov : covers x pc = true) (h00 : x.catchType ≠ 0) (hlk : Cond.classLink M.1.cls x.catchType nm ∈ xT) (hcast : ∀ u : State, E.2.2.2.2 u → va_Nw (.castable X nm) u)
    (As rest : List Value) (hM : xMv M') (hci : ∃ (Tt : u_T) (N : Nat), vwCl[ci]? = some (M'.1.cls, Tt, N)) (hl : Cond.methodLink M.1.cls i M'.1 ∈ xT) (d0 : decode M.2.1 pc = .ok (.invokevirtual i, 3)) (hk : (T b).1 = ci + 1) (hci2 : ci ≤ 12)
    (hn : As.length = M'.2.2.2.2) (hst : st = As.reverse ++ .ref b :: rest) (hsum : (rest.map fun v => v.category).sum ≤ 8) (hd : k' + 1 ≤ d) (hc : c + mc' ≤ mc ∧ n + ms' ≤ ms) (ct : CtX E k' M' mc' ms' (.ref b :: As) (z, T, F, I, P, Y) X hx)
    (kk : ∀ (q9 : Nat) (h' : xH), hx h' → xG E M (xR d mc ms) X0 hpc L [.ref q9] h' (c + mc') (n + ms')) : xG E M (xR d mc ms) X0 pc L st (z, T, F, I, P, Y) c n := by
  subst hst; subst hxp
  intro p e s m args below meth cd C H locs ls hP hS hL T9 hT9 X9
  obtain ⟨hMt, hin, hsel⟩ := hM
  obtain ⟨Tt, N, hcl⟩ := hci
  have hts := C.2.2.2.2.2.1
  have hK : xKn E s := C.2.2.2.2.2.2.2.2
  have hnm : s.methodNamed? M.1 = some m := C.2.2.2.2.2.2.2.1.2.resolve_left hnp
  have htab : cd.exceptionTable.toList = tableOf hh := by
    obtain ⟨m9, meth9, c9, hn9, h1, h2, -, -, h6, -⟩ := Cond.codeWith_spec (hts _ hcw)
    cases Option.some.inj (hn9.symm.trans hnm)
    cases Option.some.inj (h1.symm.trans X9.method)
    cases Option.some.inj (h2.symm.trans X9.code)
    rw [← h6, table_eq]
  obtain ⟨h0, h1⟩ := hP.2 b (by show (T b).1 ≠ 0; rw [hk]; omega)
  rw [xcell_obj hk hci2] at h1
  have cb : CallB (xR d mc ms) s args M.1.cls i M'.1 M'.2.1 M'.2.2.1 M'.2.2.2.1 (xW M') (xR (d - 1) mc' ms') mc' ms' M'.2.2.2.2 :=
    callB_of _ hts (x_goodW hMt) rfl rfl rfl (hts _ hMt.2.1) (hts _ hl) hMt.2.2.1 ⟨by show d - 1 + 1 ≤ d; omega, by show 8 + (M'.2.2.1 + 11) + 60 * (d - 1) ≤ 60 * d; have := hMt.2.2.2.2; omega⟩
  have hr := vx_runV (e := e) (meth := meth) (below := below) (locs := locs) (C := M'.1.cls) (b := b) (As := As) (rest := rest) ⟨C.1, C.2.1, C.2.2.2.1, C.2.2.2.2.1, hts⟩ (ct (d - 1) (by omega)) ⟨cb, hts _ hin, hts _ hsel⟩
    ⟨xPc_blind, va_recv hK.1 (x_one h1) hcl (q0 := 0) rfl, fun U hU hW => ⟨rfl, by rw [hU]; exact hP, hK.at hS hU hW⟩⟩ (g := F0 m pc ls (As.reverse ++ .ref b :: rest)) rfl hn hL.1 rfl (lv_room hsum) d0 hc
  rcases hr T9 hT9 X9 with ⟨v, st₀, t, T', L', q0, X', hL', e1, e2, hf, stp⟩ | ⟨q9, st₀, t, T', L', E', ce, q0, X', hL', e1, e2, ⟨hE, ⟨h', hx', hP'⟩, hF⟩, hce, hcv, hcl9, stp⟩
  · exact hf.elim
  · subst hE
    obtain ⟨k1, k2, k3⟩ := vx_keep q0 e1 hS (fun _ _ q => q) (fun _ q => q) hL' hF
    have kx := vx_catch (p := p) (l := E.1) (e := e) (R := xR d mc ms) (s := s) (m := m) (args := args) (below := below) (meth := meth) (c := cd) (H := T'.heap) (locs := locs ++ L') (cells := c + mc') (slots := n + ms') (Q := X0 below args s) (pc := pc) (ls := ls) (rest := rest) (own := M.1.cls) (name := nm) (E := E') (ce := ce) (q := q9) C.2.2.2.2.1 pre x suf (htab.trans hsp)
      (fun z hz => (hpass z hz).imp id (fun q => ⟨q.1, q.2.imp (fun nm' q' => ⟨hts _ q'.1, q'.2 s hK.2.2.1⟩)⟩)) hcov h00 (hts _ hlk) (va_Nw.use rfl (hcast s hK.2.2.1)) (by rw [e1]; exact hce) hcv hcl9
      (kk q9 h' hx' p e s m args below meth cd C T'.heap (locs ++ L') ls (by rw [e1]; exact hP') k3 hL)
    obtain ⟨t2, a1, b1⟩ := kx T' rfl X'
    exact ⟨t2, stp.trans a1, b1⟩
/-! methods with a table of their own -/
def xWh (M : xM) (hh : List (Nat × Nat × Nat × Nat)) : List Cond := .codeWith M.1 M.2.1 M.2.2.1 M.2.2.2.1 hh :: xT
def CtH (E : xE) (k : Nat) (M : xM) (hh : List (Nat × Nat × Nat × Nat)) (mc ms : Nat) (As : List Value) (h : xH) (post : Option Value → xH → Prop) : Prop :=
  ∀ d : Nat, k ≤ d → Met E.1 M.1 (xWh M hh) (xR d mc ms) (xPc E As h) (xQc E post) mc ms (xA E)
/-- the words of a static method with a table -/
def xMh (M : xM) (hh : List (Nat × Nat × Nat × Nat)) : Prop := Cond.codeWith M.1 M.2.1 M.2.2.1 M.2.2.2.1 hh ∈ xT ∧ Cond.initialized M.1.cls ∈ xT ∧ (M.1.cls ≠ "java/lang/invoke/MethodHandle" ∧ M.1.cls ≠ "java/lang/invoke/VarHandle" ∧ (parseMethodDescriptor M.1.desc).map (fun d => d.parameters.length) = some M.2.2.2.2) ∧ plainName M.1.cls = true ∧ M.2.2.1 ≤ 40 ∧ Cond.static M.1 ∈ xT
theorem CtH.of {hh : List (Nat × Nat × Nat × Nat)} {post : Option Value → xH → Prop} (L : List (Option Value)) (hM : xMh M hh) (hc : As.all (fun v => decide (v.category = 1)) = true) (hlen : (lg_sl As).length ≤ M.2.2.1) (hL : xent As M.2.2.1 = L)
    (body : ∀ d, k ≤ d → xG E M (xR d mc ms) (xN E post mc ms) 0 L [] h 0 0) : CtH E k M hh mc ms As h post := by
  intro d hd
  subst hL
  refine va_MetW (cc := M.2.1) (maxL := M.2.2.1) (ret := M.2.2.2.1) (ws' := xT) hM.2.2.2.1 rfl ?_
  intro p e s m args below meth c s₁ B hml hv
  obtain ⟨rfl, hP, hK⟩ := hv
  have hts := atoms_spec (ws := xWh M hh) B.pre
  have hts2 : ∀ w ∈ xT, w.before As.toArray s = true := fun w hw => hts w (List.mem_cons_of_mem _ hw)
  have hown : s.vm.findClass M.1.cls = some m.cls := findClass_of_methodNamed B.named
  have hl := lv_entry As (n := M.2.2.1) hlen
  rw [lg_entry_eq]
  generalize (lg_sl As ++ List.replicate (M.2.2.1 - (lg_sl As).length) Slot.unset).toArray = ls at hl ⊢
  refine body d hd p e s m As.toArray below meth c ⟨B.exec, B.bytes, B.returns, hml, hown, hts2, B.notSynchronized, ⟨(name_of_methodNamed B.named B.method).1, Or.inr B.named⟩, hK⟩ s.heap [] ls hP va_S.rf (xhasL.pad (xhasL.entry (args := As) hl (fun i v hv => ?_)) _)
  have := xent_mem As 0 hc i v hv
  rwa [Nat.zero_add] at this
theorem xg_callSH {hh : List (Nat × Nat × Nat × Nat)} {post : Option Value → xH → Prop} (q : Nat) (As rest : List Value) (hM : xMh M' hh) (hl : Cond.methodLink M.1.cls i M'.1 ∈ xT) (d0 : decode M.2.1 pc = .ok (.invokestatic i, 3)) (hq : pc + 3 = q)
    (hn : As.length = M'.2.2.2.2) (hst : st = As.reverse ++ rest) (hsum : (rest.map fun v => v.category).sum ≤ 8) (hd : k' + 1 ≤ d) (hc : c + mc' ≤ mc ∧ n + ms' ≤ ms) (ct : CtH E k' M' hh mc' ms' As h post)
    (kk : ∀ v h', post v h' → xG E M (xR d mc ms) X0 q L (v.toList ++ rest) h' (c + mc') (n + ms')) : xG E M (xR d mc ms) X0 pc L st h c n := by
  subst hst
  intro p e s m args below meth cd C H locs ls hP hS hL
  obtain ⟨m1, m2, m3, m4, m5, m6⟩ := hM
  have hts := C.2.2.2.2.2.1
  have hK : xKn E s := C.2.2.2.2.2.2.2.2
  have hG : GoodIn xT (xWh M' hh) := by
    intro w hw
    rcases List.mem_cons.mp hw with rfl | hw
    · exact ⟨m1, good_of_word (List.mem_filter.mp m1).2⟩
    · exact xT_good w hw
  have cw : vx_CSW (xR d mc ms) s args M.1.cls i M'.1 M'.2.1 M'.2.2.1 M'.2.2.2.1 hh (xWh M' hh) (xR (d - 1) mc' ms') mc' ms' M'.2.2.2.2 :=
    ⟨⟨rfl, rfl, by show d - 1 + 1 ≤ d; omega, by show 8 + (M'.2.2.1 + 11) + 60 * (d - 1) ≤ 60 * d; omega, pay_in hts hG, List.mem_cons_self⟩, hts _ m1, hts _ m2, ⟨m3.1, m3.2.1⟩, fun sig h => by
      have h2 := m3.2.2
      rw [h] at h2
      exact (Option.some.inj h2).symm, hts _ hl, hts _ m6⟩
  refine x_back hq (vx_runSW (As := As) (rest := rest) ⟨C.1, C.2.1, C.2.2.2.1, C.2.2.2.2.1, hts⟩ (ct (d - 1) (by omega)) cw
    ⟨xPc_blind, fun U hU hW => ⟨rfl, by rw [hU]; exact hP, hK.at hS hU hW⟩⟩ rfl hn hL.1 rfl (lv_room hsum) d0 hc) hS
    fun v h' H1 locs1 hp hP1 hS1 => kk v h' hp p e s m args below meth cd C H1 locs1 ls hP1 hS1 hL
end XTH

