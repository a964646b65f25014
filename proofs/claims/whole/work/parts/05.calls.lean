def xR (d mc ms : Nat) : Room := { frames := d, cells := mc, slots := ms, locals := 60 * d }
def xW (M : xM) : List Cond := .code M.1 M.2.1 M.2.2.1 M.2.2.2.1 :: xT
def xQc (E : xE) (post : Option Value → xH → Prop) : Array Value → State → Outcome → State → Prop := fun _ st o t => (∃ (v : Option Value) (h' : xH), o = .returned v ∧ post v h' ∧ xHP E h' t.heap) ∧ va_F (xA E) st t
def xPc (E : xE) (As : List Value) (h : xH) : Array Value → State → Prop := va_Pc As (fun U => xHP E h U.heap ∧ xKn E U)
/-- the contract of the method M, called with As at the heap h: it needs k frames, makes at most mc cells of ms slots -/
def Ct (E : xE) (k : Nat) (M : xM) (mc ms : Nat) (As : List Value) (h : xH) (post : Option Value → xH → Prop) : Prop :=
  ∀ d : Nat, k ≤ d → Met E.1 M.1 (xW M) (xR d mc ms) (xPc E As h) (xQc E post) mc ms (xA E)
def xN (E : xE) (post : Option Value → xH → Prop) (mc ms : Nat) : xX := fun below args s => MQ below (xQc E post) args s mc ms (xA E)
/-- the answer r and the heap h2, nothing else -/
def xd (r : Option Value) (h2 : xH) : Option Value → xH → Prop := fun v h' => v = r ∧ h' = h2
def xMt (M : xM) : Prop := Cond.code M.1 M.2.1 M.2.2.1 M.2.2.2.1 ∈ xT ∧ Cond.initialized M.1.cls ∈ xT ∧ (M.1.cls ≠ "java/lang/invoke/MethodHandle" ∧ M.1.cls ≠ "java/lang/invoke/VarHandle" ∧ (parseMethodDescriptor M.1.desc).map (fun d => d.parameters.length) = some M.2.2.2.2) ∧ plainName M.1.cls = true ∧ M.2.2.1 ≤ 40
def xMv (M : xM) : Prop := xMt M ∧ Cond.instanceMethod M.1 ∈ xT ∧ Cond.selects M.1.cls M.1 M.1 ∈ xT
def xMs (M : xM) : Prop := xMt M ∧ Cond.static M.1 ∈ xT
def xMi (M : xM) : Prop := xMt M ∧ Cond.instanceMethod M.1 ∈ xT ∧ M.1.name = "<init>" ∧ M.2.2.2.1 = none
theorem xent_mem : ∀ (As : List Value) (k : Nat), As.all (fun v => decide (v.category = 1)) = true → ∀ (i : Nat) (v : Value), xat (As.map some) i = some v → (k + i, v) ∈ lv_args k As
  | [], _, _, _, _, h => by simp [xat] at h
  | a :: t, k, hc, 0, v, h => by
    simp only [List.map_cons, xat] at h
    cases h
    exact List.mem_cons_self
  | a :: t, k, hc, i + 1, v, h => by
    simp only [List.all_cons, Bool.and_eq_true, decide_eq_true_eq] at hc
    have h1 := xent_mem t (k + 1) hc.2 i v h
    rw [show k + 1 + i = k + (i + 1) by omega] at h1
    simp only [lv_args]
    rw [if_neg (by omega)]
    exact List.mem_cons_of_mem _ h1
theorem xat_rep : ∀ (k i : Nat) (v : Value), xat (List.replicate k none) i = some v → False
  | 0, i, v, h => by simp [xat] at h
  | k + 1, 0, v, h => by simp [List.replicate, xat] at h
  | k + 1, i + 1, v, h => xat_rep k i v (by simpa [List.replicate, xat] using h)
theorem xat_pad : ∀ (L : List (Option Value)) (k i : Nat) (v : Value), xat (L ++ List.replicate k none) i = some v → xat L i = some v
  | [], k, i, v, h => (xat_rep k i v h).elim
  | _ :: _, _, 0, _, h => h
  | _ :: t, k, i + 1, v, h => xat_pad t k i v h
theorem xhasL.pad {ls : Array Slot} {n : Nat} {L : List (Option Value)} (h : xhasL ls n L) (k : Nat) : xhasL ls n (L ++ List.replicate k none) := ⟨h.1, h.2.1, fun i v hv => h.2.2 i v (xat_pad L k i v hv)⟩
def xent (As : List Value) (n : Nat) : List (Option Value) := As.map some ++ List.replicate (n - As.length) none
theorem Ct.of {E : xE} {k : Nat} {M : xM} {mc ms : Nat} {As : List Value} {h : xH} {post : Option Value → xH → Prop} (L : List (Option Value)) (hM : xMt M) (hc : As.all (fun v => decide (v.category = 1)) = true) (hlen : (lg_sl As).length ≤ M.2.2.1) (hL : xent As M.2.2.1 = L)
    (body : ∀ d, k ≤ d → xG E M (xR d mc ms) (xN E post mc ms) 0 L [] h 0 0) : Ct E k M mc ms As h post := by
  intro d hd
  subst hL
  refine Met.ofW (cc := M.2.1) (maxL := M.2.2.1) (ret := M.2.2.2.1) (ws' := xT) hM.2.2.2.1 rfl ?_
  intro p e s m args below meth c s₁ B hml hv
  obtain ⟨rfl, hP, hK⟩ := hv
  have hts := atoms_spec (ws := xW M) B.pre
  have hts2 : ∀ w ∈ xT, w.before As.toArray s = true := fun w hw => hts w (List.mem_cons_of_mem _ hw)
  have hown : s.vm.findClass M.1.cls = some m.cls := findClass_of_methodNamed B.named
  have hl := lv_entry As (n := M.2.2.1) hlen
  rw [lg_entry_eq]
  generalize (lg_sl As ++ List.replicate (M.2.2.1 - (lg_sl As).length) Slot.unset).toArray = ls at hl ⊢
  refine body d hd p e s m As.toArray below meth c ⟨B.exec, B.bytes, B.returns, hml, hown, hts2, B.notSynchronized, ⟨(name_of_methodNamed B.named B.method).1, Or.inr B.named⟩, hK⟩ s.heap [] ls hP va_S.rf (xhasL.pad (xhasL.entry (args := As) hl (fun i v hv => ?_)) _)
  have := xent_mem As 0 hc i v hv
  rwa [Nat.zero_add] at this
theorem Ct.post {E : xE} {k : Nat} {M : xM} {mc ms : Nat} {As : List Value} {h : xH} {post post' : Option Value → xH → Prop} (hp : ∀ v h', post v h' → post' v h') (ct : Ct E k M mc ms As h post) : Ct E k M mc ms As h post' := by
  intro d hd p e ha hc hk s m args below hf hq1 hq2 hq3
  obtain ⟨t, o, h1, h2, h3, ⟨⟨⟨v, h', e1, e2, e3⟩, hF⟩, hL⟩⟩ := ct d hd p e ha hc hk s m args below hf hq1 hq2 hq3
  exact ⟨t, o, h1, h2, h3, ⟨⟨⟨v, h', e1, hp v h' e2, e3⟩, hF⟩, hL⟩⟩
theorem xPc_blind {E : xE} {As : List Value} {h : xH} : FrameBlind (xPc E As h) := by
  intro a U g mk q
  obtain ⟨q0, qP, qK⟩ := q
  exact ⟨q0, qP, xKn.moved (u := U) (U := U.calling g mk a) (State.WarmedH.refl U) (fun _ _ => rfl) (Nat.le_refl _) qK⟩
theorem xKn.at {E : xE} {s U : State} {H : Heap} {locs : List Loc} (h : xKn E s) (hS : va_S (xA E) s.heap H locs) (hU : U.heap = H) (hW : s.WarmedH U.vm) : xKn E U :=
  h.moved hW (fun q hq => by rw [hU]; exact hS.2.1 q (Nat.lt_of_lt_of_le hq h.2.2.2) (fun z => absurd hq (Nat.not_lt.mpr z))) (by rw [hU]; exact hS.1)
section XC
variable {E : xE} {M M' : xM} {X : xX} {pc : Nat} {L : List (Option Value)} {st rest : List Value} {h : xH} {c n d mc ms mc' ms' k' i : Nat} {As : List Value} {post : Option Value → xH → Prop}
theorem x_goodW (hM : xMt M) : GoodIn xT (xW M) := by
  intro w hw
  rcases List.mem_cons.mp hw with rfl | hw
  · exact ⟨hM.1, good_of_word (List.mem_filter.mp hM.1).2⟩
  · exact xT_good w hw
theorem x_back {p : Program} {l : Launch} {e : Env} {R : Room} {s : State} {m : MethodId} {args : Array Value} {below : List Frame} {meth : Method} {cd : Code} {H : Heap} {locs : List Loc} {Q : State → Prop} {ls : Array Slot} {pc q : Nat} {a : Array Value} (hq : pc + 3 = q)
    (hr : va_Run p l e R s m args below meth cd H locs c n mc' ms' (F0 m pc ls st) rest (xQc E post a) (xA E)) (hS : va_S (xA E) s.heap H locs)
    (kk : ∀ (v : Option Value) (h' : xH) (H1 : Heap) (locs1 : List Loc), post v h' → xHP E h' H1 → va_S (xA E) s.heap H1 locs1 → W p l e R s m args below meth cd H1 locs1 (c + mc') (n + ms') Q (F0 m q ls (v.toList ++ rest))) : W p l e R s m args below meth cd H locs c n Q (F0 m pc ls st) := by
  subst hq
  intro T hT Xs
  obtain ⟨v, st₀, t, T', L', h0, X', hL', e1, e2, ⟨⟨v', h', hv, hp, hP'⟩, hz, hk⟩, stp⟩ := hr T hT Xs
  cases hv
  rw [h0] at hz hk
  obtain ⟨t2, a1, b1⟩ := kk v h' T'.heap (locs ++ L') hp (by rw [e1]; exact hP')
    ⟨Nat.le_trans hS.1 (by rw [e1]; exact hz), fun q h1 h2 => by rw [e1, hk q (Nat.lt_of_lt_of_le h1 hS.1) h2]; exact hS.2.1 q h1 h2, fun q hq => by
      rcases List.mem_append.mp hq with h | h
      · exact hS.2.2 q h
      · exact hL' q h⟩ T' rfl X'
  exact ⟨t2, stp t2 a1, b1⟩
theorem xg_callV0 {z : Nat} {T : Nat → Nat × Int} {F : Nat → Nat → Int} {I : Nat → Int → Int} {P : Nat → Nat → Option Nat} {Y : Nat → Int → Option Nat} {b ci : Nat} (q : Nat) (hM : xMv M') (hci : ∃ (Tt : u_T) (N : Nat), vwCl[ci]? = some (M'.1.cls, Tt, N)) (hl : Cond.methodLink M.1.cls i M'.1 ∈ xT) (d0 : decode M.2.1 pc = .ok (.invokevirtual i, 3)) (hq : pc + 3 = q) (hk : (T b).1 = ci + 1) (hci2 : ci ≤ 12)
    (hn : As.length = M'.2.2.2.2) (hst : st = As.reverse ++ .ref b :: rest) (hsum : (rest.map fun v => v.category).sum ≤ 8) (hd : k' + 1 ≤ d) (hc : c + mc' ≤ mc ∧ n + ms' ≤ ms) (ct : Ct E k' M' mc' ms' (.ref b :: As) (z, T, F, I, P, Y) post)
    (kk : ∀ v h', post v h' → xG E M (xR d mc ms) X q L (v.toList ++ rest) h' (c + mc') (n + ms')) : xG E M (xR d mc ms) X pc L st (z, T, F, I, P, Y) c n := by
  subst hst
  intro p e s m args below meth cd C H locs ls hP hS hL
  obtain ⟨hMt, hin, hsel⟩ := hM
  obtain ⟨Tt, N, hcl⟩ := hci
  have hts := C.2.2.2.2.2.1
  have hK : xKn E s := C.2.2.2.2.2.2.2.2
  obtain ⟨h0, h1⟩ := hP.2 b (by show (T b).1 ≠ 0; rw [hk]; omega)
  rw [xcell_obj hk hci2] at h1
  have cb : CallB (xR d mc ms) s args M.1.cls i M'.1 M'.2.1 M'.2.2.1 M'.2.2.2.1 (xW M') (xR (d - 1) mc' ms') mc' ms' M'.2.2.2.2 :=
    callB_of _ hts (x_goodW hMt) rfl rfl rfl (hts _ hMt.2.1) (hts _ hl) hMt.2.2.1 ⟨by show d - 1 + 1 ≤ d; omega, by show 8 + (M'.2.2.1 + 11) + 60 * (d - 1) ≤ 60 * d; have := hMt.2.2.2.2; omega⟩
  refine x_back hq (va_runV (C := M'.1.cls) (b := b) (As := As) (rest := rest) ⟨C.1, C.2.1, C.2.2.2.1, C.2.2.2.2.1, hts⟩ (ct (d - 1) (by omega)) ⟨cb, hts _ hin, hts _ hsel⟩
    ⟨xPc_blind, va_recv hK.1 (x_one h1) hcl (q0 := 0) rfl, fun U hU hW => ⟨rfl, by rw [hU]; exact hP, hK.at hS hU hW⟩⟩ rfl hn hL.1 rfl (lv_room hsum) d0 hc) hS
    fun v h' H1 locs1 hp hP1 hS1 => kk v h' hp p e s m args below meth cd C H1 locs1 ls hP1 hS1 hL
theorem xg_callS0 (q : Nat) (hM : xMs M') (hl : Cond.methodLink M.1.cls i M'.1 ∈ xT) (d0 : decode M.2.1 pc = .ok (.invokestatic i, 3)) (hq : pc + 3 = q)
    (hn : As.length = M'.2.2.2.2) (hst : st = As.reverse ++ rest) (hsum : (rest.map fun v => v.category).sum ≤ 8) (hd : k' + 1 ≤ d) (hc : c + mc' ≤ mc ∧ n + ms' ≤ ms) (ct : Ct E k' M' mc' ms' As h post)
    (kk : ∀ v h', post v h' → xG E M (xR d mc ms) X q L (v.toList ++ rest) h' (c + mc') (n + ms')) : xG E M (xR d mc ms) X pc L st h c n := by
  subst hst
  intro p e s m args below meth cd C H locs ls hP hS hL
  obtain ⟨hMt, hsta⟩ := hM
  have hts := C.2.2.2.2.2.1
  have hK : xKn E s := C.2.2.2.2.2.2.2.2
  have cb : CallB (xR d mc ms) s args M.1.cls i M'.1 M'.2.1 M'.2.2.1 M'.2.2.2.1 (xW M') (xR (d - 1) mc' ms') mc' ms' M'.2.2.2.2 :=
    callB_of _ hts (x_goodW hMt) rfl rfl rfl (hts _ hMt.2.1) (hts _ hl) hMt.2.2.1 ⟨by show d - 1 + 1 ≤ d; omega, by show 8 + (M'.2.2.1 + 11) + 60 * (d - 1) ≤ 60 * d; have := hMt.2.2.2.2; omega⟩
  refine x_back hq (va_runS (As := As) (rest := rest) ⟨C.1, C.2.1, C.2.2.2.1, C.2.2.2.2.1, hts⟩ (ct (d - 1) (by omega)) ⟨cb, hts _ hsta⟩
    ⟨xPc_blind, fun U hU hW => ⟨rfl, by rw [hU]; exact hP, hK.at hS hU hW⟩⟩ rfl hn hL.1 rfl (lv_room hsum) d0 hc) hS
    fun v h' H1 locs1 hp hP1 hS1 => kk v h' hp p e s m args below meth cd C H1 locs1 ls hP1 hS1 hL
theorem xg_callI0 {b : Nat} (q : Nat) (hM : xMi M') (hl : Cond.methodLink M.1.cls i M'.1 ∈ xT) (d0 : decode M.2.1 pc = .ok (.invokespecial i, 3)) (hq : pc + 3 = q)
    (hn : As.length = M'.2.2.2.2) (hst : st = As.reverse ++ .ref b :: rest) (hsum : (rest.map fun v => v.category).sum ≤ 8) (hd : k' + 1 ≤ d) (hc : c + mc' ≤ mc ∧ n + ms' ≤ ms) (ct : Ct E k' M' mc' ms' (.ref b :: As) h post)
    (kk : ∀ v h', post v h' → xG E M (xR d mc ms) X q L (v.toList ++ rest) h' (c + mc') (n + ms')) : xG E M (xR d mc ms) X pc L st h c n := by
  subst hst
  intro p e s m args below meth cd C H locs ls hP hS hL
  obtain ⟨hMt, hin, hni, hret⟩ := hM
  have hts := C.2.2.2.2.2.1
  have hK : xKn E s := C.2.2.2.2.2.2.2.2
  have cb : CallB (xR d mc ms) s args M.1.cls i M'.1 M'.2.1 M'.2.2.1 none (xW M') (xR (d - 1) mc' ms') mc' ms' M'.2.2.2.2 :=
    callB_of _ hts (x_goodW hMt) (by unfold xW; rw [hret]) rfl rfl (hts _ hMt.2.1) (hts _ hl) hMt.2.2.1 ⟨by show d - 1 + 1 ≤ d; omega, by show 8 + (M'.2.2.1 + 11) + 60 * (d - 1) ≤ 60 * d; have := hMt.2.2.2.2; omega⟩
  refine x_back hq (va_runI (b := b) (As := As) (rest := rest) ⟨C.1, C.2.1, C.2.2.2.1, C.2.2.2.2.1, hts⟩ (ct (d - 1) (by omega)) ⟨cb, hni, hts _ hin⟩
    ⟨xPc_blind, fun U hU hW => ⟨rfl, by rw [hU]; exact hP, hK.at hS hU hW⟩⟩ rfl hn hL.1 rfl (lv_room hsum) d0 hc) hS
    fun v h' H1 locs1 hp hP1 hS1 => kk v h' hp p e s m args below meth cd C H1 locs1 ls hP1 hS1 hL
/-! calls that make nothing, with one answer -/
theorem xg_callV {z : Nat} {T : Nat → Nat × Int} {F : Nat → Nat → Int} {I : Nat → Int → Int} {P : Nat → Nat → Option Nat} {Y : Nat → Int → Option Nat} {b : Nat} {r : Option Value} {h2 : xH} {st' : List Value} (q : Nat) (ci : Nat) (As rest : List Value) (hM : xMv M') (hci : ∃ (Tt : u_T) (N : Nat), vwCl[ci]? = some (M'.1.cls, Tt, N)) (hl : Cond.methodLink M.1.cls i M'.1 ∈ xT) (d0 : decode M.2.1 pc = .ok (.invokevirtual i, 3)) (hq : pc + 3 = q) (hk : (T b).1 = ci + 1) (hci2 : ci ≤ 12)
    (hn : As.length = M'.2.2.2.2) (hst : st = As.reverse ++ .ref b :: rest) (hsum : (rest.map fun v => v.category).sum ≤ 8) (hd : k' + 1 ≤ d) (hc : c ≤ mc ∧ n ≤ ms) (ct : Ct E k' M' 0 0 (.ref b :: As) (z, T, F, I, P, Y) (xd r h2)) (hr : r.toList ++ rest = st')
    (kk : xG E M (xR d mc ms) X q L st' h2 c n) : xG E M (xR d mc ms) X pc L st (z, T, F, I, P, Y) c n :=
  xg_callV0 q hM hci hl d0 hq hk hci2 hn hst hsum hd (by simpa using hc) ct (fun v h' e => by obtain ⟨rfl, rfl⟩ := e; rw [hr]; exact kk)
theorem xg_callS {r : Option Value} {h2 : xH} {st' : List Value} (q : Nat) (As rest : List Value) (hM : xMs M') (hl : Cond.methodLink M.1.cls i M'.1 ∈ xT) (d0 : decode M.2.1 pc = .ok (.invokestatic i, 3)) (hq : pc + 3 = q)
    (hn : As.length = M'.2.2.2.2) (hst : st = As.reverse ++ rest) (hsum : (rest.map fun v => v.category).sum ≤ 8) (hd : k' + 1 ≤ d) (hc : c ≤ mc ∧ n ≤ ms) (ct : Ct E k' M' 0 0 As h (xd r h2)) (hr : r.toList ++ rest = st')
    (kk : xG E M (xR d mc ms) X q L st' h2 c n) : xG E M (xR d mc ms) X pc L st h c n :=
  xg_callS0 q hM hl d0 hq hn hst hsum hd (by simpa using hc) ct (fun v h' e => by obtain ⟨rfl, rfl⟩ := e; rw [hr]; exact kk)
/-! ends -/
theorem xg_ireturn {R : Room} {v : Int} (d : decode M.2.1 pc = .ok (.ireturn, 1)) (hr : M.2.2.2.1 = some .int) (hc : c ≤ mc ∧ n ≤ ms) (hp : post (some (J v)) h) : xG E M R (xN E post mc ms) pc L [J v] h c n := by
  intro p e s m args below meth cd C H locs ls hP hS hL
  have hlocks := C.2.2.2.2.2.2.1
  exact W.widen hc.1 hc.2 (W.iret C.1 C.2.1 (C.2.2.1.trans hr) (fun t ht hW => ⟨⟨_, h, rfl, hp, by rw [ht]; exact hP⟩, hS.F ht⟩) hS.2.2 d)
theorem xg_zreturn {R : Room} {v : Int} (d : decode M.2.1 pc = .ok (.ireturn, 1)) (hr : M.2.2.2.1 = some .boolean) (hv : v = 0 ∨ v = 1) (hc : c ≤ mc ∧ n ≤ ms) (hp : post (some (J v)) h) : xG E M R (xN E post mc ms) pc L [J v] h c n := by
  intro p e s m args below meth cd C H locs ls hP hS hL
  have hlocks := C.2.2.2.2.2.2.1
  exact W.widen hc.1 hc.2 (W.zret (v := Int32.ofInt v) C.1 C.2.1 (C.2.2.1.trans hr) (by rcases hv with rfl | rfl <;> rfl) (fun t ht hW => ⟨⟨_, h, rfl, hp, by rw [ht]; exact hP⟩, hS.F ht⟩) hS.2.2 d)
theorem xg_return {R : Room} (d : decode M.2.1 pc = .ok (.return_, 1)) (hr : M.2.2.2.1 = none) (hc : c ≤ mc ∧ n ≤ ms) (hp : post none h) : xG E M R (xN E post mc ms) pc L [] h c n := by
  intro p e s m args below meth cd C H locs ls hP hS hL
  have hlocks := C.2.2.2.2.2.2.1
  exact W.widen hc.1 hc.2 (W.vret C.1 C.2.1 (C.2.2.1.trans hr) (fun t ht hW => ⟨⟨_, h, rfl, hp, by rw [ht]; exact hP⟩, hS.F ht⟩) hS.2.2 d)
theorem xg_areturn {R : Room} {v : Option Nat} {w : Value} {C0 : String} (d : decode M.2.1 pc = .ok (.areturn, 1)) (hr : M.2.2.2.1 = some (.object C0)) (hw : w = va_rf v) (hc : c ≤ mc ∧ n ≤ ms) (hp : post (some w) h) : xG E M R (xN E post mc ms) pc L [w] h c n := by
  subst hw
  intro p e s m args below meth cd C H locs ls hP hS hL
  have hlocks := C.2.2.2.2.2.2.1
  exact W.widen hc.1 hc.2 (W.aret C.1 C.2.1 (C.2.2.1.trans hr) (Or.inl ⟨_, rfl⟩) (by cases v with | none => exact Or.inl rfl | some a => exact Or.inr ⟨a, rfl⟩) (fun t ht hW => ⟨⟨_, h, rfl, hp, by rw [ht]; exact hP⟩, hS.F ht⟩) hS.2.2 d)
theorem xg_ifn0 {R : Room} {o : Int} (q : Nat) (d : decode M.2.1 pc = .ok (.ifnull o, 3)) (hq : (pc : Int) + o = (q : Int)) (kk : xG E M R X q L st h c n) : xG E M R X pc L (.null :: st) h c n := by
  intro p e s m args below meth cd C H locs ls hP hS hL
  exact lv_ifnullN C.1 C.2.1 d hq (kk p e s m args below meth cd C H locs ls hP hS hL)
theorem xg_ifnn0 {R : Room} {o : Int} (q : Nat) (d : decode M.2.1 pc = .ok (.ifnonnull o, 3)) (hq : pc + 3 = q) (kk : xG E M R X q L st h c n) : xG E M R X pc L (.null :: st) h c n := by
  subst hq
  intro p e s m args below meth cd C H locs ls hP hS hL
  exact lv_ifnonnullN C.1 C.2.1 d (kk p e s m args below meth cd C H locs ls hP hS hL)
end XC
