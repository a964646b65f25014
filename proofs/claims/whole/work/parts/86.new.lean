/-! new objects and new rows of numbers -/
section XNEW
variable {E : xE} {M : xM} {X : xX} {pc : Nat} {L : List (Option Value)} {st : List Value} {z : Nat} {T : Nat → Nat × Int} {F : Nat → Nat → Int} {I : Nat → Int → Int} {P : Nat → Nat → Option Nat} {Y : Nat → Int → Option Nat} {c n d0 mc ms : Nat}
theorem up0_at {α β : Type} (F : Nat → α → β) (a : Nat) (v : β) (j : α) : up0 F a v a j = v := if_pos rfl
theorem up0_na {α β : Type} (F : Nat → α → β) (a : Nat) (v : β) {b : Nat} (h : b ≠ a) : up0 F a v b = F b := by funext j; exact if_neg h
/-- every field of the class is an int or a reference -/
def xDf (ci N : Nat) (Tt : u_T) : Prop := ∀ k : Nat, k < N → ∃ (b : Bool) (ty : FieldType), (xfs ci)[k]? = some b ∧ parseFieldDescriptor (Tt k).2.2.1 = some ty ∧ defaultValue ty = if b = true then Value.null else Value.int 0
theorem xg_new {i ci N : Nat} {C0 : String} {Tt : u_T} (q : Nat) (hcl : xCls ci C0 Tt N) (hdf : xDf ci N Tt) (hl : Cond.classLink M.1.cls i C0 ∈ xT) (hw : Cond.instantiable C0 N ∈ xT ∧ Cond.initialized C0 ∈ xT) (d : decode M.2.1 pc = .ok (.new i, 3)) (hq : pc + 3 = q) (hc : c + 1 ≤ mc ∧ n + N ≤ ms)
    (kk : xG E M (xR d0 mc ms) X q L (.ref z :: st) (z + 1, upT T z (ci + 1) 0, up0 F z 0, I, up0 P z none, Y) (c + 1) (n + N)) : xG E M (xR d0 mc ms) X pc L st (z, T, F, I, P, Y) c n := by
  subst hq
  intro p e s m args below meth cd C H locs ls hP hS hL
  have hts := C.2.2.2.2.2.1
  have hKn : xKn E s := C.2.2.2.2.2.2.2.2
  obtain ⟨hc1, hin, ⟨ty0, hty0⟩, hnm, hlen, hci⟩ := hcl
  have hK := hKn.1.1 ci _ hc1
  have hz : H.size = z := hP.1
  have hb : E.2.2.2.1 ≤ z := by rw [← hz]; exact Nat.le_trans hKn.2.2.2 hS.1
  refine W.newcK C.1 C.2.1 C.2.2.2.2.1 (hts _ hl) (hts _ hw.1) (hts _ hw.2) rfl d hc.1 hc.2 hK.2.1 hz fun H1 kC hkC e1 z1 o1 => ?_
  refine kk p e s m args below meth cd C H1 locs ls (hP.push (by rw [z1, hz]) (fun x hx => o1 x (by rw [← hz]; exact hx)) rfl rfl hb ⟨by omega, by omega, by omega⟩ (fun _ => Or.inl (congrArg J (show up0 F z 0 z 4 = 0 by rw [up0_at]))) (fun b hb1 => ?_) ?_) ⟨Nat.le_trans hS.1 (by rw [z1, hz]; omega), fun x h1 h2 => (o1 x (by rw [← hz]; exact Nat.lt_of_lt_of_le h1 hS.1)).trans (hS.2.1 x h1 h2), hS.2.2⟩ hL
  · have hb2 : b ≠ z := hb1
    show xck E (upT T z (ci + 1) 0 b).1 (upT T z (ci + 1) 0 b).2 (up0 F z 0 b) (I b) (up0 P z none b) (Y b) = xck E (T b).1 (T b).2 (F b) (I b) (P b) (Y b)
    rw [upT_na _ _ _ _ hb2, up0_na _ _ _ hb2, up0_na _ _ _ hb2]
  · show va_at E.2.1 vwCl (z, xcell E (z + 1, upT T z (ci + 1) 0, up0 F z 0, I, up0 P z none, Y) z) H1
    rw [xcell_obj (show (upT T z (ci + 1) 0 z).1 = ci + 1 by rw [upT_at]) hci]
    refine ⟨_, hc1, (u_born ty0 hts hin hK hkC e1 hty0).to (fun j hj => ?_)⟩
    have hj2 : j < N := hj
    obtain ⟨b, ty, h1, h2, h3⟩ := hdf j hj2
    have h4 := xfl_get (fun k => J (up0 F z 0 z k)) (fun k => va_rf (up0 P z none z k)) (xfs ci) 0 j b h1
    show defaultValue (ty0 j) = (xfl (fun k => J (up0 F z 0 z k)) (fun k => va_rf (up0 P z none z k)) (xfs ci) 0).getD j .null
    rw [List.getD_eq_getElem?_getD, h4, Nat.zero_add, up0_at, up0_at]
    have h5 : ty0 j = ty := Option.some.inj ((hty0 j hj2).symm.trans h2)
    rw [h5, h3]
    cases b <;> rfl
theorem xg_oi {i : Nat} {a : Nat} (q : Nat) (hl : Cond.methodLink M.1.cls i Lib.objectInit ∈ xT) (d : decode M.2.1 pc = .ok (.invokespecial i, 3)) (hq : pc + 3 = q) (hsum : (st.map fun v => v.category).sum ≤ 8) (hd : 1 ≤ d0)
    (kk : xG E M (xR d0 mc ms) X q L st (z, T, F, I, P, Y) c n) : xG E M (xR d0 mc ms) X pc L (.ref a :: st) (z, T, F, I, P, Y) c n := by
  subst hq
  intro p e s m args below meth cd C H locs ls hP hS hL
  have hts := C.2.2.2.2.2.1
  refine W.objInit C.1 C.2.1 C.2.2.2.2.1 (hts _ hl) (hts _ k_obj.1) (hts _ k_obj.2) rfl (hL.1.trans C.2.2.2.1.symm) rfl d (by show 1 ≤ d0; omega) (by show 2 * 0 + _ + 12 ≤ 60 * d0; omega) (kk p e s m args below meth cd C H locs ls hP hS hL)
theorem x_newA {at0 : ArrayType} {k : Nat} {l : Int} (hac : Cond.arrayClass (newarray.typeOf at0) ∈ xT) (q : Nat) (d : decode M.2.1 pc = .ok (.newarray at0, 2)) (hq : pc + 2 = q) (hl : 0 ≤ l ∧ l < 2147483648) (hby : l.toNat * componentBytes (newarray.typeOf at0) ≤ 536870912) (hc : c + 1 ≤ mc ∧ n + l.toNat ≤ ms) (hk1 : 14 ≤ k) (hk : k < 17) (hty : (xtys E)[k - 14]? = some (E.2.2.1 (k - 14), newarray.typeOf at0))
    (hcell : arrV (E.2.2.1 (k - 14)) l.toNat (fun _ => defaultValue (newarray.typeOf at0)) = match xck E k l (fun _ => 0) (fun _ => 0) (fun _ => none) (fun _ => none) with | .inl a => vp_cell a.1 a.2 | .inr _ => arrV 0 0 (fun _ => .null))
    (hxc : ∃ a, xck E k l (F z) (fun _ => 0) (P z) (Y z) = .inl a ∧ xck E k l (fun _ => 0) (fun _ => 0) (fun _ => none) (fun _ => none) = .inl a)
    (hobj : ∀ C1, newarray.typeOf at0 ≠ .object C1)
    (kk : xG E M (xR d0 mc ms) X q L (.ref z :: st) (z + 1, upT T z k l, F, up0 I z 0, P, Y) (c + 1) (n + l.toNat)) : xG E M (xR d0 mc ms) X pc L (J l :: st) (z, T, F, I, P, Y) c n := by
  subst hq
  intro p e s m args below meth cd C H locs ls hP hS hL
  have hts := C.2.2.2.2.2.1
  have hKn : xKn E s := C.2.2.2.2.2.2.2.2
  have hz : H.size = z := hP.1
  have hb : E.2.2.2.1 ≤ z := by rw [← hz]; exact Nat.le_trans hKn.2.2.2 hS.1
  have n0 : ¬ (Int32.ofInt l) < 0 := by rw [show (0 : Int32) = Int32.ofInt 0 from rfl, x32lt ⟨⟨by omega, by omega⟩, by omega, by omega⟩]; omega
  refine va_newaK C.1 C.2.1 (hts _ hac) rfl d rfl n0 (xnat hl) hby hc.1 hc.2 hz fun H1 cA e1 z1 o1 hAr hNm => ?_
  have hra := (hKn.1.2 (k - 14) _ hty).2
  have hcA : cA = E.2.2.1 (k - 14) := by
    have h2 : s.vm.findClass ("[" ++ (newarray.typeOf at0).toString) = some (E.2.2.1 (k - 14)) := by
      revert hra
      show va_RA s (E.2.2.1 (k - 14)) (newarray.typeOf at0) → _
      generalize newarray.typeOf at0 = ty at hobj ⊢
      cases ty with
      | object C1 => exact (hobj C1 rfl).elim
      | _ => exact id
    exact Option.some.inj (hNm.symm.trans h2)
  subst hcA
  refine kk p e s m args below meth cd C H1 locs ls (hP.push (by rw [z1, hz]) (fun x hx => o1 x (by rw [← hz]; exact hx)) rfl rfl hb ⟨hl.1, hl.2, by omega⟩ (xBo.no (by show (upT T z k l z).1 ≠ 7; rw [upT_at]; show k ≠ 7; omega)) (fun b hb1 => ?_) ?_) ⟨Nat.le_trans hS.1 (by rw [z1, hz]; omega), fun x h1 h2 => (o1 x (by rw [← hz]; exact Nat.lt_of_lt_of_le h1 hS.1)).trans (hS.2.1 x h1 h2), hS.2.2⟩ hL
  · have hb2 : b ≠ z := hb1
    show xck E (upT T z k l b).1 (upT T z k l b).2 (F b) (up0 I z 0 b) (P b) (Y b) = xck E (T b).1 (T b).2 (F b) (I b) (P b) (Y b)
    rw [upT_na _ _ _ _ hb2, up0_na _ _ _ hb2]
  · obtain ⟨a, h1, h2⟩ := hxc
    rw [h2] at hcell
    have h3 : xcell E (z + 1, upT T z k l, F, up0 I z 0, P, Y) z = .inl a := by
      show xck E (upT T z k l z).1 (upT T z k l z).2 (F z) (up0 I z 0 z) (P z) (Y z) = _
      rw [upT_at, show up0 I z 0 z = (fun _ => 0) from funext fun j => up0_at I z 0 j]
      exact h1
    show va_at E.2.1 vwCl (z, xcell E (z + 1, upT T z k l, F, up0 I z 0, P, Y) z) H1
    rw [h3]
    show H1[z]? = some (vp_cell a.1 a.2)
    rw [e1]
    exact congrArg some hcell
theorem xg_nai {l : Int} (q : Nat) (d : decode M.2.1 pc = .ok (.newarray .int, 2)) (hq : pc + 2 = q) (hl : 0 ≤ l ∧ l ≤ 100000) (hc : c + 1 ≤ mc ∧ n + l.toNat ≤ ms)
    (kk : xG E M (xR d0 mc ms) X q L (.ref z :: st) (z + 1, upT T z 14 l, F, up0 I z 0, P, Y) (c + 1) (n + l.toNat)) : xG E M (xR d0 mc ms) X pc L (J l :: st) (z, T, F, I, P, Y) c n :=
  x_newA (at0 := .int) (k := 14) k_acint q d hq ⟨hl.1, by omega⟩ (by show l.toNat * 4 ≤ _; omega) hc (by omega) (by omega) rfl rfl ⟨_, rfl, rfl⟩ (fun _ h => by cases h) kk
theorem xg_nab {l : Int} (q : Nat) (d : decode M.2.1 pc = .ok (.newarray .byte, 2)) (hq : pc + 2 = q) (hl : 0 ≤ l ∧ l ≤ 100000) (hc : c + 1 ≤ mc ∧ n + l.toNat ≤ ms)
    (kk : xG E M (xR d0 mc ms) X q L (.ref z :: st) (z + 1, upT T z 15 l, F, up0 I z 0, P, Y) (c + 1) (n + l.toNat)) : xG E M (xR d0 mc ms) X pc L (J l :: st) (z, T, F, I, P, Y) c n :=
  x_newA (at0 := .byte) (k := 15) k_acbyte q d hq ⟨hl.1, by omega⟩ (by show l.toNat * 1 ≤ _; omega) hc (by omega) (by omega) rfl rfl ⟨_, rfl, rfl⟩ (fun _ h => by cases h) kk
theorem xg_nal {l : Int} (q : Nat) (d : decode M.2.1 pc = .ok (.newarray .long, 2)) (hq : pc + 2 = q) (hl : 0 ≤ l ∧ l ≤ 100000) (hc : c + 1 ≤ mc ∧ n + l.toNat ≤ ms)
    (kk : xG E M (xR d0 mc ms) X q L (.ref z :: st) (z + 1, upT T z 16 l, F, up0 I z 0, P, Y) (c + 1) (n + l.toNat)) : xG E M (xR d0 mc ms) X pc L (J l :: st) (z, T, F, I, P, Y) c n :=
  x_newA (at0 := .long) (k := 16) k_aclong q d hq ⟨hl.1, by omega⟩ (by show l.toNat * 8 ≤ _; omega) hc (by omega) (by omega) rfl rfl ⟨_, rfl, rfl⟩ (fun _ h => by cases h) kk
theorem xg_ana {i k : Nat} {C1 : String} {l : Int} (q : Nat) (hl : Cond.classLink M.1.cls i C1 ∈ xT) (ho : ∀ u : State, E.2.2.2.2 u → va_AO C1 u) (hk : 17 ≤ k ∧ k ≤ 18) (hty : (xtys E)[k - 14]? = some (E.2.2.1 (k - 14), .object C1)) (d : decode M.2.1 pc = .ok (.anewarray i, 3)) (hq : pc + 3 = q) (hb0 : 0 ≤ l ∧ l ≤ 100000) (hc : c + 1 ≤ mc ∧ n + l.toNat ≤ ms)
    (kk : xG E M (xR d0 mc ms) X q L (.ref z :: st) (z + 1, upT T z k l, F, I, P, up0 Y z none) (c + 1) (n + l.toNat)) : xG E M (xR d0 mc ms) X pc L (J l :: st) (z, T, F, I, P, Y) c n := by
  subst hq
  intro p e s m args below meth cd C H locs ls hP hS hL
  have hts := C.2.2.2.2.2.1
  have hKn : xKn E s := C.2.2.2.2.2.2.2.2
  have hz : H.size = z := hP.1
  have hb : E.2.2.2.1 ≤ z := by rw [← hz]; exact Nat.le_trans hKn.2.2.2 hS.1
  have n0 : ¬ (Int32.ofInt l) < 0 := by rw [show (0 : Int32) = Int32.ofInt 0 from rfl, x32lt ⟨⟨by omega, by omega⟩, by omega, by omega⟩]; omega
  have hN : (Int32.ofInt l).toNatClampNeg = l.toNat := xnat ⟨hb0.1, by omega⟩
  refine W.anew C.1 C.2.1 C.2.2.2.2.1 (hts _ hl) (va_AO.use (ho s hKn.2.2.1)) rfl d rfl n0 (by rw [hN]; omega) hc.1 (by rw [hN]; exact hc.2) fun cA kA comp f1 f2 f3 f4 => ?_
  rw [hN]
  generalize hH1 : H.push ({ cls := cA, slots := Array.replicate l.toNat .null, vm := .none } : Cell) = H1
  have z1 : H1.size = H.size + 1 := by rw [← hH1, Array.size_push]
  have e1 : H1[H.size]? = some (arrV cA l.toNat (fun _ => .null)) := by rw [← hH1, Array.getElem?_push_size, ← arrV_new]
  have o1 : ∀ q : Nat, q < H.size → H1[q]? = H[q]? := fun q hq => by rw [← hH1, Array.getElem?_push, if_neg (Nat.ne_of_lt hq)]
  have hra : va_RA s (E.2.2.1 (k - 14)) (.object C1) := (hKn.1.2 (k - 14) _ hty).2
  obtain ⟨_, _, _, _, _, h4⟩ := hra
  have hcA : cA = E.2.2.1 (k - 14) := Option.some.inj (f1.symm.trans h4)
  subst hcA
  rw [hz]
  refine kk p e s m args below meth cd C H1 locs ls (hP.push (by rw [z1, hz]) (fun x hx => o1 x hx) rfl rfl hb ⟨hb0.1, by omega, by omega⟩ (xBo.no (by show (upT T z k l z).1 ≠ 7; rw [upT_at]; show k ≠ 7; omega)) (fun b hb1 => ?_) ?_) ⟨Nat.le_trans hS.1 (by rw [z1, hz]; omega), fun x h1 h2 => (o1 x (Nat.lt_of_lt_of_le h1 hS.1)).trans (hS.2.1 x h1 h2), hS.2.2⟩ hL
  · have hb2 : b ≠ z := hb1
    show xck E (upT T z k l b).1 (upT T z k l b).2 (F b) (I b) (P b) (up0 Y z none b) = xck E (T b).1 (T b).2 (F b) (I b) (P b) (Y b)
    rw [upT_na _ _ _ _ hb2, up0_na _ _ _ hb2]
  · show va_at E.2.1 vwCl (z, xcell E (z + 1, upT T z k l, F, I, P, up0 Y z none) z) H1
    rw [xcell_ref (k := k) (show (upT T z k l z).1 = k by rw [upT_at]) hk.1]
    show H1[z]? = some (vp_cell _ _)
    rw [vp_cell_q, ← hz, e1, hz, upT_at]
    exact congrArg some (congrArg _ (funext fun j => by rw [up0_at]; rfl))
/-- old things that the constructors lean on -/
def xOld (u : State) : Prop := va_AO RX6 u ∧ va_AO RX8 u ∧ va_Nw (.methodLinkNest RX8 27 yX1_init "RunLedger") u ∧ va_Nw (.methodLinkNest RX8 41 yX10_init "RunLedger") u
theorem xg_callN0 {h : xH} {M' : xM} {b i k' mc' ms' : Nat} {rest As : List Value} {host : String} {post : Option Value → xH → Prop} (q : Nat) (hM : xMi M') (hl : ∀ u : State, E.2.2.2.2 u → va_Nw (.methodLinkNest M.1.cls i M'.1 host) u) (d1 : decode M.2.1 pc = .ok (.invokespecial i, 3)) (hq : pc + 3 = q)
    (hn : As.length = M'.2.2.2.2) (hst : st = As.reverse ++ .ref b :: rest) (hsum : (rest.map fun v => v.category).sum ≤ 8) (hd : k' + 1 ≤ d0) (hc : c + mc' ≤ mc ∧ n + ms' ≤ ms) (ct : Ct E k' M' mc' ms' (.ref b :: As) h post)
    (kk : ∀ v h', post v h' → xG E M (xR d0 mc ms) X q L (v.toList ++ rest) h' (c + mc') (n + ms')) : xG E M (xR d0 mc ms) X pc L st h c n := by
  subst hst
  intro p e s m args below meth cd C H locs ls hP hS hL
  obtain ⟨hMt, hin, hni, hret⟩ := hM
  have hts := C.2.2.2.2.2.1
  have hK : xKn E s := C.2.2.2.2.2.2.2.2
  have cb : va_CN (xR d0 mc ms) s args M.1.cls i M'.1 host M'.2.1 M'.2.2.1 none (xW M') (xR (d0 - 1) mc' ms') mc' ms' M'.2.2.2.2 :=
    va_cnB _ hts (x_goodW hMt) (by unfold xW; rw [hret]) rfl rfl (hl s hK.2.2.1) (hts _ hMt.2.1) hMt.2.2.1 ⟨by show d0 - 1 + 1 ≤ d0; omega, by show 8 + (M'.2.2.1 + 11) + 60 * (d0 - 1) ≤ 60 * d0; have := hMt.2.2.2.2; omega⟩
  refine x_back hq (va_runIN (b := b) (As := As) (rest := rest) ⟨C.1, C.2.1, C.2.2.2.1, C.2.2.2.2.1, hts⟩ (ct (d0 - 1) (by omega)) ⟨cb, hni, hts _ hin⟩
    ⟨xPc_blind, fun U hU hW => ⟨rfl, by rw [hU]; exact hP, hK.at hS hU hW⟩⟩ rfl hn hL.1 rfl (lv_room hsum) d1 hc) hS
    fun v h' H1 locs1 hp hP1 hS1 => kk v h' hp p e s m args below meth cd C H1 locs1 ls hP1 hS1 hL
/-! constructors with one answer -/
theorem xg_callI {h h2 : xH} {M' : xM} {b i k' mc' ms' : Nat} (q : Nat) (As rest : List Value) (hM : xMi M') (hl : Cond.methodLink M.1.cls i M'.1 ∈ xT) (d1 : decode M.2.1 pc = .ok (.invokespecial i, 3)) (hq : pc + 3 = q)
    (hn : As.length = M'.2.2.2.2) (hst : st = As.reverse ++ .ref b :: rest) (hsum : (rest.map fun v => v.category).sum ≤ 8) (hd : k' + 1 ≤ d0) (hc : c + mc' ≤ mc ∧ n + ms' ≤ ms) (ct : Ct E k' M' mc' ms' (.ref b :: As) h (xd none h2))
    (kk : xG E M (xR d0 mc ms) X q L rest h2 (c + mc') (n + ms')) : xG E M (xR d0 mc ms) X pc L st h c n :=
  xg_callI0 q hM hl d1 hq hn hst hsum hd hc ct (fun v h' e => by obtain ⟨rfl, rfl⟩ := e; exact kk)
theorem xg_callN {h h2 : xH} {M' : xM} {b i k' mc' ms' : Nat} {host : String} (q : Nat) (As rest : List Value) (hM : xMi M') (hl : ∀ u : State, E.2.2.2.2 u → va_Nw (.methodLinkNest M.1.cls i M'.1 host) u) (d1 : decode M.2.1 pc = .ok (.invokespecial i, 3)) (hq : pc + 3 = q)
    (hn : As.length = M'.2.2.2.2) (hst : st = As.reverse ++ .ref b :: rest) (hsum : (rest.map fun v => v.category).sum ≤ 8) (hd : k' + 1 ≤ d0) (hc : c + mc' ≤ mc ∧ n + ms' ≤ ms) (ct : Ct E k' M' mc' ms' (.ref b :: As) h (xd none h2))
    (kk : xG E M (xR d0 mc ms) X q L rest h2 (c + mc') (n + ms')) : xG E M (xR d0 mc ms) X pc L st h c n :=
  xg_callN0 q hM hl d1 hq hn hst hsum hd hc ct (fun v h' e => by obtain ⟨rfl, rfl⟩ := e; exact kk)
theorem kd_0 : xDf 0 6 TX0 := by
  intro k hk
  match k, hk with
  | 0, _ => exact ⟨_, _, rfl, tyX0_ok 0 (by decide), rfl⟩
  | 1, _ => exact ⟨_, _, rfl, tyX0_ok 1 (by decide), rfl⟩
  | 2, _ => exact ⟨_, _, rfl, tyX0_ok 2 (by decide), rfl⟩
  | 3, _ => exact ⟨_, _, rfl, tyX0_ok 3 (by decide), rfl⟩
  | 4, _ => exact ⟨_, _, rfl, tyX0_ok 4 (by decide), rfl⟩
  | 5, _ => exact ⟨_, _, rfl, tyX0_ok 5 (by decide), rfl⟩
theorem kd_1 : xDf 1 4 TX1 := by
  intro k hk
  match k, hk with
  | 0, _ => exact ⟨_, _, rfl, tyX1_ok 0 (by decide), rfl⟩
  | 1, _ => exact ⟨_, _, rfl, tyX1_ok 1 (by decide), rfl⟩
  | 2, _ => exact ⟨_, _, rfl, tyX1_ok 2 (by decide), rfl⟩
  | 3, _ => exact ⟨_, _, rfl, tyX1_ok 3 (by decide), rfl⟩
theorem kd_2 : xDf 2 6 TX2 := by
  intro k hk
  match k, hk with
  | 0, _ => exact ⟨_, _, rfl, tyX2_ok 0 (by decide), rfl⟩
  | 1, _ => exact ⟨_, _, rfl, tyX2_ok 1 (by decide), rfl⟩
  | 2, _ => exact ⟨_, _, rfl, tyX2_ok 2 (by decide), rfl⟩
  | 3, _ => exact ⟨_, _, rfl, tyX2_ok 3 (by decide), rfl⟩
  | 4, _ => exact ⟨_, _, rfl, tyX2_ok 4 (by decide), rfl⟩
  | 5, _ => exact ⟨_, _, rfl, tyX2_ok 5 (by decide), rfl⟩
theorem kd_3 : xDf 3 6 TX3 := by
  intro k hk
  match k, hk with
  | 0, _ => exact ⟨_, _, rfl, tyX3_ok 0 (by decide), rfl⟩
  | 1, _ => exact ⟨_, _, rfl, tyX3_ok 1 (by decide), rfl⟩
  | 2, _ => exact ⟨_, _, rfl, tyX3_ok 2 (by decide), rfl⟩
  | 3, _ => exact ⟨_, _, rfl, tyX3_ok 3 (by decide), rfl⟩
  | 4, _ => exact ⟨_, _, rfl, tyX3_ok 4 (by decide), rfl⟩
  | 5, _ => exact ⟨_, _, rfl, tyX3_ok 5 (by decide), rfl⟩
theorem kd_4 : xDf 4 7 TX4 := by
  intro k hk
  match k, hk with
  | 0, _ => exact ⟨_, _, rfl, tyX4_ok 0 (by decide), rfl⟩
  | 1, _ => exact ⟨_, _, rfl, tyX4_ok 1 (by decide), rfl⟩
  | 2, _ => exact ⟨_, _, rfl, tyX4_ok 2 (by decide), rfl⟩
  | 3, _ => exact ⟨_, _, rfl, tyX4_ok 3 (by decide), rfl⟩
  | 4, _ => exact ⟨_, _, rfl, tyX4_ok 4 (by decide), rfl⟩
  | 5, _ => exact ⟨_, _, rfl, tyX4_ok 5 (by decide), rfl⟩
  | 6, _ => exact ⟨_, _, rfl, tyX4_ok 6 (by decide), rfl⟩
theorem kd_5 : xDf 5 6 TX5 := by
  intro k hk
  match k, hk with
  | 0, _ => exact ⟨_, _, rfl, tyX5_ok 0 (by decide), rfl⟩
  | 1, _ => exact ⟨_, _, rfl, tyX5_ok 1 (by decide), rfl⟩
  | 2, _ => exact ⟨_, _, rfl, tyX5_ok 2 (by decide), rfl⟩
  | 3, _ => exact ⟨_, _, rfl, tyX5_ok 3 (by decide), rfl⟩
  | 4, _ => exact ⟨_, _, rfl, tyX5_ok 4 (by decide), rfl⟩
  | 5, _ => exact ⟨_, _, rfl, tyX5_ok 5 (by decide), rfl⟩
theorem kd_6 : xDf 6 5 TX6 := by
  intro k hk
  match k, hk with
  | 0, _ => exact ⟨_, _, rfl, tyX6_ok 0 (by decide), rfl⟩
  | 1, _ => exact ⟨_, _, rfl, tyX6_ok 1 (by decide), rfl⟩
  | 2, _ => exact ⟨_, _, rfl, tyX6_ok 2 (by decide), rfl⟩
  | 3, _ => exact ⟨_, _, rfl, tyX6_ok 3 (by decide), rfl⟩
  | 4, _ => exact ⟨_, _, rfl, tyX6_ok 4 (by decide), rfl⟩
theorem kd_7 : xDf 7 6 TX7 := by
  intro k hk
  match k, hk with
  | 0, _ => exact ⟨_, _, rfl, tyX7_ok 0 (by decide), rfl⟩
  | 1, _ => exact ⟨_, _, rfl, tyX7_ok 1 (by decide), rfl⟩
  | 2, _ => exact ⟨_, _, rfl, tyX7_ok 2 (by decide), rfl⟩
  | 3, _ => exact ⟨_, _, rfl, tyX7_ok 3 (by decide), rfl⟩
  | 4, _ => exact ⟨_, _, rfl, tyX7_ok 4 (by decide), rfl⟩
  | 5, _ => exact ⟨_, _, rfl, tyX7_ok 5 (by decide), rfl⟩
theorem kd_8 : xDf 8 17 TX8 := by
  intro k hk
  match k, hk with
  | 0, _ => exact ⟨_, _, rfl, tyX8_ok 0 (by decide), rfl⟩
  | 1, _ => exact ⟨_, _, rfl, tyX8_ok 1 (by decide), rfl⟩
  | 2, _ => exact ⟨_, _, rfl, tyX8_ok 2 (by decide), rfl⟩
  | 3, _ => exact ⟨_, _, rfl, tyX8_ok 3 (by decide), rfl⟩
  | 4, _ => exact ⟨_, _, rfl, tyX8_ok 4 (by decide), rfl⟩
  | 5, _ => exact ⟨_, _, rfl, tyX8_ok 5 (by decide), rfl⟩
  | 6, _ => exact ⟨_, _, rfl, tyX8_ok 6 (by decide), rfl⟩
  | 7, _ => exact ⟨_, _, rfl, tyX8_ok 7 (by decide), rfl⟩
  | 8, _ => exact ⟨_, _, rfl, tyX8_ok 8 (by decide), rfl⟩
  | 9, _ => exact ⟨_, _, rfl, tyX8_ok 9 (by decide), rfl⟩
  | 10, _ => exact ⟨_, _, rfl, tyX8_ok 10 (by decide), rfl⟩
  | 11, _ => exact ⟨_, _, rfl, tyX8_ok 11 (by decide), rfl⟩
  | 12, _ => exact ⟨_, _, rfl, tyX8_ok 12 (by decide), rfl⟩
  | 13, _ => exact ⟨_, _, rfl, tyX8_ok 13 (by decide), rfl⟩
  | 14, _ => exact ⟨_, _, rfl, tyX8_ok 14 (by decide), rfl⟩
  | 15, _ => exact ⟨_, _, rfl, tyX8_ok 15 (by decide), rfl⟩
  | 16, _ => exact ⟨_, _, rfl, tyX8_ok 16 (by decide), rfl⟩
  | k + 17, h9 => exact absurd h9 (by omega)
theorem kd_9 : xDf 9 5 TX9 := by
  intro k hk
  match k, hk with
  | 0, _ => exact ⟨_, _, rfl, tyX9_ok 0 (by decide), rfl⟩
  | 1, _ => exact ⟨_, _, rfl, tyX9_ok 1 (by decide), rfl⟩
  | 2, _ => exact ⟨_, _, rfl, tyX9_ok 2 (by decide), rfl⟩
  | 3, _ => exact ⟨_, _, rfl, tyX9_ok 3 (by decide), rfl⟩
  | 4, _ => exact ⟨_, _, rfl, tyX9_ok 4 (by decide), rfl⟩
theorem kd_10 : xDf 10 6 TX10 := by
  intro k hk
  match k, hk with
  | 0, _ => exact ⟨_, _, rfl, tyX10_ok 0 (by decide), rfl⟩
  | 1, _ => exact ⟨_, _, rfl, tyX10_ok 1 (by decide), rfl⟩
  | 2, _ => exact ⟨_, _, rfl, tyX10_ok 2 (by decide), rfl⟩
  | 3, _ => exact ⟨_, _, rfl, tyX10_ok 3 (by decide), rfl⟩
  | 4, _ => exact ⟨_, _, rfl, tyX10_ok 4 (by decide), rfl⟩
  | 5, _ => exact ⟨_, _, rfl, tyX10_ok 5 (by decide), rfl⟩
theorem kd_11 : xDf 11 13 TX11 := by
  intro k hk
  match k, hk with
  | 0, _ => exact ⟨_, _, rfl, tyX11_ok 0 (by decide), rfl⟩
  | 1, _ => exact ⟨_, _, rfl, tyX11_ok 1 (by decide), rfl⟩
  | 2, _ => exact ⟨_, _, rfl, tyX11_ok 2 (by decide), rfl⟩
  | 3, _ => exact ⟨_, _, rfl, tyX11_ok 3 (by decide), rfl⟩
  | 4, _ => exact ⟨_, _, rfl, tyX11_ok 4 (by decide), rfl⟩
  | 5, _ => exact ⟨_, _, rfl, tyX11_ok 5 (by decide), rfl⟩
  | 6, _ => exact ⟨_, _, rfl, tyX11_ok 6 (by decide), rfl⟩
  | 7, _ => exact ⟨_, _, rfl, tyX11_ok 7 (by decide), rfl⟩
  | 8, _ => exact ⟨_, _, rfl, tyX11_ok 8 (by decide), rfl⟩
  | 9, _ => exact ⟨_, _, rfl, tyX11_ok 9 (by decide), rfl⟩
  | 10, _ => exact ⟨_, _, rfl, tyX11_ok 10 (by decide), rfl⟩
  | 11, _ => exact ⟨_, _, rfl, tyX11_ok 11 (by decide), rfl⟩
  | 12, _ => exact ⟨_, _, rfl, tyX11_ok 12 (by decide), rfl⟩
theorem kd_12 : xDf 12 21 TX12 := by
  intro k hk
  match k, hk with
  | 0, _ => exact ⟨_, _, rfl, tyX12_ok 0 (by decide), rfl⟩
  | 1, _ => exact ⟨_, _, rfl, tyX12_ok 1 (by decide), rfl⟩
  | 2, _ => exact ⟨_, _, rfl, tyX12_ok 2 (by decide), rfl⟩
  | 3, _ => exact ⟨_, _, rfl, tyX12_ok 3 (by decide), rfl⟩
  | 4, _ => exact ⟨_, _, rfl, tyX12_ok 4 (by decide), rfl⟩
  | 5, _ => exact ⟨_, _, rfl, tyX12_ok 5 (by decide), rfl⟩
  | 6, _ => exact ⟨_, _, rfl, tyX12_ok 6 (by decide), rfl⟩
  | 7, _ => exact ⟨_, _, rfl, tyX12_ok 7 (by decide), rfl⟩
  | 8, _ => exact ⟨_, _, rfl, tyX12_ok 8 (by decide), rfl⟩
  | 9, _ => exact ⟨_, _, rfl, tyX12_ok 9 (by decide), rfl⟩
  | 10, _ => exact ⟨_, _, rfl, tyX12_ok 10 (by decide), rfl⟩
  | 11, _ => exact ⟨_, _, rfl, tyX12_ok 11 (by decide), rfl⟩
  | 12, _ => exact ⟨_, _, rfl, tyX12_ok 12 (by decide), rfl⟩
  | 13, _ => exact ⟨_, _, rfl, tyX12_ok 13 (by decide), rfl⟩
  | 14, _ => exact ⟨_, _, rfl, tyX12_ok 14 (by decide), rfl⟩
  | 15, _ => exact ⟨_, _, rfl, tyX12_ok 15 (by decide), rfl⟩
  | 16, _ => exact ⟨_, _, rfl, tyX12_ok 16 (by decide), rfl⟩
  | 17, _ => exact ⟨_, _, rfl, tyX12_ok 17 (by decide), rfl⟩
  | 18, _ => exact ⟨_, _, rfl, tyX12_ok 18 (by decide), rfl⟩
  | 19, _ => exact ⟨_, _, rfl, tyX12_ok 19 (by decide), rfl⟩
  | 20, _ => exact ⟨_, _, rfl, tyX12_ok 20 (by decide), rfl⟩
  | k + 21, h9 => exact absurd h9 (by omega)
end XNEW

