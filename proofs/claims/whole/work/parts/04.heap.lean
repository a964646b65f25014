def xCls (ci : Nat) (C : String) (T : u_T) (N : Nat) : Prop := vwCl[ci]? = some (C, T, N) ∧ (∀ w ∈ u_ws C T N, w ∈ xT) ∧ (∃ ty0 : Nat → FieldType, ∀ k, k < N → parseFieldDescriptor (T k).2.2.1 = some (ty0 k)) ∧ (∀ a, a < N → ∀ b, b < N → a ≠ b → (T a).2.1 ≠ (T b).2.1) ∧ (xfs ci).length = N ∧ ci ≤ 12
/-- the place i of the pool of class own names the field k of the class ci; a reference or an int; its type; final -/
def xFd (own : String) (i ci k : Nat) (b : Bool) (ty : FieldType) (fin : Bool) : Prop := ∃ (C : String) (T : u_T) (N : Nat), xCls ci C T N ∧ k < N ∧ Cond.fieldLink own i (T k).1 (T k).2.1 (T k).2.2.1 ∈ xT ∧ (xfs ci)[k]? = some b ∧ parseFieldDescriptor (T k).2.2.1 = some ty ∧ (T k).2.2.2 = fin
theorem xcell_obj {E : xE} {z : Nat} {T : Nat → Nat × Int} {F : Nat → Nat → Int} {I : Nat → Int → Int} {P : Nat → Nat → Option Nat} {Y : Nat → Int → Option Nat} {a ci : Nat} (hk : (T a).1 = ci + 1) (hc : ci ≤ 12) :
    xcell E (z, T, F, I, P, Y) a = .inr (ci, xfl (fun j => J (F a j)) (fun j => va_rf (P a j)) (xfs ci) 0) := by
  show xck E (T a).1 _ _ _ _ _ = _
  unfold xck
  rw [hk, if_pos (by omega), Nat.add_sub_cancel]
theorem xcell_int {E : xE} {z : Nat} {T : Nat → Nat × Int} {F : Nat → Nat → Int} {I : Nat → Int → Int} {P : Nat → Nat → Option Nat} {Y : Nat → Int → Option Nat} {a k : Nat} (hk : (T a).1 = k) (hc : k = 14 ∨ k = 15) :
    xcell E (z, T, F, I, P, Y) a = .inl (E.2.2.1 (k - 14), (T a).2.toNat, .inl (fun j => Int32.ofInt (I a j))) := by
  show xck E (T a).1 _ _ _ _ _ = _
  unfold xck
  rw [hk, if_neg (by omega), if_pos (by omega)]
theorem xcell_lng {E : xE} {z : Nat} {T : Nat → Nat × Int} {F : Nat → Nat → Int} {I : Nat → Int → Int} {P : Nat → Nat → Option Nat} {Y : Nat → Int → Option Nat} {a : Nat} (hk : (T a).1 = 16) :
    xcell E (z, T, F, I, P, Y) a = .inl (E.2.2.1 2, (T a).2.toNat, .inr (.inl (fun j => Int64.ofInt (I a j)))) := by
  show xck E (T a).1 _ _ _ _ _ = _
  unfold xck
  rw [hk, if_neg (by omega), if_neg (by omega), if_pos rfl]
theorem xcell_ref {E : xE} {z : Nat} {T : Nat → Nat × Int} {F : Nat → Nat → Int} {I : Nat → Int → Int} {P : Nat → Nat → Option Nat} {Y : Nat → Int → Option Nat} {a k : Nat} (hk : (T a).1 = k) (hc : 17 ≤ k) :
    xcell E (z, T, F, I, P, Y) a = .inl (E.2.2.1 (k - 14), (T a).2.toNat, .inr (.inr (.inr (.inr (fun j => Y a j))))) := by
  show xck E (T a).1 _ _ _ _ _ = _
  unfold xck
  rw [hk, if_neg (by omega), if_neg (by omega), if_neg (by omega)]
theorem x_one {D : va_G} {cl : List vw_C} {a : Nat} {e : va_E} {H : Heap} (h : va_at D cl (a, e) H) : va_P D cl [(a, e)] H := by
  intro k q hk
  cases k with
  | zero => simp at hk; subst hk; exact h
  | succ k => simp at hk
theorem xin {z n : Int} (h : 0 ≤ z ∧ z < n) (hn : n < 2147483648) : vp_in (Int32.ofInt z) n.toNat := by
  intro q
  rcases q with q | q
  · rw [show (0 : Int32) = Int32.ofInt 0 from rfl, x32lt ⟨⟨by omega, by omega⟩, by omega, by omega⟩] at q
    omega
  · rw [xnat ⟨h.1, by omega⟩] at q
    omega
theorem xtoNat {z : Int} (h : 0 ≤ z) : ((z.toNat : Nat) : Int) = z := Int.toNat_of_nonneg h
section XH
variable {E : xE} {M : xM} {R : Room} {X : xX} {pc : Nat} {L : List (Option Value)} {st : List Value} {z : Nat} {T : Nat → Nat × Int} {F : Nat → Nat → Int} {I : Nat → Int → Int} {P : Nat → Nat → Option Nat} {Y : Nat → Int → Option Nat} {c n : Nat}
theorem xg_getV {i ci k a : Nat} {b fin : Bool} {ty : FieldType} (q : Nat) (hf : xFd M.1.cls i ci k b ty fin) (d : decode M.2.1 pc = .ok (.getfield i, 3)) (hq : pc + 3 = q) (hk : (T a).1 = ci + 1) (kk : xG E M R X q L ((if b = true then va_rf (P a k) else J (F a k)) :: st) (z, T, F, I, P, Y) c n) : xG E M R X pc L (.ref a :: st) (z, T, F, I, P, Y) c n := by
  subst hq
  intro p e s m args below meth cd C H locs ls hP hS hL
  obtain ⟨C0, T0, N0, hcl, hkN, hlink, hb, -, -⟩ := hf
  have h1 := (hP.2 a (by show (T a).1 ≠ 0; rw [hk]; omega)).2
  rw [xcell_obj hk hcl.2.2.2.2.2] at h1
  refine va_get (C := C0) (T := T0) (N := N0) (ci := ci) C.1 C.2.1 C.2.2.2.2.2.1 hcl.2.1 C.2.2.2.2.1 C.2.2.2.2.2.2.2.2.1 (x_one h1) 0 rfl hcl.1 k hkN (C.2.2.2.2.2.1 _ hlink) (fun _ h9 => h9) ?_ d (kk p e s m args below meth cd C H locs ls hP hS hL)
  rw [xfl_get _ _ _ 0 k b hb, Nat.zero_add]
theorem xg_getI {i ci k a : Nat} {fin : Bool} {ty : FieldType} (q : Nat) (hf : xFd M.1.cls i ci k false ty fin) (d : decode M.2.1 pc = .ok (.getfield i, 3)) (hq : pc + 3 = q) (hk : (T a).1 = ci + 1) (kk : xG E M R X q L (J (F a k) :: st) (z, T, F, I, P, Y) c n) : xG E M R X pc L (.ref a :: st) (z, T, F, I, P, Y) c n :=
  xg_getV q hf d hq hk kk
theorem xg_getP {i ci k a b : Nat} {fin : Bool} {ty : FieldType} (q : Nat) (hf : xFd M.1.cls i ci k true ty fin) (d : decode M.2.1 pc = .ok (.getfield i, 3)) (hq : pc + 3 = q) (hk : (T a).1 = ci + 1) (hv : P a k = some b) (kk : xG E M R X q L (.ref b :: st) (z, T, F, I, P, Y) c n) : xG E M R X pc L (.ref a :: st) (z, T, F, I, P, Y) c n :=
  xg_getV q hf d hq hk (by rw [if_pos rfl, hv]; exact kk)
theorem xg_get0 {i ci k a : Nat} {fin : Bool} {ty : FieldType} (q : Nat) (hf : xFd M.1.cls i ci k true ty fin) (d : decode M.2.1 pc = .ok (.getfield i, 3)) (hq : pc + 3 = q) (hk : (T a).1 = ci + 1) (hv : P a k = none) (kk : xG E M R X q L (.null :: st) (z, T, F, I, P, Y) c n) : xG E M R X pc L (.ref a :: st) (z, T, F, I, P, Y) c n :=
  xg_getV q hf d hq hk (by rw [if_pos rfl, hv]; exact kk)
theorem x_and1 {x : Int32} (h : x &&& 1 = x) : x = 0 ∨ x = 1 := by
  have h1 : x.toBitVec &&& 1#32 = x.toBitVec := congrArg Int32.toBitVec h
  rw [BitVec.and_one_eq_setWidth_ofBool_getLsbD] at h1
  cases hb : x.toBitVec.getLsbD 0 with
  | false => rw [hb] at h1; exact Or.inl (Int32.toBitVec_inj.mp (h1.symm.trans rfl))
  | true => rw [hb] at h1; exact Or.inr (Int32.toBitVec_inj.mp (h1.symm.trans rfl))
theorem x_put {i ci k a : Nat} {b fin : Bool} {ty : FieldType} {v : Value} {F' : Nat → Nat → Int} {P' : Nat → Nat → Option Nat} (q : Nat) (hf : xFd M.1.cls i ci k b ty fin) (hfin : fin = false ∨ (M.1.name = "<init>" ∧ ∀ C T N, xCls ci C T N → (T k).1 = M.1.cls)) (d : decode M.2.1 pc = .ok (.putfield i, 3)) (hq : pc + 3 = q) (hk : (T a).1 = ci + 1)
    (hn : narrow ty v = v) (hfit : fits ty v = true) (hv : v = if b = true then va_rf (P' a k) else J (F' a k)) (ho : ∀ x : Nat, x ≠ a → F' x = F x ∧ P' x = P x) (ho2 : ∀ j, j ≠ k → F' a j = F a j ∧ P' a j = P a j)
    (kk : xG E M R X q L st (z, T, F', I, P', Y) c n) : xG E M R X pc L (v :: .ref a :: st) (z, T, F, I, P, Y) c n := by
  subst hq
  intro p e s m args below meth cd C H locs ls hP hS hL
  obtain ⟨C0, T0, N0, hcl, hkN, hlink, hb, hty, hfn⟩ := hf
  obtain ⟨hc1, hin, ⟨ty0, hty0⟩, hnm, hlen, hci⟩ := hcl
  have hts := C.2.2.2.2.2.1
  have hown := C.2.2.2.2.1
  have hK : va_K E.2.1 vwCl (xtys E) s := C.2.2.2.2.2.2.2.2.1
  obtain ⟨h0, h1⟩ := hP.2 a (by show (T a).1 ≠ 0; rw [hk]; omega)
  rw [xcell_obj hk hci] at h1
  have hap := va_apart (own := M.1.cls) hts hin ty0 hty0 hnm hK hc1
  obtain ⟨r, g1, cell, q1, q2, q3, q4⟩ := h1
  have hr : r = (C0, T0, N0) := Option.some.inj (g1.symm.trans hc1)
  subst hr
  obtain ⟨hSl, hfc, kC, hkC, hkind⟩ := hK.1 ci _ hc1
  obtain ⟨cf, kf, fi, f, hi, hsl⟩ := hSl k hkN
  have hlay := hts _ (hin _ (u_in_lay hkN))
  have hst := (u_facts hfc hkC (u_lays hts hin hkN) hi).1
  have key : ∀ H' : Heap, H'[a]? = some (cell.setSlot f.slot v) → H'.size = H.size → (∀ q, q ≠ a → H'[q]? = H[q]?) → W p E.1 e R s m args below meth cd H' (locs ++ [⟨a, f.slot⟩]) c n (X below args s) (F0 m (pc + 3) ls st) := by
    intro H' e1 e2 e3
    refine kk p e s m args below meth cd C H' _ ls (hP.set a e2 e3 rfl rfl (fun h7 => ?_) (fun x hx => ?_) ?_) (hS.put e2 e3 h0.1) hL
    · have h7 : (T a).1 = 7 := h7
      have hci6 : ci = 6 := by omega
      show J (F' a 4) = J 0 ∨ J (F' a 4) = J 1
      by_cases h4 : k = 4
      · subst hci6 h4
        have e9 : (C0, T0, N0) = (RX6, TX6, 5) := Option.some.inj (hc1.symm.trans rfl)
        have hT9 : T0 = TX6 := congrArg (fun x => x.2.1) e9
        have ht9 : ty = .boolean := by subst hT9; exact Option.some.inj (hty.symm.trans rfl)
        have hb9 : b = false := Option.some.inj (hb.symm.trans rfl)
        subst ht9 hb9
        rw [if_neg (by decide)] at hv
        rw [hv] at hn
        rcases x_and1 (Value.int.inj hn) with q | q
        · exact Or.inl (congrArg Value.int q)
        · exact Or.inr (congrArg Value.int q)
      · rw [(ho2 4 (by omega)).1]; exact h0.2.2.2.2 h7
    · show xck E (T x).1 (T x).2 (F' x) (I x) (P' x) (Y x) = xck E (T x).1 (T x).2 (F x) (I x) (P x) (Y x)
      rw [(ho x hx).1, (ho x hx).2]
    · rw [xcell_obj hk hci]
      rw [hsl] at e1
      refine ⟨_, hc1, t_OB.to (V := updV (vp_V (xfl (fun j => J (F a j)) (fun j => va_rf (P a j)) (xfs ci) 0)) k v) ⟨_, e1, q2, q3, t_set q4 hap hkN v⟩ (fun j _ => ?_)⟩
      rw [vp_updV_set (by rw [xfl_len, hlen]; exact hkN), xfl_set (fun j => J (F a j)) (fun j => va_rf (P a j)) (xfs ci) 0 k b (fun j => J (F' a j)) (fun j => va_rf (P' a j)) hb (fun j hj => by
        have := ho2 j (by omega)
        show J (F' a j) = J (F a j) ∧ va_rf (P' a j) = va_rf (P a j)
        rw [this.1, this.2]; exact ⟨rfl, rfl⟩), Nat.zero_add, hv]
  by_cases hfi : fin = false
  · unfold u_lay at hlay
    rw [if_neg (by rw [hfn, hfi]; decide)] at hlay
    have h6 := u_store hfc hkC hkind hlay hi hty hn hfit
    exact W.putK C.1 C.2.1 (f := f) ⟨hown, hts _ hlink, ⟨_, _, _, hi⟩, hst⟩ (by rw [q2]; exact h6) q1 q3 (by rw [hsl]; exact k2_hasslot (q4 k hkN)) rfl rfl d key
  · have hft : fin = true := by cases fin <;> simp_all
    unfold u_lay at hlay
    rw [if_pos (by rw [hfn, hft])] at hlay
    obtain ⟨hin2, hdc⟩ := hfin.resolve_left hfi
    have hdecl : (T0 k).1 = M.1.cls := hdc C0 T0 N0 ⟨hc1, hin, ⟨ty0, hty0⟩, hnm, hlen, hci⟩
    have hcf : m.cls = cf := by
      obtain ⟨_, _, c', _, _, _, -, -, hf', -, -, -, hown2, -⟩ := Cond.laysFinal_spec hlay
      have e1 : c' = cf := by have := hi.symm.trans hf'; simp at this; exact this.1.symm
      rw [hdecl] at hown2
      rw [← e1]; exact Option.some.inj (hown.symm.trans hown2)
    have h6 := u_fits hfc hkC hkind (Or.inr hlay) hi hty hn hfit
    exact W.putFinK C.1 C.2.1 hown (hts _ hlink) hi hst hcf (C.2.2.2.2.2.2.2.1.1.trans hin2) (by rw [q2]; exact h6) q1 q3 (by rw [hsl]; exact k2_hasslot (q4 k hkN)) rfl rfl d key
theorem xg_putI {i ci k a : Nat} {w : Int} (q : Nat) (hf : xFd M.1.cls i ci k false .int false) (d : decode M.2.1 pc = .ok (.putfield i, 3)) (hq : pc + 3 = q) (hk : (T a).1 = ci + 1) (kk : xG E M R X q L st (z, T, upF F a k w, I, P, Y) c n) : xG E M R X pc L (J w :: .ref a :: st) (z, T, F, I, P, Y) c n :=
  x_put q hf (Or.inl rfl) d hq hk rfl rfl (by rw [upF_at]; rfl) (fun x hx => ⟨upF_na _ _ _ _ hx, rfl⟩) (fun j hj => ⟨upF_nk _ _ _ _ hj, rfl⟩) kk
theorem xg_putIF {i ci k a : Nat} {w : Int} (q : Nat) (hf : xFd M.1.cls i ci k false .int true) (hin : M.1.name = "<init>") (hdc : ∀ C T N, xCls ci C T N → (T k).1 = M.1.cls) (d : decode M.2.1 pc = .ok (.putfield i, 3)) (hq : pc + 3 = q) (hk : (T a).1 = ci + 1) (kk : xG E M R X q L st (z, T, upF F a k w, I, P, Y) c n) : xG E M R X pc L (J w :: .ref a :: st) (z, T, F, I, P, Y) c n :=
  x_put q hf (Or.inr ⟨hin, hdc⟩) d hq hk rfl rfl (by rw [upF_at]; rfl) (fun x hx => ⟨upF_na _ _ _ _ hx, rfl⟩) (fun j hj => ⟨upF_nk _ _ _ _ hj, rfl⟩) kk
theorem xg_putZ {i ci k a : Nat} {w : Int} (q : Nat) (hf : xFd M.1.cls i ci k false .boolean false) (d : decode M.2.1 pc = .ok (.putfield i, 3)) (hq : pc + 3 = q) (hk : (T a).1 = ci + 1) (hw : w = 0 ∨ w = 1) (kk : xG E M R X q L st (z, T, upF F a k w, I, P, Y) c n) : xG E M R X pc L (J w :: .ref a :: st) (z, T, F, I, P, Y) c n :=
  x_put q hf (Or.inl rfl) d hq hk (by rcases hw with rfl | rfl <;> rfl) (by rcases hw with rfl | rfl <;> rfl) (by rw [upF_at]; rfl) (fun x hx => ⟨upF_na _ _ _ _ hx, rfl⟩) (fun j hj => ⟨upF_nk _ _ _ _ hj, rfl⟩) kk
theorem xg_putZJ {i ci k a : Nat} {w : Int} (q : Nat) (hf : xFd M.1.cls i ci k false .boolean false) (d : decode M.2.1 pc = .ok (.putfield i, 3)) (hq : pc + 3 = q) (hk : (T a).1 = ci + 1) (hw : J w = J 0 ∨ J w = J 1) (kk : xG E M R X q L st (z, T, upF F a k w, I, P, Y) c n) : xG E M R X pc L (J w :: .ref a :: st) (z, T, F, I, P, Y) c n :=
  x_put q hf (Or.inl rfl) d hq hk (by rcases hw with e | e <;> rw [e] <;> rfl) (by rcases hw with e | e <;> rw [e] <;> rfl) (by rw [upF_at]; rfl) (fun x hx => ⟨upF_na _ _ _ _ hx, rfl⟩) (fun j hj => ⟨upF_nk _ _ _ _ hj, rfl⟩) kk
/-- a row's boolean is one -/
theorem xg_boo {b : Nat} (hk : (T b).1 = 7) (kk : (J (F b 4) = J 0 ∨ J (F b 4) = J 1) → xG E M R X pc L st (z, T, F, I, P, Y) c n) : xG E M R X pc L st (z, T, F, I, P, Y) c n := by
  intro p e s m args below meth cd C H locs ls hP hS hL
  exact kk ((hP.2 b (by show (T b).1 ≠ 0; rw [hk]; omega)).1.2.2.2.2 hk) p e s m args below meth cd C H locs ls hP hS hL
theorem x_fitO {C : String} {v : Option Nat} : narrow (.object C) (va_rf v) = va_rf v ∧ fits (.object C) (va_rf v) = true := by cases v <;> exact ⟨rfl, rfl⟩
theorem x_fitA {t : FieldType} {v : Option Nat} : narrow (.array t) (va_rf v) = va_rf v ∧ fits (.array t) (va_rf v) = true := by cases v <;> exact ⟨rfl, rfl⟩
theorem xg_putO {i ci k a : Nat} {v : Option Nat} {C : String} {w : Value} (q : Nat) (hf : xFd M.1.cls i ci k true (.object C) false) (d : decode M.2.1 pc = .ok (.putfield i, 3)) (hq : pc + 3 = q) (hk : (T a).1 = ci + 1) (hw : w = va_rf v) (kk : xG E M R X q L st (z, T, F, I, upP P a k v, Y) c n) : xG E M R X pc L (w :: .ref a :: st) (z, T, F, I, P, Y) c n := by
  subst hw
  exact x_put q hf (Or.inl rfl) d hq hk x_fitO.1 x_fitO.2 (by rw [upP_at]; rfl) (fun x hx => ⟨rfl, upP_na _ _ _ _ hx⟩) (fun j hj => ⟨rfl, upP_nk _ _ _ _ hj⟩) kk
theorem xg_putOF {i ci k a : Nat} {v : Option Nat} {C : String} {w : Value} (q : Nat) (hf : xFd M.1.cls i ci k true (.object C) true) (hin : M.1.name = "<init>") (hdc : ∀ C T N, xCls ci C T N → (T k).1 = M.1.cls) (d : decode M.2.1 pc = .ok (.putfield i, 3)) (hq : pc + 3 = q) (hk : (T a).1 = ci + 1) (hw : w = va_rf v) (kk : xG E M R X q L st (z, T, F, I, upP P a k v, Y) c n) : xG E M R X pc L (w :: .ref a :: st) (z, T, F, I, P, Y) c n := by
  subst hw
  exact x_put q hf (Or.inr ⟨hin, hdc⟩) d hq hk x_fitO.1 x_fitO.2 (by rw [upP_at]; rfl) (fun x hx => ⟨rfl, upP_na _ _ _ _ hx⟩) (fun j hj => ⟨rfl, upP_nk _ _ _ _ hj⟩) kk
theorem xg_putAF {i ci k a : Nat} {v : Option Nat} {t : FieldType} {w : Value} (q : Nat) (hf : xFd M.1.cls i ci k true (.array t) true) (hin : M.1.name = "<init>") (hdc : ∀ C T N, xCls ci C T N → (T k).1 = M.1.cls) (d : decode M.2.1 pc = .ok (.putfield i, 3)) (hq : pc + 3 = q) (hk : (T a).1 = ci + 1) (hw : w = va_rf v) (kk : xG E M R X q L st (z, T, F, I, upP P a k v, Y) c n) : xG E M R X pc L (w :: .ref a :: st) (z, T, F, I, P, Y) c n := by
  subst hw
  exact x_put q hf (Or.inr ⟨hin, hdc⟩) d hq hk x_fitA.1 x_fitA.2 (by rw [upP_at]; rfl) (fun x hx => ⟨rfl, upP_na _ _ _ _ hx⟩) (fun j hj => ⟨rfl, upP_nk _ _ _ _ hj⟩) kk

/-! arrays -/
theorem xty {E : xE} {k : Nat} (hk : k < 6) : (xtys E)[k]? = some (E.2.2.1 k, match k with | 0 => .int | 1 => .byte | 2 => .long | 3 => .object RX6 | 4 => .object RX8 | _ => .array .int) := by
  match k, hk with
  | 0, _ => rfl
  | 1, _ => rfl
  | 2, _ => rfl
  | 3, _ => rfl
  | 4, _ => rfl
  | 5, _ => rfl
theorem xg_iald {a : Nat} {i : Int} (q : Nat) (d : decode M.2.1 pc = .ok (.iaload, 1)) (hq : pc + 1 = q) (hk : (T a).1 = 14) (hi : 0 ≤ i ∧ i < (T a).2) (kk : xG E M R X q L (J (I a i) :: st) (z, T, F, I, P, Y) c n) : xG E M R X pc L (J i :: .ref a :: st) (z, T, F, I, P, Y) c n := by
  subst hq
  intro p e s m args below meth cd C H locs ls hP hS hL
  obtain ⟨h0, h1⟩ := hP.2 a (by show (T a).1 ≠ 0; rw [hk]; omega)
  rw [xcell_int hk (Or.inl rfl)] at h1
  have h2 : i < 2147483648 := Int.lt_trans hi.2 h0.2.2.1
  have k2 := kk p e s m args below meth cd C H locs ls hP hS hL
  refine va_iald C.1 C.2.1 C.2.2.2.2.2.2.2.2.1 (x_one h1) 0 0 rfl (xty (by omega)) (xin hi h0.2.2.1) d ?_
  rw [xnat ⟨hi.1, h2⟩, xtoNat hi.1]
  exact k2
theorem xg_bald {a : Nat} {i : Int} (q : Nat) (d : decode M.2.1 pc = .ok (.baload, 1)) (hq : pc + 1 = q) (hk : (T a).1 = 15) (hi : 0 ≤ i ∧ i < (T a).2) (kk : xG E M R X q L (J (I a i) :: st) (z, T, F, I, P, Y) c n) : xG E M R X pc L (J i :: .ref a :: st) (z, T, F, I, P, Y) c n := by
  subst hq
  intro p e s m args below meth cd C H locs ls hP hS hL
  obtain ⟨h0, h1⟩ := hP.2 a (by show (T a).1 ≠ 0; rw [hk]; omega)
  rw [xcell_int hk (Or.inr rfl)] at h1
  have h2 : i < 2147483648 := Int.lt_trans hi.2 h0.2.2.1
  have k2 := kk p e s m args below meth cd C H locs ls hP hS hL
  refine va_bald C.1 C.2.1 C.2.2.2.2.2.2.2.2.1 (x_one h1) 0 1 rfl (xty (by omega)) (xin hi h0.2.2.1) d ?_
  rw [xnat ⟨hi.1, h2⟩, xtoNat hi.1]
  exact k2
theorem xg_lald {a : Nat} {i : Int} (q : Nat) (d : decode M.2.1 pc = .ok (.laload, 1)) (hq : pc + 1 = q) (hk : (T a).1 = 16) (hi : 0 ≤ i ∧ i < (T a).2) (kk : xG E M R X q L (JL (I a i) :: st) (z, T, F, I, P, Y) c n) : xG E M R X pc L (J i :: .ref a :: st) (z, T, F, I, P, Y) c n := by
  subst hq
  intro p e s m args below meth cd C H locs ls hP hS hL
  obtain ⟨h0, h1⟩ := hP.2 a (by show (T a).1 ≠ 0; rw [hk]; omega)
  rw [xcell_lng hk] at h1
  have h2 : i < 2147483648 := Int.lt_trans hi.2 h0.2.2.1
  have k2 := kk p e s m args below meth cd C H locs ls hP hS hL
  refine va_lald C.1 C.2.1 C.2.2.2.2.2.2.2.2.1 (x_one h1) 0 2 rfl (xty (by omega)) (xin hi h0.2.2.1) d ?_
  rw [xnat ⟨hi.1, h2⟩, xtoNat hi.1]
  exact k2
theorem x_ald {a k : Nat} {C0 : String} {i : Int} {v : Option Nat} (q : Nat) (d : decode M.2.1 pc = .ok (.aaload, 1)) (hq : pc + 1 = q) (hk : (T a).1 = k) (hk2 : 17 ≤ k ∧ k < 20) (hC : (xtys E)[k - 14]? = some (E.2.2.1 (k - 14), .object C0)) (hi : 0 ≤ i ∧ i < (T a).2) (hv : Y a i = v) (kk : xG E M R X q L (va_rf v :: st) (z, T, F, I, P, Y) c n) : xG E M R X pc L (J i :: .ref a :: st) (z, T, F, I, P, Y) c n := by
  subst hq
  subst hv
  intro p e s m args below meth cd C H locs ls hP hS hL
  obtain ⟨h0, h1⟩ := hP.2 a (by show (T a).1 ≠ 0; rw [hk]; omega)
  rw [xcell_ref hk hk2.1] at h1
  have h2 : i < 2147483648 := Int.lt_trans hi.2 h0.2.2.1
  have k2 := kk p e s m args below meth cd C H locs ls hP hS hL
  refine va_aldq C.1 C.2.1 C.2.2.2.2.2.2.2.2.1 (x_one h1) 0 (k - 14) rfl hC (xin hi h0.2.2.1) d ?_
  rw [xnat ⟨hi.1, h2⟩, xtoNat hi.1]
  exact k2
theorem xg_rald {a b : Nat} {i : Int} (q : Nat) (d : decode M.2.1 pc = .ok (.aaload, 1)) (hq : pc + 1 = q) (hk : (T a).1 = 17) (hi : 0 ≤ i ∧ i < (T a).2) (hv : Y a i = some b) (kk : xG E M R X q L (.ref b :: st) (z, T, F, I, P, Y) c n) : xG E M R X pc L (J i :: .ref a :: st) (z, T, F, I, P, Y) c n :=
  x_ald q d hq hk (by omega) rfl hi hv kk
theorem xg_sald {a : Nat} {b : Option Nat} {i : Int} {v : Value} (q : Nat) (d : decode M.2.1 pc = .ok (.aaload, 1)) (hq : pc + 1 = q) (hk : (T a).1 = 18) (hi : 0 ≤ i ∧ i < (T a).2) (hv : Y a i = b) (hb : va_rf b = v) (kk : xG E M R X q L (v :: st) (z, T, F, I, P, Y) c n) : xG E M R X pc L (J i :: .ref a :: st) (z, T, F, I, P, Y) c n :=
  x_ald q d hq hk (by omega) rfl hi hv (by rw [hb]; exact kk)
theorem xg_aald {a b : Nat} {i : Int} (q : Nat) (d : decode M.2.1 pc = .ok (.aaload, 1)) (hq : pc + 1 = q) (hk : (T a).1 = 19) (hi : 0 ≤ i ∧ i < (T a).2) (hv : Y a i = some b) (kk : xG E M R X q L (.ref b :: st) (z, T, F, I, P, Y) c n) : xG E M R X pc L (J i :: .ref a :: st) (z, T, F, I, P, Y) c n := by
  subst hq
  intro p e s m args below meth cd C H locs ls hP hS hL
  obtain ⟨h0, h1⟩ := hP.2 a (by show (T a).1 ≠ 0; rw [hk]; omega)
  rw [xcell_ref hk (by omega)] at h1
  have h2 : i < 2147483648 := Int.lt_trans hi.2 h0.2.2.1
  have k2 := kk p e s m args below meth cd C H locs ls hP hS hL
  have h3 := xin hi h0.2.2.1
  have hlt : (Int32.ofInt i).toNatClampNeg < (T a).2.toNat := Nat.not_le.mp fun q => h3 (Or.inr q)
  have hK : va_K E.2.1 vwCl (xtys E) s := C.2.2.2.2.2.2.2.2.1
  have hA := (hK.2 5 _ (xty (E := E) (by omega))).1 (T a).2.toNat (fun j => va_rf (Y a j))
  refine W.aald (v := .ref b) (ty := .array .int) C.1 C.2.1 h1 hA rfl (fun q => by cases q) (by show ¬ (_ ∨ (arrV _ _ _).slots.size ≤ _); rw [arrV_size]; exact h3) (by show (arrV _ _ _).slots[_]? = _; rw [arrV_read _ _ hlt, xnat ⟨hi.1, h2⟩]; show some (va_rf (Y a ((i.toNat : Nat) : Int))) = _; rw [xtoNat hi.1, hv]; rfl) rfl rfl d k2
theorem xg_iast {a : Nat} {i w : Int} (q : Nat) (d : decode M.2.1 pc = .ok (.iastore, 1)) (hq : pc + 1 = q) (hk : (T a).1 = 14) (hi : 0 ≤ i ∧ i < (T a).2) (kk : xG E M R X q L st (z, T, F, upI I a i w, P, Y) c n) : xG E M R X pc L (J w :: J i :: .ref a :: st) (z, T, F, I, P, Y) c n := by
  subst hq
  intro p e s m args below meth cd C H locs ls hP hS hL
  obtain ⟨h0, h1⟩ := hP.2 a (by show (T a).1 ≠ 0; rw [hk]; omega)
  rw [xcell_int hk (Or.inl rfl)] at h1
  have h2 : i < 2147483648 := Int.lt_trans hi.2 h0.2.2.1
  have hK : va_K E.2.1 vwCl (xtys E) s := C.2.2.2.2.2.2.2.2.1
  have h3 := xin hi h0.2.2.1
  refine W.iast C.1 C.2.1 h1 ((hK.2 0 _ (xty (E := E) (by omega))).1 (T a).2.toNat (fun j => .int (Int32.ofInt (I a j)))) (fun q => by cases q) (by show ¬ (_ ∨ (arrV _ _ _).slots.size ≤ _); rw [arrV_size]; exact h3) rfl rfl d fun H1 e1 z1 o1 => ?_
  refine kk p e s m args below meth cd C H1 _ ls (hP.set a z1 o1 rfl rfl (xBo.no (by show (T a).1 ≠ 7; rw [hk]; omega)) (fun x hx => ?_) ?_) (hS.put z1 o1 h0.1) hL
  · show xck E (T x).1 (T x).2 (F x) (upI I a i w x) (P x) (Y x) = xck E (T x).1 (T x).2 (F x) (I x) (P x) (Y x)
    rw [upI_na _ _ _ _ hx]
  · rw [xcell_int hk (Or.inl rfl)]
    show H1[a]? = some (vp_cell _ _)
    rw [e1]
    rw [vp_cell_i, vp_cell_i, arrV_store]
    congr 2
    funext y
    rw [xnat ⟨hi.1, h2⟩]
    by_cases hy : y = i.toNat
    · subst hy
      simp [updV, xtoNat hi.1, upI_at]
    · have : (y : Int) ≠ i := by omega
      simp [updV, hy, upI_nk _ _ _ _ this]
theorem xg_last {a : Nat} {i w : Int} (q : Nat) (d : decode M.2.1 pc = .ok (.lastore, 1)) (hq : pc + 1 = q) (hk : (T a).1 = 16) (hi : 0 ≤ i ∧ i < (T a).2) (kk : xG E M R X q L st (z, T, F, upI I a i w, P, Y) c n) : xG E M R X pc L (JL w :: J i :: .ref a :: st) (z, T, F, I, P, Y) c n := by
  subst hq
  intro p e s m args below meth cd C H locs ls hP hS hL
  obtain ⟨h0, h1⟩ := hP.2 a (by show (T a).1 ≠ 0; rw [hk]; omega)
  rw [xcell_lng hk] at h1
  have h2 : i < 2147483648 := Int.lt_trans hi.2 h0.2.2.1
  have hK : va_K E.2.1 vwCl (xtys E) s := C.2.2.2.2.2.2.2.2.1
  have h3 := xin hi h0.2.2.1
  refine W.last C.1 C.2.1 h1 ((hK.2 2 _ (xty (E := E) (by omega))).1 (T a).2.toNat (fun j => .long (Int64.ofInt (I a j)))) (fun q => by cases q) (by show ¬ (_ ∨ (arrV _ _ _).slots.size ≤ _); rw [arrV_size]; exact h3) rfl rfl d fun H1 e1 z1 o1 => ?_
  refine kk p e s m args below meth cd C H1 _ ls (hP.set a z1 o1 rfl rfl (xBo.no (by show (T a).1 ≠ 7; rw [hk]; omega)) (fun x hx => ?_) ?_) (hS.put z1 o1 h0.1) hL
  · show xck E (T x).1 (T x).2 (F x) (upI I a i w x) (P x) (Y x) = xck E (T x).1 (T x).2 (F x) (I x) (P x) (Y x)
    rw [upI_na _ _ _ _ hx]
  · rw [xcell_lng hk]
    show H1[a]? = some (vp_cell _ _)
    rw [e1]
    rw [vp_cell_l, vp_cell_l, arrV_store]
    congr 2
    funext y
    rw [xnat ⟨hi.1, h2⟩]
    by_cases hy : y = i.toNat
    · subst hy
      simp [updV, xtoNat hi.1, upI_at]
    · have : (y : Int) ≠ i := by omega
      simp [updV, hy, upI_nk _ _ _ _ this]
theorem xg_bast {a : Nat} {i w : Int} (q : Nat) (d : decode M.2.1 pc = .ok (.bastore, 1)) (hq : pc + 1 = q) (hk : (T a).1 = 15) (hi : 0 ≤ i ∧ i < (T a).2) (hw : narrow .byte (J w) = J w) (kk : xG E M R X q L st (z, T, F, upI I a i w, P, Y) c n) : xG E M R X pc L (J w :: J i :: .ref a :: st) (z, T, F, I, P, Y) c n := by
  subst hq
  intro p e s m args below meth cd C H locs ls hP hS hL
  obtain ⟨h0, h1⟩ := hP.2 a (by show (T a).1 ≠ 0; rw [hk]; omega)
  rw [xcell_int hk (Or.inr rfl)] at h1
  have h2 : i < 2147483648 := Int.lt_trans hi.2 h0.2.2.1
  have hK : va_K E.2.1 vwCl (xtys E) s := C.2.2.2.2.2.2.2.2.1
  have h3 := xin hi h0.2.2.1
  refine W.bast C.1 C.2.1 h1 ((hK.2 1 _ (xty (E := E) (by omega))).1 (T a).2.toNat (fun j => .int (Int32.ofInt (I a j)))) (fun q => by cases q) (by show ¬ (_ ∨ (arrV _ _ _).slots.size ≤ _); rw [arrV_size]; exact h3) rfl rfl d fun H1 e1 z1 o1 => ?_
  refine kk p e s m args below meth cd C H1 _ ls (hP.set a z1 o1 rfl rfl (xBo.no (by show (T a).1 ≠ 7; rw [hk]; omega)) (fun x hx => ?_) ?_) (hS.put z1 o1 h0.1) hL
  · show xck E (T x).1 (T x).2 (F x) (upI I a i w x) (P x) (Y x) = xck E (T x).1 (T x).2 (F x) (I x) (P x) (Y x)
    rw [upI_na _ _ _ _ hx]
  · rw [xcell_int hk (Or.inr rfl)]
    show H1[a]? = some (vp_cell _ _)
    rw [e1]
    rw [show (narrow .byte (.int (Int32.ofInt w)) : Value) = .int (Int32.ofInt w) from hw]
    rw [vp_cell_i, vp_cell_i, arrV_store]
    congr 2
    funext y
    rw [xnat ⟨hi.1, h2⟩]
    by_cases hy : y = i.toNat
    · subst hy
      simp [updV, xtoNat hi.1, upI_at]
    · have : (y : Int) ≠ i := by omega
      simp [updV, hy, upI_nk _ _ _ _ this]
theorem xg_alen {a : Nat} {l : Int} (q : Nat) (d : decode M.2.1 pc = .ok (.arraylength, 1)) (hq : pc + 1 = q) (hk : (T a).1 = 14) (hl : (T a).2 = l) (kk : xG E M R X q L (J l :: st) (z, T, F, I, P, Y) c n) : xG E M R X pc L (.ref a :: st) (z, T, F, I, P, Y) c n := by
  subst hq
  subst hl
  intro p e s m args below meth cd C H locs ls hP hS hL
  obtain ⟨h0, h1⟩ := hP.2 a (by show (T a).1 ≠ 0; rw [hk]; omega)
  rw [xcell_int hk (Or.inl rfl)] at h1
  have h1' : (0 : Int) ≤ (T a).2 := h0.2.1
  refine va_alen C.1 C.2.1 C.2.2.2.2.2.2.2.2.1 (x_one h1) 0 0 rfl (xty (E := E) (by omega)) ?_ d (kk p e s m args below meth cd C H locs ls hP hS hL)
  show Int32.ofNat (T a).2.toNat = Int32.ofInt (T a).2
  rw [← Int32.ofInt_eq_ofNat, xtoNat h1']
theorem x_ast {a b k ci : Nat} {i : Int} {r : vw_C} (q : Nat) (d : decode M.2.1 pc = .ok (.aastore, 1)) (hq : pc + 1 = q) (hk : (T a).1 = k) (hk2 : 17 ≤ k ∧ k < 20) (hC : (xtys E)[k - 14]? = some (E.2.2.1 (k - 14), .object r.1)) (hr : vwCl[ci]? = some r) (hci : ci ≤ 12) (hb : (T b).1 = ci + 1) (hi : 0 ≤ i ∧ i < (T a).2) (kk : xG E M R X q L st (z, T, F, I, P, upY Y a i (some b)) c n) : xG E M R X pc L (.ref b :: J i :: .ref a :: st) (z, T, F, I, P, Y) c n := by
  subst hq
  intro p e s m args below meth cd C H locs ls hP hS hL
  obtain ⟨h0, h1⟩ := hP.2 a (by show (T a).1 ≠ 0; rw [hk]; omega)
  rw [xcell_ref hk hk2.1] at h1
  obtain ⟨-, hB⟩ := hP.2 b (by show (T b).1 ≠ 0; rw [hb]; omega)
  rw [xcell_obj hb hci] at hB
  have h2 : i < 2147483648 := Int.lt_trans hi.2 h0.2.2.1
  have hK : va_K E.2.1 vwCl (xtys E) s := C.2.2.2.2.2.2.2.2.1
  have h3 := xin hi h0.2.2.1
  have hlt : (Int32.ofInt i).toNatClampNeg < (T a).2.toNat := Nat.not_le.mp fun q => h3 (Or.inr q)
  have h00 : ¬ Int32.ofInt i < 0 := fun q => h3 (Or.inl q)
  obtain ⟨r', hr', cellV, g1, g2, g3, -⟩ := hB
  have hcls := (hK.1 ci r hr).2
  obtain ⟨kA, comp, k1, k2, k3, -⟩ := (hK.2 (k - 14) _ hC).2
  have hcomp : comp = E.2.1.1 ci := Option.some.inj (k3.symm.trans hcls.1)
  subst hcomp
  obtain ⟨kC, hkC, -⟩ := hcls.2
  refine W.aast C.1 C.2.1 h1 (fun q h => by cases h) (fun h => by cases h) k1 k2 rfl hkC ⟨h00, by show _ < (arrV _ _ _).slots.size; rw [arrV_size]; exact hlt⟩ g1 (fun q h => by rw [g3] at h; cases h) (by rw [g2]; exact hkC) (by rw [g2]; exact va_assign hcls) rfl rfl d fun H1 e1 z1 o1 => ?_
  refine kk p e s m args below meth cd C H1 _ ls (hP.set a z1 o1 rfl rfl (xBo.no (by show (T a).1 ≠ 7; rw [hk]; omega)) (fun x hx => ?_) ?_) (hS.put z1 o1 h0.1) hL
  · show xck E (T x).1 (T x).2 (F x) (I x) (P x) (upY Y a i (some b) x) = xck E (T x).1 (T x).2 (F x) (I x) (P x) (Y x)
    rw [upY_na _ _ _ _ hx]
  · rw [xcell_ref hk hk2.1]
    show H1[a]? = some (vp_cell _ _)
    rw [e1]
    rw [vp_cell_q, vp_cell_q, arrV_store]
    congr 2
    funext y
    rw [xnat ⟨hi.1, h2⟩]
    by_cases hy : y = i.toNat
    · subst hy
      simp [updV, xtoNat hi.1, upY_at, va_rf]
    · have : (y : Int) ≠ i := by omega
      simp [updV, hy, upY_nk _ _ _ _ this]
theorem xg_rast {a b : Nat} {i : Int} (q : Nat) (d : decode M.2.1 pc = .ok (.aastore, 1)) (hq : pc + 1 = q) (hk : (T a).1 = 17) (hb : (T b).1 = 7) (hi : 0 ≤ i ∧ i < (T a).2) (kk : xG E M R X q L st (z, T, F, I, P, upY Y a i (some b)) c n) : xG E M R X pc L (.ref b :: J i :: .ref a :: st) (z, T, F, I, P, Y) c n :=
  x_ast (r := (RX6, TX6, 5)) (ci := 6) q d hq hk (by omega) rfl rfl (by omega) hb hi kk
theorem xg_sast {a b : Nat} {i : Int} (q : Nat) (d : decode M.2.1 pc = .ok (.aastore, 1)) (hq : pc + 1 = q) (hk : (T a).1 = 18) (hb : (T b).1 = 9) (hi : 0 ≤ i ∧ i < (T a).2) (kk : xG E M R X q L st (z, T, F, I, P, upY Y a i (some b)) c n) : xG E M R X pc L (.ref b :: J i :: .ref a :: st) (z, T, F, I, P, Y) c n :=
  x_ast (r := (RX8, TX8, 17)) (ci := 8) q d hq hk (by omega) rfl rfl (by omega) hb hi kk
theorem xg_ifnn {a : Nat} {o : Int} (q : Nat) (d : decode M.2.1 pc = .ok (.ifnonnull o, 3)) (hq : (pc : Int) + o = (q : Int)) (kk : xG E M R X q L st (z, T, F, I, P, Y) c n) : xG E M R X pc L (.ref a :: st) (z, T, F, I, P, Y) c n := by
  intro p e s m args below meth cd C H locs ls hP hS hL
  exact lv_ifnonnull C.1 C.2.1 d hq (kk p e s m args below meth cd C H locs ls hP hS hL)
theorem xg_ifn {a : Nat} {o : Int} (q : Nat) (d : decode M.2.1 pc = .ok (.ifnull o, 3)) (hq : pc + 3 = q) (kk : xG E M R X q L st (z, T, F, I, P, Y) c n) : xG E M R X pc L (.ref a :: st) (z, T, F, I, P, Y) c n := by
  subst hq
  intro p e s m args below meth cd C H locs ls hP hS hL
  exact lv_ifnull C.1 C.2.1 d (kk p e s m args below meth cd C H locs ls hP hS hL)
end XH
