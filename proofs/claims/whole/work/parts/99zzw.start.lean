/-! what holds at the start -/
def zKn : List Nat := [118, 178, 179, 181, 151, 161, 173, 197, 165, 199, 163, 228, 230, 146, 128, 156, 171, 232, 226, 221, 207, 52]
def zBn : List Nat := [253, 511, 536, 565, 273, 299, 366, 464, 327, 487, 312, 384, 403, 245, 264, 286, 345, 424, 619, 592, 443, 134]
def zTm (i : Nat) : Term := .string (if i = 21 then RX7 else RX12) (zKn.getD i 0)
def zBs (i : Nat) : List Int := if i = 21 then zTx else zWs.getD i []
def zW : List Cond := flatC (Jvm.Cond.and given_1 narrow_1)
abbrev zVl (i : Nat) : Term := .field (zTm i) RJ0 "value" "[B"
theorem zk_len : ∀ i, i < 22 → (zBs i).length < 2 ^ 31 := by decide +kernel
theorem zk_ex : ∀ i, i < 22 → zW[zBn.getD i 0]? = some (.exactly (zTm i) RJ0) := by decide +kernel
theorem zk_co : ∀ i, i < 22 → zW[zBn.getD i 0 + 1]? = some (.eq (.field (zTm i) RJ0 "coder" "B") (.int (Int32.ofInt 0))) := by decide +kernel
theorem zk_ar : ∀ i, i < 22 → zW[zBn.getD i 0 + 2]? = some (.arrayOf (zVl i) .byte) := by decide +kernel
theorem zk_le : ∀ i, i < 22 → zW[zBn.getD i 0 + 3]? = some (.eq (.length (zVl i)) (.int (Int32.ofNat (zBs i).length))) := by decide +kernel
theorem zk_el : ∀ i, i < 22 → ∀ j, j < (zBs i).length → zW[zBn.getD i 0 + 4 + j]? = some (.eq (.elem (zVl i) (.int (Int32.ofNat j))) (.int (Int32.ofInt ((zBs i).getD j 0)))) := by decide +kernel
theorem zStrOf {args : Array Value} {s : State} {tm : Term} {bs : List Int} (hN : bs.length < 2 ^ 31) (hex : (Cond.exactly tm RJ0).before args s = true) (hco : (Cond.eq (.field tm RJ0 "coder" "B") (.int (Int32.ofInt 0))).before args s = true) (har : (Cond.arrayOf (.field tm RJ0 "value" "[B") .byte).before args s = true)
    (hle : (Cond.eq (.length (.field tm RJ0 "value" "[B")) (.int (Int32.ofNat bs.length))).before args s = true) (hel : ∀ j : Nat, j < bs.length → (Cond.eq (.elem (.field tm RJ0 "value" "[B") (.int (Int32.ofNat j))) (.int (Int32.ofInt (bs.getD j 0)))).before args s = true) :
    ∃ q : Nat × Nat, tm.eval args s none [] s = some (.ref q.1) ∧ oStr s.heap.size q.1 q.2 bs s := by
  have hA : ∀ a : Nat, a < s.heap.size → ¬ (fun a => s.heap.size ≤ a) a := fun a h => Nat.not_le.mpr h
  obtain ⟨a, c, cA, kA, q1, q2, q3, q4, q5, q6, -⟩ := Cond.exactly_spec (args := args) (first := s) (o := none) (s := s) (idx := []) (t := tm) (cls := RJ0) hex
  obtain ⟨t, ht, hT⟩ := va_Tof (f := fun j => .int (Int32.ofInt (bs.getD j 0))) (A := fun a => s.heap.size ≤ a) hN har (va_eqt hle) (fun j hj => va_eqt (hel j hj)) hA
  exact ⟨(a, t), q1, ⟨cA, q3, q5, by rw [q6]; exact q2, hA a (Array.getElem?_eq_some_iff.mp q3).1⟩, vk_OFof q1 (va_eqt hco) hA, vk_OFof q1 ht hA, hT⟩
theorem zStrs {args : Array Value} {s : State} (hgv : (Jvm.Cond.and given_1 narrow_1).before args s = true) : ∃ ad adv : Nat → Nat, ∀ i : Nat, i < 22 → (zTm i).eval args s none [] s = some (.ref (ad i)) ∧ oStr s.heap.size (ad i) (adv i) (zBs i) s := by
  have hs : ∀ w ∈ zW, w.before args s = true := flat_of_before _ hgv
  have h0 : ∀ i : Nat, ∃ q : Nat × Nat, i < 22 → (zTm i).eval args s none [] s = some (.ref q.1) ∧ oStr s.heap.size q.1 q.2 (zBs i) s := by
    intro i
    by_cases hi : i < 22
    · obtain ⟨q, h⟩ := zStrOf (zk_len i hi) (hs _ (List.mem_of_getElem? (zk_ex i hi))) (hs _ (List.mem_of_getElem? (zk_co i hi))) (hs _ (List.mem_of_getElem? (zk_ar i hi))) (hs _ (List.mem_of_getElem? (zk_le i hi))) (fun j hj => hs _ (List.mem_of_getElem? (zk_el i hi j hj)))
      exact ⟨q, fun _ => h⟩
    · exact ⟨(0, 0), fun h => absurd h hi⟩
  obtain ⟨f, hf⟩ := Classical.axiomOfChoice h0
  exact ⟨fun i => (f i).1, fun i => (f i).2, hf⟩
theorem xKn1 {args : Array Value} {s : State} (hts : ∀ w ∈ xT, w.before args s = true) {ci : Nat} {C : String} {T : u_T} {N n : Nat} (h : xCls ci C T N) (hi : Cond.instantiable C n ∈ xT) : ∃ x : ClassId × (Nat → Nat), ∀ q : vw_C, vwCl[ci]? = some q → u_Kn s q.1 q.2.1 q.2.2 x.1 x.2 := by
  obtain ⟨cC, iS, hk⟩ := u_known hts h.2.1 (hts _ hi)
  refine ⟨(cC, iS), fun q hq => ?_⟩
  rw [h.1] at hq
  cases hq
  exact hk
theorem xKnow {args : Array Value} {s : State} (hts : ∀ w ∈ xT, w.before args s = true) : ∃ (dC : Nat → ClassId) (dI : Nat → Nat → Nat), ∀ (k : Nat) (q : vw_C), vwCl[k]? = some q → u_Kn s q.1 q.2.1 q.2.2 (dC k) (dI k) := by
  have h0 : ∀ k : Nat, ∃ x : ClassId × (Nat → Nat), ∀ q : vw_C, vwCl[k]? = some q → u_Kn s q.1 q.2.1 q.2.2 x.1 x.2 := by
    intro k
    match k with
    | 0 => exact xKn1 hts kc_0 kw_RX0.1
    | 1 => exact xKn1 hts kc_1 kw_RX1.1
    | 2 => exact xKn1 hts kc_2 kw_RX2.1
    | 3 => exact xKn1 hts kc_3 kw_RX3.1
    | 4 => exact xKn1 hts kc_4 kw_RX4.1
    | 5 => exact xKn1 hts kc_5 kw_RX5.1
    | 6 => exact xKn1 hts kc_6 kw_RX6.1
    | 7 => exact xKn1 hts kc_7 kw_RX7.1
    | 8 => exact xKn1 hts kc_8 kw_RX8.1
    | 9 => exact xKn1 hts kc_9 kw_RX9.1
    | 10 => exact xKn1 hts kc_10 kw_RX10.1
    | 11 => exact xKn1 hts kc_11 kw_RX11.1
    | 12 => exact xKn1 hts kc_12 kw_RX12.1
    | k + 13 => exact ⟨(0, fun _ => 0), fun q hq => by simp [vwCl] at hq⟩
  obtain ⟨f, hf⟩ := Classical.axiomOfChoice h0
  exact ⟨fun k => (f k).1, fun k => (f k).2, fun k q hq => hf k q hq⟩
theorem xArrC {args : Array Value} {s : State} {ty : FieldType} (h : (Cond.arrayClass ty).before args s = true) : ∃ cA : ClassId, ArrOfT s cA ty ∧ s.vm.findClass ("[" ++ ty.toString) = some cA := by
  obtain ⟨c, k, comp, h1, h2, h3⟩ := Cond.arrayClass_spec h
  exact ⟨c, fun N z => ⟨(fun k h => by cases h), k, h2, comp, h3⟩, h1⟩
theorem xArrO {args : Array Value} {s : State} {C : String} (h : (Cond.arrayOver (.object C)).before args s = true) : ∃ cA : ClassId, ArrOfT s cA (.object C) ∧ va_RA s cA (.object C) := by
  obtain ⟨comp, c, k, h1, h2, h3, h4, h5⟩ := Cond.arrayOver_spec h
  exact ⟨c, fun N z => ⟨(fun k h => by cases h), k, h3, comp, h4⟩, k, comp, h3, h4, h1, h5⟩
theorem xArrA {args : Array Value} {s : State} (h : (Cond.arrayOver (.array .int)).before args s = true) : ∃ cA : ClassId, ArrOfT s cA (.array .int) ∧ s.vm.findClass ("[" ++ (FieldType.array .int).toString) = some cA := by
  unfold Cond.before Cond.holds at h
  simp only [Cond.value, beq_iff_eq, Option.bind_eq_some_iff, Option.map_eq_some_iff] at h
  obtain ⟨comp, h1, c, h2, k, h3, h4⟩ := h
  cases hk : k.kind with
  | array component ty =>
    rw [hk] at h4
    simp at h4
    exact ⟨c, fun N z => ⟨(fun k h => by cases h), k, h3, component, by rw [hk, h4.1]⟩, h4.2⟩
  | _ => rw [hk] at h4; simp at h4
theorem xAOa {u U : State} (hvm : u.vm.Alike U.vm) (h : (Cond.arrayOver (.array .int)).before #[] u = true) : (Cond.arrayOver (.array .int)).before #[] U = true := by
  have h1 : (Cond.arrayOver (.array .int)).before #[] (u.setVm U.vm) = true := by rw [Cond.arrayOver_setVmC hvm]; exact h
  simp only [Cond.before, Cond.holds, Cond.value, State.vm_setVm] at h1 ⊢
  exact h1
/-- what the old heap and the tables hold, all along -/
def xOL (b L : Nat) (xs : Nat → Int32) (B : Nat) (ad adv : Nat → Nat) (sio : Option Nat) (u : State) : Prop :=
  (va_X b L xs u u.heap ∧ b < B) ∧ xOld u ∧ (Cond.arrayOver (.array .int)).before #[] u = true ∧ (xThW u "java/lang/IllegalArgumentException" ∧ xThW u "java/lang/UnsupportedOperationException" ∧ xThW u "java/lang/IndexOutOfBoundsException" ∧ xThW u "java/util/NoSuchElementException" ∧ xThW u "java/lang/IllegalStateException") ∧
  (vx_Zq Bundle.tN "UNASSIGNED_STACK" Bundle.steD (fun a => B ≤ a) u u.heap ∧ vx_Zq Bundle.tN "SUPPRESSED_SENTINEL" Bundle.listD (fun a => B ≤ a) u u.heap) ∧ (va_Nc "java/lang/UnsupportedOperationException" "java/lang/IllegalArgumentException" u ∧ va_Nc "java/util/NoSuchElementException" "java/lang/IndexOutOfBoundsException" u ∧ va_Nc "java/lang/IllegalArgumentException" "java/lang/IndexOutOfBoundsException" u ∧ va_Nc "java/lang/IllegalArgumentException" "java/util/NoSuchElementException" u) ∧ oWs B ad adv sio u
theorem xThW.moved {u U : State} {X : String} (hW : u.WarmedH U.vm) (h : xThW u X) : xThW U X := ⟨va_Nw.warmC hW h.1, va_Nw.warmD hW h.2.1, va_Nw.warmD hW h.2.2.1, va_Nw.warmD hW h.2.2.2⟩
section XOL
variable {u U : State} {B : Nat}
theorem oStr.moved {q0 v0 : Nat} {bs : List Int} (hA : u.vm.Alike U.vm) (hk : ∀ a : Nat, a < u.heap.size → ¬ (fun a => B ≤ a) a → U.heap[a]? = u.heap[a]?) (h : oStr B q0 v0 bs u) : oStr B q0 v0 bs U :=
  ⟨(va_O.moved hA h.1).kept hk, (va_OF.moved hA h.2.1).kept hk, (va_OF.moved hA h.2.2.1).kept hk, (va_T.moved hA h.2.2.2).kept hk⟩
theorem oRf.moved {ad : Nat → Nat} (hW : u.WarmedH U.vm) (h : oRf ad u) : oRf ad U := by
  obtain ⟨h0, h1, h2, h3, h4, h5, h6, h7, h8, h9, h10, h11, h12, h13, h14, h15, h16, h17, h18, h19, h20, h21⟩ := h
  exact ⟨h0.warm hW, h1.warm hW, h2.warm hW, h3.warm hW, h4.warm hW, h5.warm hW, h6.warm hW, h7.warm hW, h8.warm hW, h9.warm hW, h10.warm hW, h11.warm hW, h12.warm hW, h13.warm hW, h14.warm hW, h15.warm hW, h16.warm hW, h17.warm hW, h18.warm hW, h19.warm hW, h20.warm hW, h21.warm hW⟩
theorem xOL.moved {b L : Nat} {xs : Nat → Int32} {ad adv : Nat → Nat} {sio : Option Nat} (hW : u.WarmedH U.vm) (hq : ∀ q : Nat, q < B → U.heap[q]? = u.heap[q]?) (h : xOL b L xs B ad adv sio u) : xOL b L xs B ad adv sio U := by
  have hA := hW.alike
  have hk : ∀ a : Nat, a < u.heap.size → ¬ (fun a => B ≤ a) a → U.heap[a]? = u.heap[a]? := fun a _ h => hq a (Nat.lt_of_not_le h)
  obtain ⟨⟨h1, h2⟩, ⟨h3, h4, h5, h6⟩, h7, ⟨t0, t1, t2, t3, t4⟩, ⟨z1, z2⟩, ⟨n1, n2, n3, n4⟩, ⟨⟨s1, s2⟩, s3, s4, s5⟩⟩ := h
  exact ⟨⟨(h1.moved hA).kept (hq b h2), h2⟩, ⟨h3.moved hA, h4.moved hA, va_Nw.warmM hW h5, va_Nw.warmM hW h6⟩, xAOa hA h7, ⟨t0.moved hW, t1.moved hW, t2.moved hW, t3.moved hW, t4.moved hW⟩, ⟨(z1.moved hA).kept hk, (z2.moved hA).kept hk⟩, ⟨n1.moved hA, n2.moved hA, n3.moved hA, n4.moved hA⟩, ⟨⟨(va_Z.moved hA s1).kept hk, (va_Z.moved hA s2).kept hk⟩, fun i hi => (s3 i hi).moved hA hk, s4.moved hA hk, s5.moved hW⟩⟩
theorem xOL.env {l : Launch} {D : va_G} {tc : Nat → ClassId} {b L : Nat} {xs : Nat → Int32} {ad adv : Nat → Nat} {sio : Option Nat} (hl : l.stackTraces = false) : xEnv (l, D, tc, B, xOL b L xs B ad adv sio) ad adv sio (ad 21) (adv 21) "level runs entries debt table fan tick busy tiered full pace cost worth run of size levelled if or and not " :=
  ⟨fun u h => h.2.1, ⟨⟨hl, fun u h => ⟨h.2.2.2.1.1, h.2.2.2.2.1⟩⟩, ⟨hl, fun u h => ⟨h.2.2.2.1.2.1, h.2.2.2.2.1⟩⟩, ⟨hl, fun u h => ⟨h.2.2.2.1.2.2.1, h.2.2.2.2.1⟩⟩, ⟨hl, fun u h => ⟨h.2.2.2.1.2.2.2.1, h.2.2.2.2.1⟩⟩, ⟨hl, fun u h => ⟨h.2.2.2.1.2.2.2.2, h.2.2.2.2.1⟩⟩⟩,
    fun u h => h.2.2.2.2.2.1, fun u h => h.2.2.2.2.2.2, fun u h => h.2.2.2.2.2.2.2.2.1, fun u h => h.2.2.2.2.2.2.1, fun u h => h.2.2.2.2.2.2.2.2.2.2.2.2.2.2.2.2.2.2.2.2.2.2.2.2.2.2.2.2.2.2⟩
end XOL
theorem xOL.beg {args : Array Value} {s : State} {b L : Nat} {xs : Nat → Int32} (hts : ∀ w ∈ lw_tbl, w.before args s = true) (hgv : (Jvm.Cond.and given_1 narrow_1).before args s = true) (hX : va_X b L xs s s.heap) (hb : b < s.heap.size) : ∃ (ad adv : Nat → Nat) (sio : Option Nat), xOL b L xs s.heap.size ad adv sio s := by
  have hA : ∀ a : Nat, a < s.heap.size → ¬ (fun a => s.heap.size ≤ a) a := fun a h => Nat.not_le.mpr h
  have hs : ∀ w ∈ zW, w.before args s = true := flat_of_before _ hgv
  obtain ⟨ad, adv, hz⟩ := zStrs hgv
  obtain ⟨sio, hsio⟩ : ∃ sio : Option Nat, va_Z RJ3 "SIOOBE_FORMATTER" "Ljava/util/function/BiFunction;" (va_rf sio) (fun a => s.heap.size ≤ a) s s.heap := by
    rcases va_Zqof (A := fun a => s.heap.size ≤ a) (hts (.laysStatic RJ3 "SIOOBE_FORMATTER" "Ljava/util/function/BiFunction;") (by decide +kernel)) (hts (.initialized RJ3) (by decide +kernel)) (hs (.isRef (.static RJ3 "SIOOBE_FORMATTER" "Ljava/util/function/BiFunction;")) (by decide +kernel)) hA with h | ⟨t, h⟩
    · exact ⟨none, h⟩
    · exact ⟨some t, h⟩
  refine ⟨ad, adv, sio, ⟨hX, hb⟩, ⟨va_AO.of (hts (.arrayOver (.object RX6)) (by decide +kernel)), va_AO.of (hts (.arrayOver (.object RX8)) (by decide +kernel)), va_Nw.of rfl (hts (.methodLinkNest RX8 27 yX1_init "RunLedger") (by decide +kernel)), va_Nw.of rfl (hts (.methodLinkNest RX8 41 yX10_init "RunLedger") (by decide +kernel))⟩, hts (.arrayOver (.array .int)) (by decide +kernel), ⟨?_, ?_, ?_, ?_, ?_⟩, ⟨?_, ?_⟩, ⟨?_, ?_, ?_, ?_⟩, ⟨⟨?_, hsio⟩, ?_, ?_, ?_⟩⟩
  · exact ⟨va_Nw.of rfl (hts (.castable "java/lang/IllegalArgumentException" "java/lang/IllegalArgumentException") (by decide +kernel)), va_Nw.of rfl (hts (.declares (Bundle.init0 "java/lang/RuntimeException")) (by decide +kernel)), va_Nw.of rfl (hts (.declares (Bundle.init0 "java/lang/Exception")) (by decide +kernel)), va_Nw.of rfl (hts (.declares (Bundle.init0 Bundle.tN)) (by decide +kernel))⟩
  · exact ⟨va_Nw.of rfl (hts (.castable "java/lang/UnsupportedOperationException" "java/lang/UnsupportedOperationException") (by decide +kernel)), va_Nw.of rfl (hts (.declares (Bundle.init0 "java/lang/RuntimeException")) (by decide +kernel)), va_Nw.of rfl (hts (.declares (Bundle.init0 "java/lang/Exception")) (by decide +kernel)), va_Nw.of rfl (hts (.declares (Bundle.init0 Bundle.tN)) (by decide +kernel))⟩
  · exact ⟨va_Nw.of rfl (hts (.castable "java/lang/IndexOutOfBoundsException" "java/lang/IndexOutOfBoundsException") (by decide +kernel)), va_Nw.of rfl (hts (.declares (Bundle.init0 "java/lang/RuntimeException")) (by decide +kernel)), va_Nw.of rfl (hts (.declares (Bundle.init0 "java/lang/Exception")) (by decide +kernel)), va_Nw.of rfl (hts (.declares (Bundle.init0 Bundle.tN)) (by decide +kernel))⟩
  · exact ⟨va_Nw.of rfl (hts (.castable "java/util/NoSuchElementException" "java/util/NoSuchElementException") (by decide +kernel)), va_Nw.of rfl (hts (.declares (Bundle.init0 "java/lang/RuntimeException")) (by decide +kernel)), va_Nw.of rfl (hts (.declares (Bundle.init0 "java/lang/Exception")) (by decide +kernel)), va_Nw.of rfl (hts (.declares (Bundle.init0 Bundle.tN)) (by decide +kernel))⟩
  · exact ⟨va_Nw.of rfl (hts (.castable "java/lang/IllegalStateException" "java/lang/IllegalStateException") (by decide +kernel)), va_Nw.of rfl (hts (.declares (Bundle.init0 "java/lang/RuntimeException")) (by decide +kernel)), va_Nw.of rfl (hts (.declares (Bundle.init0 "java/lang/Exception")) (by decide +kernel)), va_Nw.of rfl (hts (.declares (Bundle.init0 Bundle.tN)) (by decide +kernel))⟩
  · exact vx_Zqof (hts (.laysStatic Bundle.tN "UNASSIGNED_STACK" Bundle.steD) (by decide +kernel)) (hts (.initialized Bundle.tN) (by decide +kernel)) (hs (.isRef (.static Bundle.tN "UNASSIGNED_STACK" Bundle.steD)) (by decide +kernel)) hA
  · exact vx_Zqof (hts (.laysStatic Bundle.tN "SUPPRESSED_SENTINEL" Bundle.listD) (by decide +kernel)) (hts (.initialized Bundle.tN) (by decide +kernel)) (hs (.isRef (.static Bundle.tN "SUPPRESSED_SENTINEL" Bundle.listD)) (by decide +kernel)) hA
  · exact va_Nc.of (hs (.not (.castable "java/lang/UnsupportedOperationException" "java/lang/IllegalArgumentException")) (by decide +kernel))
  · exact va_Nc.of (hs (.not (.castable "java/util/NoSuchElementException" "java/lang/IndexOutOfBoundsException")) (by decide +kernel))
  · exact va_Nc.of (hs (.not (.castable "java/lang/IllegalArgumentException" "java/lang/IndexOutOfBoundsException")) (by decide +kernel))
  · exact va_Nc.of (hs (.not (.castable "java/lang/IllegalArgumentException" "java/util/NoSuchElementException")) (by decide +kernel))
  · exact va_Zof (hts (.laysStatic RJ0 "COMPACT_STRINGS" "Z") (by decide +kernel)) (hts (.initialized RJ0) (by decide +kernel)) (va_eqt (hs (.eq (.static RJ0 "COMPACT_STRINGS" "Z") (.int (Int32.ofInt 1))) (by decide +kernel))) hA
  · intro i hi
    have h := (hz i (by omega)).2
    unfold zBs at h
    rw [if_neg (show ¬ i = 21 by omega)] at h
    exact h
  · exact (hz 21 (by decide)).2
  · exact ⟨vk_R.of (hts (.stringRef RX12 146 "run") (by decide +kernel)) (hz 13 (by decide)).1, vk_R.of (hts (.stringRef RX12 118 "level") (by decide +kernel)) (hz 0 (by decide)).1, vk_R.of (hts (.stringRef RX12 128 "of") (by decide +kernel)) (hz 14 (by decide)).1, vk_R.of (hts (.stringRef RX12 151 "table") (by decide +kernel)) (hz 4 (by decide)).1, vk_R.of (hts (.stringRef RX12 156 "size") (by decide +kernel)) (hz 15 (by decide)).1, vk_R.of (hts (.stringRef RX12 161 "fan") (by decide +kernel)) (hz 5 (by decide)).1, vk_R.of (hts (.stringRef RX12 163 "pace") (by decide +kernel)) (hz 10 (by decide)).1, vk_R.of (hts (.stringRef RX12 165 "tiered") (by decide +kernel)) (hz 8 (by decide)).1, vk_R.of (hts (.stringRef RX12 171 "levelled") (by decide +kernel)) (hz 16 (by decide)).1, vk_R.of (hts (.stringRef RX12 173 "tick") (by decide +kernel)) (hz 6 (by decide)).1, vk_R.of (hts (.stringRef RX12 228 "cost") (by decide +kernel)) (hz 11 (by decide)).1, vk_R.of (hts (.stringRef RX12 230 "worth") (by decide +kernel)) (hz 12 (by decide)).1, vk_R.of (hts (.stringRef RX12 232 "if") (by decide +kernel)) (hz 17 (by decide)).1, vk_R.of (hts (.stringRef RX12 207 "not") (by decide +kernel)) (hz 20 (by decide)).1, vk_R.of (hts (.stringRef RX12 197 "busy") (by decide +kernel)) (hz 7 (by decide)).1, vk_R.of (hts (.stringRef RX12 199 "full") (by decide +kernel)) (hz 9 (by decide)).1, vk_R.of (hts (.stringRef RX12 178 "runs") (by decide +kernel)) (hz 1 (by decide)).1, vk_R.of (hts (.stringRef RX12 179 "entries") (by decide +kernel)) (hz 2 (by decide)).1, vk_R.of (hts (.stringRef RX12 181 "debt") (by decide +kernel)) (hz 3 (by decide)).1, vk_R.of (hts (.stringRef RX12 221 "and") (by decide +kernel)) (hz 19 (by decide)).1, vk_R.of (hts (.stringRef RX12 226 "or") (by decide +kernel)) (hz 18 (by decide)).1, vk_R.of (hts (.stringRef RX7 52 "level runs entries debt table fan tick busy tiered full pace cost worth run of size levelled if or and not ") (by decide +kernel)) (hz 21 (by decide)).1⟩
theorem xArrs {args : Array Value} {s : State} (hts : ∀ w ∈ lw_tbl, w.before args s = true) : ∃ tc : Nat → ClassId, ∀ (k : Nat) (q : ClassId × FieldType), ([(tc 0, .int), (tc 1, .byte), (tc 2, .long), (tc 3, .object RX6), (tc 4, .object RX8), (tc 5, .array .int)] : List (ClassId × FieldType))[k]? = some q → ArrOfT s q.1 q.2 ∧ va_RA s q.1 q.2 := by
  have hT := xT_law hts
  obtain ⟨c0, a0, b0⟩ := xArrC (hT _ k_acint)
  obtain ⟨c1, a1, b1⟩ := xArrC (hT _ k_acbyte)
  obtain ⟨c2, a2, b2⟩ := xArrC (hT _ k_aclong)
  obtain ⟨c3, a3, b3⟩ := xArrO (hts (.arrayOver (.object RX6)) (by decide +kernel))
  obtain ⟨c4, a4, b4⟩ := xArrO (hts (.arrayOver (.object RX8)) (by decide +kernel))
  obtain ⟨c5, a5, b5⟩ := xArrA (hts (.arrayOver (.array .int)) (by decide +kernel))
  refine ⟨fun k => match k with | 0 => c0 | 1 => c1 | 2 => c2 | 3 => c3 | 4 => c4 | _ => c5, fun k q hq => ?_⟩
  match k, hq with
  | 0, hq => cases hq; exact ⟨a0, b0⟩
  | 1, hq => cases hq; exact ⟨a1, b1⟩
  | 2, hq => cases hq; exact ⟨a2, b2⟩
  | 3, hq => cases hq; exact ⟨a3, b3⟩
  | 4, hq => cases hq; exact ⟨a4, b4⟩
  | 5, hq => cases hq; exact ⟨a5, b5⟩
  | k + 6, hq => simp at hq
