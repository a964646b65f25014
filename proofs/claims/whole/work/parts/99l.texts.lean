/-! texts that stand in the class files: old objects -/
section OST
variable {E : xE} {M M' : xM} {R : Room} {X : xX} {pc : Nat} {L : List (Option Value)} {st rest : List Value} {h : xH} {c n d mc ms k' i q0 v0 : Nat} {bs : List Int}
/-- the text at q0, its bytes at v0 -/
def oStr (B : Nat) (q0 v0 : Nat) (bs : List Int) (u : State) : Prop := va_O RJ0 q0 (fun a => B ≤ a) u u.heap ∧ va_OF RJ0 "coder" "B" (J 0) q0 (fun a => B ≤ a) u u.heap ∧ va_OF RJ0 "value" "[B" (.ref v0) q0 (fun a => B ≤ a) u u.heap ∧ va_T .byte v0 bs.length (fun j => J (bs.getD j 0)) (fun a => B ≤ a) u u.heap
/-- the JDK's statics that texts lean on -/
def oSts (B : Nat) (sio : Option Nat) (u : State) : Prop := va_Z RJ0 "COMPACT_STRINGS" "Z" (J 1) (fun a => B ≤ a) u u.heap ∧ va_Z RJ3 "SIOOBE_FORMATTER" "Ljava/util/function/BiFunction;" (va_rf sio) (fun a => B ≤ a) u u.heap
theorem xg_ldcS (q : Nat) {own tx : String} (ho : M.1.cls = own) (hR : ∀ u : State, E.2.2.2.2 u → vk_R own i tx q0 u) (d1 : decode M.2.1 pc = .ok (.ldc i, 2)) (hq : pc + 2 = q) (kk : xG E M R X q L (.ref q0 :: st) h c n) : xG E M R X pc L st h c n := by
  subst hq ho
  intro p e s m args below meth cd C H locs ls hP hS hL
  exact va_ldcS C.1 C.2.1 C.2.2.2.2.1 (hR s C.2.2.2.2.2.2.2.2.2.2.1) d1 (kk p e s m args below meth cd C H locs ls hP hS hL)
theorem xg_getS {o nm ds : String} {v : Value} (q : Nat) (hE : ∀ u : State, E.2.2.2.2 u → va_OF o nm ds v q0 (fun a => E.2.2.2.1 ≤ a) u u.heap) (hl : Cond.fieldLink M.1.cls i o nm ds ∈ xT) (d1 : decode M.2.1 pc = .ok (.getfield i, 3)) (hq : pc + 3 = q) (kk : xG E M R X q L (v :: st) h c n) : xG E M R X pc L (.ref q0 :: st) h c n := by
  subst hq
  intro p e s m args below meth cd C H locs ls hP hS hL
  exact vk_getf (A := fun a => E.2.2.2.1 ≤ a) C.1 C.2.1 (hE s C.2.2.2.2.2.2.2.2.2.2.1) hS C.2.2.2.2.1 (C.2.2.2.2.2.1 _ hl) (fun _ h9 => h9) d1 (kk p e s m args below meth cd C H locs ls hP hS hL)
theorem xg_gets {o nm ds : String} {v : Value} (q : Nat) (hE : ∀ u : State, E.2.2.2.2 u → va_Z o nm ds v (fun a => E.2.2.2.1 ≤ a) u u.heap) (hl : Cond.fieldLink M.1.cls i o nm ds ∈ xT) (d1 : decode M.2.1 pc = .ok (.getstatic i, 3)) (hq : pc + 3 = q) (kk : xG E M R X q L (v :: st) h c n) : xG E M R X pc L st h c n := by
  subst hq
  intro p e s m args below meth cd C H locs ls hP hS hL
  exact va_gets (A := fun a => E.2.2.2.1 ≤ a) C.1 C.2.1 (hE s C.2.2.2.2.2.2.2.2.2.2.1) hS C.2.2.2.2.1 (C.2.2.2.2.2.1 _ hl) (fun _ h9 => h9) d1 (kk p e s m args below meth cd C H locs ls hP hS hL)
theorem xg_tlen {f : Nat → Value} {ty : FieldType} {N : Nat} (q : Nat) (hE : ∀ u : State, E.2.2.2.2 u → va_T ty v0 N f (fun a => E.2.2.2.1 ≤ a) u u.heap) (d1 : decode M.2.1 pc = .ok (.arraylength, 1)) (hq : pc + 1 = q) (kk : xG E M R X q L (J (N : Int) :: st) h c n) : xG E M R X pc L (.ref v0 :: st) h c n := by
  subst hq
  intro p e s m args below meth cd C H locs ls hP hS hL
  exact va_tlen (A := fun a => E.2.2.2.1 ≤ a) C.1 C.2.1 (hE s C.2.2.2.2.2.2.2.2.2.2.1) hS (v := Int32.ofInt (N : Int)) (Int32.ofInt_eq_ofNat.symm) d1 (kk p e s m args below meth cd C H locs ls hP hS hL)
theorem xg_tb {f : Nat → Value} {N k : Nat} (q : Nat) (hE : ∀ u : State, E.2.2.2.2 u → va_T .byte v0 N f (fun a => E.2.2.2.1 ≤ a) u u.heap) (d1 : decode M.2.1 pc = .ok (.baload, 1)) (hq : pc + 1 = q) (hk : k < N) (hN : N < 2147483648) (kk : xG E M R X q L (f k :: st) h c n) : xG E M R X pc L (J (k : Int) :: .ref v0 :: st) h c n := by
  subst hq
  intro p e s m args below meth cd C H locs ls hP hS hL
  exact va_tb (A := fun a => E.2.2.2.1 ≤ a) C.1 C.2.1 (hE s C.2.2.2.2.2.2.2.2.2.2.1) hS (xin (n := (N : Int)) ⟨by omega, by omega⟩ (by omega)) (by rw [xnat ⟨by omega, by omega⟩, Int.toNat_natCast]) d1 (kk p e s m args below meth cd C H locs ls hP hS hL)
theorem xg_i2c {a : Int} (q : Nat) (d1 : decode M.2.1 pc = .ok (.i2c, 1)) (hq : pc + 1 = q) (ha : 0 ≤ a ∧ a < 128) (kk : xG E M R X q L (J a :: st) h c n) : xG E M R X pc L (J a :: st) h c n := by
  subst hq
  intro p e s m args below meth cd C H locs ls hP hS hL
  have h0 : ∀ k : Fin 128, ((Int32.ofInt ((k.val : Nat) : Int)).toUInt32 % 65536).toInt32 = Int32.ofInt ((k.val : Nat) : Int) := by decide +kernel
  have h1 := h0 ⟨a.toNat, by omega⟩
  have h2 : ((a.toNat : Nat) : Int) = a := by omega
  refine lv_i2c C.1 C.2.1 d1 (v := Int32.ofInt a) ?_ (kk p e s m args below meth cd C H locs ls hP hS hL)
  show ((Int32.ofInt a).toUInt32 % 65536).toInt32 = _
  rw [← h2]; exact h1
theorem xg_nreturn {R : Room} {post : Option Value → xH → Prop} {v : Int} {ty : FieldType} (d1 : decode M.2.1 pc = .ok (.ireturn, 1)) (hr : M.2.2.2.1 = some ty) (hv : narrow ty (J v) = J v) (hc : c ≤ mc ∧ n ≤ ms) (hp : post (some (J v)) h) : xG E M R (xN E post mc ms) pc L [J v] h c n := by
  intro p e s m args below meth cd C H locs ls hP hS hL
  have hlocks := C.2.2.2.2.2.2.1
  exact W.widen hc.1 hc.2 (W.zret (v := Int32.ofInt v) C.1 C.2.1 (C.2.2.1.trans hr) hv (fun t ht hW => ⟨⟨_, h, rfl, hp, by rw [ht]; exact hP⟩, hS.F ht⟩) hS.2.2 d1)
theorem nch {v : Int} (hv : 0 ≤ v ∧ v < 128) : narrow .char (J v) = J v := by
  have h0 : ∀ k : Fin 128, narrow .char (J ((k.val : Nat) : Int)) = J ((k.val : Nat) : Int) := by
    intro k
    have h1 : ∀ k : Fin 128, (Int32.ofInt ((k.val : Nat) : Int)).toUInt32.toUInt16.toUInt32.toInt32 = Int32.ofInt ((k.val : Nat) : Int) := by decide +kernel
    exact congrArg Value.int (h1 k)
  have h1 := h0 ⟨v.toNat, by omega⟩
  rwa [show (((⟨v.toNat, by omega⟩ : Fin 128).val : Nat) : Int) = v from by show ((v.toNat : Nat) : Int) = v; omega] at h1
theorem xand255 {v : Int} (hv : 0 ≤ v ∧ v < 128) : xand v 255 = v := by
  have h0 : ∀ k : Fin 128, xand ((k.val : Nat) : Int) 255 = ((k.val : Nat) : Int) := by decide +kernel
  have h1 := h0 ⟨v.toNat, by omega⟩
  rwa [show (((⟨v.toNat, by omega⟩ : Fin 128).val : Nat) : Int) = v from by show ((v.toNat : Nat) : Int) = v; omega] at h1
theorem xg_callVo {r : Option Value} {h2 : xH} {st' As : List Value} (q : Nat) (hM : xMv M') (hcls : M'.1.cls = RJ0) (hE : ∀ u : State, E.2.2.2.2 u → va_O RJ0 q0 (fun a => E.2.2.2.1 ≤ a) u u.heap) (hl : Cond.methodLink M.1.cls i M'.1 ∈ xT) (d0 : decode M.2.1 pc = .ok (.invokevirtual i, 3)) (hq : pc + 3 = q)
    (hn : As.length = M'.2.2.2.2) (hst : st = As.reverse ++ .ref q0 :: rest) (hsum : (rest.map fun v => v.category).sum ≤ 8) (hd : k' + 1 ≤ d) (hc : c ≤ mc ∧ n ≤ ms) (ct : Ct E k' M' 0 0 (.ref q0 :: As) h (xd r h2)) (hr : r.toList ++ rest = st')
    (kk : xG E M (xR d mc ms) X q L st' h2 c n) : xG E M (xR d mc ms) X pc L st h c n := by
  subst hst
  intro p e s m args below meth cd C H locs ls hP hS hL
  obtain ⟨hMt, hin, hsel⟩ := hM
  have hts := C.2.2.2.2.2.1
  have hK : xKn E s := C.2.2.2.2.2.2.2.2
  have cb : CallB (xR d mc ms) s args M.1.cls i M'.1 M'.2.1 M'.2.2.1 M'.2.2.2.1 (xW M') (xR (d - 1) 0 0) 0 0 M'.2.2.2.2 :=
    callB_of _ hts (x_goodW hMt) rfl rfl rfl (hts _ hMt.2.1) (hts _ hl) hMt.2.2.1 ⟨by show d - 1 + 1 ≤ d; omega, by show 8 + (M'.2.2.1 + 11) + 60 * (d - 1) ≤ 60 * d; have := hMt.2.2.2.2; omega⟩
  obtain ⟨cell, g1, g2, g3, -⟩ := (hE s hK.2.2.1).kept (H1 := H) hS.2.1
  refine x_back hq (va_runV (C := M'.1.cls) (b := q0) (As := As) (rest := rest) ⟨C.1, C.2.1, C.2.2.2.1, C.2.2.2.2.1, hts⟩ (ct (d - 1) (by omega)) ⟨cb, hts _ hin, hts _ hsel⟩
    ⟨xPc_blind, ⟨cell, g1, g2, by rw [hcls]; exact g3⟩, fun U hU hW => ⟨rfl, by rw [hU]; exact hP, hK.at hS hU hW⟩⟩ rfl hn hL.1 rfl (lv_room hsum) d0 (show c + 0 ≤ mc ∧ n + 0 ≤ ms by simpa using hc)) hS
    fun v h' H1 locs1 hp hP1 hS1 => ?_
  obtain ⟨rfl, rfl⟩ := hp
  rw [hr]
  exact kk p e s m args below meth cd C H1 locs1 ls hP1 hS1 hL
end OST

theorem kS_38 : Cond.fieldLink RJ0 38 RJ0 "COMPACT_STRINGS" "Z" ∈ xT := xT_t 676 (by decide +kernel) rfl
theorem kS_9 : Cond.fieldLink RJ0 9 RJ0 "value" "[B" ∈ xT := xT_t 2092 (by decide +kernel) rfl
theorem kS_15 : Cond.fieldLink RJ0 15 RJ0 "coder" "B" ∈ xT := xT_t 2093 (by decide +kernel) rfl
theorem kS_1053 : Cond.fieldLink RJ0 1053 RJ3 "SIOOBE_FORMATTER" "Ljava/util/function/BiFunction;" ∈ xT := xT_t 692 (by decide +kernel) rfl
theorem dJ0_coder_7d493_0 : decode cJ0_coder_7d493 0 = .ok (.getstatic 38, 3) := by decide +kernel
theorem dJ0_coder_7d493_3 : decode cJ0_coder_7d493 3 = .ok (.ifCond .eq 10, 3) := by decide +kernel
theorem dJ0_coder_7d493_6 : decode cJ0_coder_7d493 6 = .ok (.aload_n 0, 1) := by decide +kernel
theorem dJ0_coder_7d493_7 : decode cJ0_coder_7d493 7 = .ok (.getfield 15, 3) := by decide +kernel
theorem dJ0_coder_7d493_10 : decode cJ0_coder_7d493 10 = .ok (.goto 4, 3) := by decide +kernel
theorem dJ0_coder_7d493_13 : decode cJ0_coder_7d493 13 = .ok (.iconst 1, 1) := by decide +kernel
theorem dJ0_coder_7d493_14 : decode cJ0_coder_7d493 14 = .ok (.ireturn, 1) := by decide +kernel
theorem dJ0_isLatin1_aae02_0 : decode cJ0_isLatin1_aae02 0 = .ok (.getstatic 38, 3) := by decide +kernel
theorem dJ0_isLatin1_aae02_3 : decode cJ0_isLatin1_aae02 3 = .ok (.ifCond .eq 14, 3) := by decide +kernel
theorem dJ0_isLatin1_aae02_6 : decode cJ0_isLatin1_aae02 6 = .ok (.aload_n 0, 1) := by decide +kernel
theorem dJ0_isLatin1_aae02_7 : decode cJ0_isLatin1_aae02 7 = .ok (.getfield 15, 3) := by decide +kernel
theorem dJ0_isLatin1_aae02_10 : decode cJ0_isLatin1_aae02 10 = .ok (.ifCond .ne 7, 3) := by decide +kernel
theorem dJ0_isLatin1_aae02_13 : decode cJ0_isLatin1_aae02 13 = .ok (.iconst 1, 1) := by decide +kernel
theorem dJ0_isLatin1_aae02_14 : decode cJ0_isLatin1_aae02 14 = .ok (.goto 4, 3) := by decide +kernel
theorem dJ0_isLatin1_aae02_17 : decode cJ0_isLatin1_aae02 17 = .ok (.iconst 0, 1) := by decide +kernel
theorem dJ0_isLatin1_aae02_18 : decode cJ0_isLatin1_aae02 18 = .ok (.ireturn, 1) := by decide +kernel
theorem dJ0_length_8abf5_0 : decode cJ0_length_8abf5 0 = .ok (.aload_n 0, 1) := by decide +kernel
theorem dJ0_length_8abf5_1 : decode cJ0_length_8abf5 1 = .ok (.getfield 9, 3) := by decide +kernel
theorem dJ0_length_8abf5_4 : decode cJ0_length_8abf5 4 = .ok (.arraylength, 1) := by decide +kernel
theorem dJ0_length_8abf5_5 : decode cJ0_length_8abf5 5 = .ok (.aload_n 0, 1) := by decide +kernel
theorem dJ0_length_8abf5_6 : decode cJ0_length_8abf5 6 = .ok (.invokevirtual 335, 3) := by decide +kernel
theorem dJ0_length_8abf5_9 : decode cJ0_length_8abf5 9 = .ok (.ishr, 1) := by decide +kernel
theorem dJ0_length_8abf5_10 : decode cJ0_length_8abf5 10 = .ok (.ireturn, 1) := by decide +kernel
theorem dJ3_checkIndex_8e157_0 : decode cJ3_checkIndex_8e157 0 = .ok (.iload_n 0, 1) := by decide +kernel
theorem dJ3_checkIndex_8e157_1 : decode cJ3_checkIndex_8e157 1 = .ok (.ifCond .lt 8, 3) := by decide +kernel
theorem dJ3_checkIndex_8e157_4 : decode cJ3_checkIndex_8e157 4 = .ok (.iload_n 0, 1) := by decide +kernel
theorem dJ3_checkIndex_8e157_5 : decode cJ3_checkIndex_8e157 5 = .ok (.iload_n 1, 1) := by decide +kernel
theorem dJ3_checkIndex_8e157_6 : decode cJ3_checkIndex_8e157 6 = .ok (.if_icmp .lt 10, 3) := by decide +kernel
theorem dJ3_checkIndex_8e157_9 : decode cJ3_checkIndex_8e157 9 = .ok (.aload_n 2, 1) := by decide +kernel
theorem dJ3_checkIndex_8e157_10 : decode cJ3_checkIndex_8e157 10 = .ok (.iload_n 0, 1) := by decide +kernel
theorem dJ3_checkIndex_8e157_11 : decode cJ3_checkIndex_8e157 11 = .ok (.iload_n 1, 1) := by decide +kernel
theorem dJ3_checkIndex_8e157_12 : decode cJ3_checkIndex_8e157 12 = .ok (.invokestatic 95, 3) := by decide +kernel
theorem dJ3_checkIndex_8e157_15 : decode cJ3_checkIndex_8e157 15 = .ok (.athrow, 1) := by decide +kernel
theorem dJ3_checkIndex_8e157_16 : decode cJ3_checkIndex_8e157 16 = .ok (.iload_n 0, 1) := by decide +kernel
theorem dJ3_checkIndex_8e157_17 : decode cJ3_checkIndex_8e157 17 = .ok (.ireturn, 1) := by decide +kernel
theorem dJ0_checkIndex_df160_0 : decode cJ0_checkIndex_df160 0 = .ok (.iload_n 0, 1) := by decide +kernel
theorem dJ0_checkIndex_df160_1 : decode cJ0_checkIndex_df160 1 = .ok (.iload_n 1, 1) := by decide +kernel
theorem dJ0_checkIndex_df160_2 : decode cJ0_checkIndex_df160 2 = .ok (.getstatic 1053, 3) := by decide +kernel
theorem dJ0_checkIndex_df160_5 : decode cJ0_checkIndex_df160 5 = .ok (.invokestatic 1059, 3) := by decide +kernel
theorem dJ0_checkIndex_df160_8 : decode cJ0_checkIndex_df160 8 = .ok (.pop, 1) := by decide +kernel
theorem dJ0_checkIndex_df160_9 : decode cJ0_checkIndex_df160 9 = .ok (.return_, 1) := by decide +kernel
theorem dJ1_charAt_3b067_0 : decode cJ1_charAt_3b067 0 = .ok (.iload_n 1, 1) := by decide +kernel
theorem dJ1_charAt_3b067_1 : decode cJ1_charAt_3b067 1 = .ok (.aload_n 0, 1) := by decide +kernel
theorem dJ1_charAt_3b067_2 : decode cJ1_charAt_3b067 2 = .ok (.arraylength, 1) := by decide +kernel
theorem dJ1_charAt_3b067_3 : decode cJ1_charAt_3b067 3 = .ok (.invokestatic 9, 3) := by decide +kernel
theorem dJ1_charAt_3b067_6 : decode cJ1_charAt_3b067 6 = .ok (.aload_n 0, 1) := by decide +kernel
theorem dJ1_charAt_3b067_7 : decode cJ1_charAt_3b067 7 = .ok (.iload_n 1, 1) := by decide +kernel
theorem dJ1_charAt_3b067_8 : decode cJ1_charAt_3b067 8 = .ok (.baload, 1) := by decide +kernel
theorem dJ1_charAt_3b067_9 : decode cJ1_charAt_3b067 9 = .ok (.sipush 255, 3) := by decide +kernel
theorem dJ1_charAt_3b067_12 : decode cJ1_charAt_3b067 12 = .ok (.iand, 1) := by decide +kernel
theorem dJ1_charAt_3b067_13 : decode cJ1_charAt_3b067 13 = .ok (.i2c, 1) := by decide +kernel
theorem dJ1_charAt_3b067_14 : decode cJ1_charAt_3b067 14 = .ok (.ireturn, 1) := by decide +kernel
theorem dJ0_charAt_5068e_0 : decode cJ0_charAt_5068e 0 = .ok (.aload_n 0, 1) := by decide +kernel
theorem dJ0_charAt_5068e_1 : decode cJ0_charAt_5068e 1 = .ok (.invokevirtual 492, 3) := by decide +kernel
theorem dJ0_charAt_5068e_4 : decode cJ0_charAt_5068e 4 = .ok (.ifCond .eq 12, 3) := by decide +kernel
theorem dJ0_charAt_5068e_7 : decode cJ0_charAt_5068e 7 = .ok (.aload_n 0, 1) := by decide +kernel
theorem dJ0_charAt_5068e_8 : decode cJ0_charAt_5068e 8 = .ok (.getfield 9, 3) := by decide +kernel
theorem dJ0_charAt_5068e_11 : decode cJ0_charAt_5068e 11 = .ok (.iload_n 1, 1) := by decide +kernel
theorem dJ0_charAt_5068e_12 : decode cJ0_charAt_5068e 12 = .ok (.invokestatic 495, 3) := by decide +kernel
theorem dJ0_charAt_5068e_15 : decode cJ0_charAt_5068e 15 = .ok (.ireturn, 1) := by decide +kernel
theorem dJ0_charAt_5068e_16 : decode cJ0_charAt_5068e 16 = .ok (.aload_n 0, 1) := by decide +kernel
theorem dJ0_charAt_5068e_17 : decode cJ0_charAt_5068e 17 = .ok (.getfield 9, 3) := by decide +kernel
theorem dJ0_charAt_5068e_20 : decode cJ0_charAt_5068e 20 = .ok (.iload_n 1, 1) := by decide +kernel
theorem dJ0_charAt_5068e_21 : decode cJ0_charAt_5068e 21 = .ok (.invokestatic 498, 3) := by decide +kernel
theorem dJ0_charAt_5068e_24 : decode cJ0_charAt_5068e 24 = .ok (.ireturn, 1) := by decide +kernel
set_option maxHeartbeats 4000000 in
set_option maxRecDepth 100000 in
theorem ct_J0_coder {E : xE} {z : Nat} {T : Nat → Nat × Int} {F : Nat → Nat → Int} {I : Nat → Int → Int} {P : Nat → Nat → Option Nat} {Y : Nat → Int → Option Nat} {q0 v0 : Nat} {bs : List Int} (hSt : ∀ u : State, E.2.2.2.2 u → oStr E.2.2.2.1 q0 v0 bs u) {sio : Option Nat} (hZ : ∀ u : State, E.2.2.2.2 u → oSts E.2.2.2.1 sio u) : Ct E 0 mJ0_coder_7d493 0 0 [.ref q0] (z, T, F, I, P, Y) (xd (some (J 0)) (z, T, F, I, P, Y)) := by
  refine Ct.of [some (.ref q0)] kt_J0_coder_7d493 rfl (Nat.le_of_ble_eq_true rfl) rfl (fun d hd => ?_)
  generalize hX : xN E _ _ _ = X
  refine xg_gets 3 (fun u hu => (hZ u hu).1) kS_38 dJ0_coder_7d493_0 rfl ?_
  refine xg_ifeq 13 6 dJ0_coder_7d493_3 rfl rfl (by omega) (fun hb3 => ?_) (fun hb3 => ?_)
  · exfalso; omega
  · skip
    refine xg_aloadn 7 dJ0_coder_7d493_6 rfl rfl rfl ?_
    refine xg_getS 10 (fun u hu => (hSt u hu).2.1) kS_15 dJ0_coder_7d493_7 rfl ?_
    refine xg_goto 14 dJ0_coder_7d493_10 rfl ?_
    subst hX
    exact xg_nreturn dJ0_coder_7d493_14 rfl rfl ⟨Nat.le_refl _, Nat.le_refl _⟩ ⟨rfl, rfl⟩

set_option maxHeartbeats 4000000 in
set_option maxRecDepth 100000 in
theorem ct_J0_isLatin1 {E : xE} {z : Nat} {T : Nat → Nat × Int} {F : Nat → Nat → Int} {I : Nat → Int → Int} {P : Nat → Nat → Option Nat} {Y : Nat → Int → Option Nat} {q0 v0 : Nat} {bs : List Int} (hSt : ∀ u : State, E.2.2.2.2 u → oStr E.2.2.2.1 q0 v0 bs u) {sio : Option Nat} (hZ : ∀ u : State, E.2.2.2.2 u → oSts E.2.2.2.1 sio u) : Ct E 0 mJ0_isLatin1_aae02 0 0 [.ref q0] (z, T, F, I, P, Y) (xd (some (J 1)) (z, T, F, I, P, Y)) := by
  refine Ct.of [some (.ref q0)] kt_J0_isLatin1_aae02 rfl (Nat.le_of_ble_eq_true rfl) rfl (fun d hd => ?_)
  generalize hX : xN E _ _ _ = X
  refine xg_gets 3 (fun u hu => (hZ u hu).1) kS_38 dJ0_isLatin1_aae02_0 rfl ?_
  refine xg_ifeq 17 6 dJ0_isLatin1_aae02_3 rfl rfl (by omega) (fun hb3 => ?_) (fun hb3 => ?_)
  · exfalso; omega
  · skip
    refine xg_aloadn 7 dJ0_isLatin1_aae02_6 rfl rfl rfl ?_
    refine xg_getS 10 (fun u hu => (hSt u hu).2.1) kS_15 dJ0_isLatin1_aae02_7 rfl ?_
    refine xg_ifne 17 13 dJ0_isLatin1_aae02_10 rfl rfl (by omega) (fun hb10 => ?_) (fun hb10 => ?_)
    · exfalso; omega
    · skip
      refine xg_iconst 14 dJ0_isLatin1_aae02_13 rfl ?_
      refine xg_goto 18 dJ0_isLatin1_aae02_14 rfl ?_
      subst hX
      exact xg_zreturn dJ0_isLatin1_aae02_18 rfl (by omega) ⟨Nat.le_refl _, Nat.le_refl _⟩ ⟨rfl, rfl⟩

set_option maxHeartbeats 4000000 in
set_option maxRecDepth 100000 in
theorem ct_J0_length {E : xE} {z : Nat} {T : Nat → Nat × Int} {F : Nat → Nat → Int} {I : Nat → Int → Int} {P : Nat → Nat → Option Nat} {Y : Nat → Int → Option Nat} {q0 v0 : Nat} {bs : List Int} (hSt : ∀ u : State, E.2.2.2.2 u → oStr E.2.2.2.1 q0 v0 bs u) {sio : Option Nat} (hZ : ∀ u : State, E.2.2.2.2 u → oSts E.2.2.2.1 sio u) (hn : bs.length < 1000) : Ct E 1 mJ0_length_8abf5 0 0 [.ref q0] (z, T, F, I, P, Y) (xd (some (J (bs.length : Int))) (z, T, F, I, P, Y)) := by
  refine Ct.of [some (.ref q0)] kt_J0_length_8abf5 rfl (Nat.le_of_ble_eq_true rfl) rfl (fun d hd => ?_)
  generalize hX : xN E _ _ _ = X
  refine xg_aloadn 1 dJ0_length_8abf5_0 rfl rfl rfl ?_
  refine xg_getS 4 (fun u hu => (hSt u hu).2.2.1) kS_9 dJ0_length_8abf5_1 rfl ?_
  refine xg_tlen 5 (fun u hu => (hSt u hu).2.2.2) dJ0_length_8abf5_4 rfl ?_
  refine xg_aloadn 6 dJ0_length_8abf5_5 rfl rfl rfl ?_
  refine xg_callVo 9 (As := []) kv_J0_coder_7d493 rfl (fun u hu => (hSt u hu).1) kl_RJ0_335 dJ0_length_8abf5_6 rfl rfl rfl (Nat.le_of_ble_eq_true rfl) (by omega) ⟨Nat.le_refl _, Nat.le_refl _⟩ (ct_J0_coder hSt hZ) rfl ?_
  refine xg_ishr 10 dJ0_length_8abf5_9 rfl ?_
  rw [show xshr (bs.length : Int) 0 = (bs.length : Int) from by have h9 := xshr_nat (a := bs.length) (r := 0) (by omega) (by omega); rw [Nat.shiftRight_zero] at h9; exact h9]
  subst hX
  exact xg_ireturn dJ0_length_8abf5_10 rfl ⟨Nat.le_refl _, Nat.le_refl _⟩ ⟨rfl, rfl⟩

set_option maxHeartbeats 4000000 in
set_option maxRecDepth 100000 in
theorem ct_J3_check_n {E : xE} {z : Nat} {T : Nat → Nat × Int} {F : Nat → Nat → Int} {I : Nat → Int → Int} {P : Nat → Nat → Option Nat} {Y : Nat → Int → Option Nat} {k len : Nat} (hk : k < len ∧ len < 1000) : Ct E 0 mJ3_checkIndex_8e157 0 0 [J (k : Int), J (len : Int), Value.null] (z, T, F, I, P, Y) (xd (some (J (k : Int))) (z, T, F, I, P, Y)) := by
  refine Ct.of [some (J (k : Int)), some (J (len : Int)), some (Value.null)] kt_J3_checkIndex_8e157 rfl (Nat.le_of_ble_eq_true rfl) rfl (fun d hd => ?_)
  generalize hX : xN E _ _ _ = X
  refine xg_iloadn 1 dJ3_checkIndex_8e157_0 rfl rfl rfl ?_
  refine xg_iflt 9 4 dJ3_checkIndex_8e157_1 rfl rfl (by omega) (fun hb1 => ?_) (fun hb1 => ?_)
  · exfalso; omega
  · skip
    refine xg_iloadn 5 dJ3_checkIndex_8e157_4 rfl rfl rfl ?_
    refine xg_iloadn 6 dJ3_checkIndex_8e157_5 rfl rfl rfl ?_
    refine xg_iclt 16 9 dJ3_checkIndex_8e157_6 rfl rfl (by omega) (fun hb6 => ?_) (fun hb6 => ?_)
    · skip
      refine xg_iloadn 17 dJ3_checkIndex_8e157_16 rfl rfl rfl ?_
      subst hX
      exact xg_ireturn dJ3_checkIndex_8e157_17 rfl ⟨Nat.le_refl _, Nat.le_refl _⟩ ⟨rfl, rfl⟩
    · exfalso; omega

set_option maxHeartbeats 4000000 in
set_option maxRecDepth 100000 in
theorem ct_J0_check_n {E : xE} {z : Nat} {T : Nat → Nat × Int} {F : Nat → Nat → Int} {I : Nat → Int → Int} {P : Nat → Nat → Option Nat} {Y : Nat → Int → Option Nat} (hZ : ∀ u : State, E.2.2.2.2 u → oSts E.2.2.2.1 none u) {k len : Nat} (hk : k < len ∧ len < 1000) : Ct E 1 mJ0_checkIndex_df160 0 0 [J (k : Int), J (len : Int)] (z, T, F, I, P, Y) (xd none (z, T, F, I, P, Y)) := by
  refine Ct.of [some (J (k : Int)), some (J (len : Int))] kt_J0_checkIndex_df160 rfl (Nat.le_of_ble_eq_true rfl) rfl (fun d hd => ?_)
  generalize hX : xN E _ _ _ = X
  refine xg_iloadn 1 dJ0_checkIndex_df160_0 rfl rfl rfl ?_
  refine xg_iloadn 2 dJ0_checkIndex_df160_1 rfl rfl rfl ?_
  refine xg_gets 5 (fun u hu => (hZ u hu).2) kS_1053 dJ0_checkIndex_df160_2 rfl ?_
  refine xg_callS 8 [_, _, _] _ ks_J3_checkIndex_8e157 kl_RJ0_1059 dJ0_checkIndex_df160_5 rfl rfl rfl (Nat.le_of_ble_eq_true rfl) (by omega) ⟨Nat.le_refl _, Nat.le_refl _⟩ (ct_J3_check_n hk) rfl ?_
  refine xg_pop 9 dJ0_checkIndex_df160_8 rfl rfl ?_
  subst hX
  exact xg_return dJ0_checkIndex_df160_9 rfl ⟨Nat.le_refl _, Nat.le_refl _⟩ ⟨rfl, rfl⟩

set_option maxHeartbeats 4000000 in
set_option maxRecDepth 100000 in
theorem ct_J3_check_s {E : xE} {z : Nat} {T : Nat → Nat × Int} {F : Nat → Nat → Int} {I : Nat → Int → Int} {P : Nat → Nat → Option Nat} {Y : Nat → Int → Option Nat} {f0 : Nat} {k len : Nat} (hk : k < len ∧ len < 1000) : Ct E 0 mJ3_checkIndex_8e157 0 0 [J (k : Int), J (len : Int), .ref f0] (z, T, F, I, P, Y) (xd (some (J (k : Int))) (z, T, F, I, P, Y)) := by
  refine Ct.of [some (J (k : Int)), some (J (len : Int)), some (.ref f0)] kt_J3_checkIndex_8e157 rfl (Nat.le_of_ble_eq_true rfl) rfl (fun d hd => ?_)
  generalize hX : xN E _ _ _ = X
  refine xg_iloadn 1 dJ3_checkIndex_8e157_0 rfl rfl rfl ?_
  refine xg_iflt 9 4 dJ3_checkIndex_8e157_1 rfl rfl (by omega) (fun hb1 => ?_) (fun hb1 => ?_)
  · exfalso; omega
  · skip
    refine xg_iloadn 5 dJ3_checkIndex_8e157_4 rfl rfl rfl ?_
    refine xg_iloadn 6 dJ3_checkIndex_8e157_5 rfl rfl rfl ?_
    refine xg_iclt 16 9 dJ3_checkIndex_8e157_6 rfl rfl (by omega) (fun hb6 => ?_) (fun hb6 => ?_)
    · skip
      refine xg_iloadn 17 dJ3_checkIndex_8e157_16 rfl rfl rfl ?_
      subst hX
      exact xg_ireturn dJ3_checkIndex_8e157_17 rfl ⟨Nat.le_refl _, Nat.le_refl _⟩ ⟨rfl, rfl⟩
    · exfalso; omega

set_option maxHeartbeats 4000000 in
set_option maxRecDepth 100000 in
theorem ct_J0_check_s {E : xE} {z : Nat} {T : Nat → Nat × Int} {F : Nat → Nat → Int} {I : Nat → Int → Int} {P : Nat → Nat → Option Nat} {Y : Nat → Int → Option Nat} {f0 : Nat} (hZ : ∀ u : State, E.2.2.2.2 u → oSts E.2.2.2.1 (some f0) u) {k len : Nat} (hk : k < len ∧ len < 1000) : Ct E 1 mJ0_checkIndex_df160 0 0 [J (k : Int), J (len : Int)] (z, T, F, I, P, Y) (xd none (z, T, F, I, P, Y)) := by
  refine Ct.of [some (J (k : Int)), some (J (len : Int))] kt_J0_checkIndex_df160 rfl (Nat.le_of_ble_eq_true rfl) rfl (fun d hd => ?_)
  generalize hX : xN E _ _ _ = X
  refine xg_iloadn 1 dJ0_checkIndex_df160_0 rfl rfl rfl ?_
  refine xg_iloadn 2 dJ0_checkIndex_df160_1 rfl rfl rfl ?_
  refine xg_gets 5 (fun u hu => (hZ u hu).2) kS_1053 dJ0_checkIndex_df160_2 rfl ?_
  refine xg_callS 8 [_, _, _] _ ks_J3_checkIndex_8e157 kl_RJ0_1059 dJ0_checkIndex_df160_5 rfl rfl rfl (Nat.le_of_ble_eq_true rfl) (by omega) ⟨Nat.le_refl _, Nat.le_refl _⟩ (ct_J3_check_s hk) rfl ?_
  refine xg_pop 9 dJ0_checkIndex_df160_8 rfl rfl ?_
  subst hX
  exact xg_return dJ0_checkIndex_df160_9 rfl ⟨Nat.le_refl _, Nat.le_refl _⟩ ⟨rfl, rfl⟩

theorem ct_J0_check {E : xE} {z : Nat} {T : Nat → Nat × Int} {F : Nat → Nat → Int} {I : Nat → Int → Int} {P : Nat → Nat → Option Nat} {Y : Nat → Int → Option Nat} {sio : Option Nat} (hZ : ∀ u : State, E.2.2.2.2 u → oSts E.2.2.2.1 sio u) {k len : Nat} (hk : k < len ∧ len < 1000) : Ct E 1 mJ0_checkIndex_df160 0 0 [J (k : Int), J (len : Int)] (z, T, F, I, P, Y) (xd none (z, T, F, I, P, Y)) := by
  cases sio with
  | none => exact ct_J0_check_n hZ hk
  | some f0 => exact ct_J0_check_s hZ hk
set_option maxHeartbeats 4000000 in
set_option maxRecDepth 100000 in
theorem ct_J1_charAt {E : xE} {z : Nat} {T : Nat → Nat × Int} {F : Nat → Nat → Int} {I : Nat → Int → Int} {P : Nat → Nat → Option Nat} {Y : Nat → Int → Option Nat} {q0 v0 : Nat} {bs : List Int} (hSt : ∀ u : State, E.2.2.2.2 u → oStr E.2.2.2.1 q0 v0 bs u) {sio : Option Nat} (hZ : ∀ u : State, E.2.2.2.2 u → oSts E.2.2.2.1 sio u) (hn : bs.length < 1000) (hA : ∀ j : Nat, 0 ≤ bs.getD j 0 ∧ bs.getD j 0 < 128) {k : Nat} (hk : k < bs.length) : Ct E 2 mJ1_charAt_3b067 0 0 [.ref v0, J (k : Int)] (z, T, F, I, P, Y) (xd (some (J (bs.getD k 0))) (z, T, F, I, P, Y)) := by
  refine Ct.of [some (.ref v0), some (J (k : Int))] kt_J1_charAt_3b067 rfl (Nat.le_of_ble_eq_true rfl) rfl (fun d hd => ?_)
  generalize hX : xN E _ _ _ = X
  refine xg_iloadn 1 dJ1_charAt_3b067_0 rfl rfl rfl ?_
  refine xg_aloadn 2 dJ1_charAt_3b067_1 rfl rfl rfl ?_
  refine xg_tlen 3 (fun u hu => (hSt u hu).2.2.2) dJ1_charAt_3b067_2 rfl ?_
  refine xg_callS 6 [_, _] _ ks_J0_checkIndex_df160 kl_RJ1_9 dJ1_charAt_3b067_3 rfl rfl rfl (Nat.le_of_ble_eq_true rfl) (by omega) ⟨Nat.le_refl _, Nat.le_refl _⟩ (ct_J0_check hZ ⟨hk, hn⟩) rfl ?_
  refine xg_aloadn 7 dJ1_charAt_3b067_6 rfl rfl rfl ?_
  refine xg_iloadn 8 dJ1_charAt_3b067_7 rfl rfl rfl ?_
  refine xg_tb 9 (fun u hu => (hSt u hu).2.2.2) dJ1_charAt_3b067_8 rfl hk (by omega) ?_
  refine xg_sipush 12 dJ1_charAt_3b067_9 rfl (by decide) ?_
  refine xg_iand 13 dJ1_charAt_3b067_12 rfl ?_
  rw [xand255 (hA k)]
  refine xg_i2c 14 dJ1_charAt_3b067_13 rfl (hA k) ?_
  subst hX
  exact xg_nreturn dJ1_charAt_3b067_14 rfl (nch (hA k)) ⟨Nat.le_refl _, Nat.le_refl _⟩ ⟨rfl, rfl⟩

set_option maxHeartbeats 4000000 in
set_option maxRecDepth 100000 in
theorem ct_J0_charAt {E : xE} {z : Nat} {T : Nat → Nat × Int} {F : Nat → Nat → Int} {I : Nat → Int → Int} {P : Nat → Nat → Option Nat} {Y : Nat → Int → Option Nat} {q0 v0 : Nat} {bs : List Int} (hSt : ∀ u : State, E.2.2.2.2 u → oStr E.2.2.2.1 q0 v0 bs u) {sio : Option Nat} (hZ : ∀ u : State, E.2.2.2.2 u → oSts E.2.2.2.1 sio u) (hn : bs.length < 1000) (hA : ∀ j : Nat, 0 ≤ bs.getD j 0 ∧ bs.getD j 0 < 128) {k : Nat} (hk : k < bs.length) : Ct E 3 mJ0_charAt_5068e 0 0 [.ref q0, J (k : Int)] (z, T, F, I, P, Y) (xd (some (J (bs.getD k 0))) (z, T, F, I, P, Y)) := by
  refine Ct.of [some (.ref q0), some (J (k : Int))] kt_J0_charAt_5068e rfl (Nat.le_of_ble_eq_true rfl) rfl (fun d hd => ?_)
  generalize hX : xN E _ _ _ = X
  refine xg_aloadn 1 dJ0_charAt_5068e_0 rfl rfl rfl ?_
  refine xg_callVo 4 (As := []) kv_J0_isLatin1_aae02 rfl (fun u hu => (hSt u hu).1) kl_RJ0_492 dJ0_charAt_5068e_1 rfl rfl rfl (Nat.le_of_ble_eq_true rfl) (by omega) ⟨Nat.le_refl _, Nat.le_refl _⟩ (ct_J0_isLatin1 hSt hZ) rfl ?_
  refine xg_ifeq 16 7 dJ0_charAt_5068e_4 rfl rfl (by omega) (fun hb4 => ?_) (fun hb4 => ?_)
  · exfalso; omega
  · skip
    refine xg_aloadn 8 dJ0_charAt_5068e_7 rfl rfl rfl ?_
    refine xg_getS 11 (fun u hu => (hSt u hu).2.2.1) kS_9 dJ0_charAt_5068e_8 rfl ?_
    refine xg_iloadn 12 dJ0_charAt_5068e_11 rfl rfl rfl ?_
    refine xg_callS 15 [_, _] _ ks_J1_charAt_3b067 kl_RJ0_495 dJ0_charAt_5068e_12 rfl rfl rfl (Nat.le_of_ble_eq_true rfl) (by omega) ⟨Nat.le_refl _, Nat.le_refl _⟩ (ct_J1_charAt hSt hZ hn hA hk) rfl ?_
    subst hX
    exact xg_nreturn dJ0_charAt_5068e_15 rfl (nch (hA k)) ⟨Nat.le_refl _, Nat.le_refl _⟩ ⟨rfl, rfl⟩

