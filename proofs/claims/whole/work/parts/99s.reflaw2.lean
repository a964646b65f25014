section GST
variable {t : Int → Int} {e q : Int} {k : Nat} {acc cs c1 c2 : List (Int × Int)} {f q1 q2 : Int}
theorem gPt_ok (hq : q ≤ e) : gOk e q (gPt t e q) := by
  unfold gPt
  cases hp : gPart t e q with
  | none => exact ⟨by omega, by omega⟩
  | some c =>
    have b2 := gPart_ok hp
    have b3 := zX_b (t := t) b2.1
    exact ⟨b3.1, b3.2, by show ((1 : Nat) : Int) ≤ _; omega, fun d hd => by rw [List.mem_singleton.mp hd]; exact b2.2.1⟩
theorem rRes.cg {E : xE} {m z kk : Nat} {T : Nat → Nat × Int} {F : Nat → Nat → Int} {I : Nat → Int → Int} {P : Nat → Nat → Option Nat} {Y : Nat → Int → Option Nat} {d c : Int} {w : Int → Int} {M : xM} {As : List Value} {hh : xH} {x y : gRz} (h : x = y) (ct : Ct E kk M 0 0 As hh (rRes m z T F I P Y t e d c w x)) : Ct E kk M 0 0 As hh (rRes m z T F I P Y t e d c w y) := h ▸ ct
theorem gAll_ok {p : Int → gRz} (hp : ∀ q : Int, q ≤ e → gOk e q (p q)) {q : Int} (hq : q ≤ e) : gOk e q (gAll t e p q) := gMany_ok (by omega) (by omega) hp hq
theorem gSum_n (h : gPt t e q = .inl f) : gSum t e q = .inl f := by
  unfold gPt at h; unfold gSum
  cases hp : gPart t e q with
  | none => rw [hp] at h; exact h
  | some c => rw [hp] at h; cases h
theorem gSum_s (h : gPt t e q = .inr (cs, q1)) : gSum t e q = gTail t e 400 q1 cs := by
  unfold gPt at h; unfold gSum
  cases hp : gPart t e q with
  | none => rw [hp] at h; cases h
  | some c => rw [hp] at h; cases h; rfl
theorem gTail_n (hk : zK t e q = 143) (h : gPt t e (zX t e q) = .inl f) : gTail t e (k + 1) q acc = .inl f := by
  unfold gPt at h; rw [gTail, if_pos hk]
  cases hp : gPart t e (zX t e q) with
  | none => rw [hp] at h; exact h
  | some c => rw [hp] at h; cases h
theorem gTail_s (hk : zK t e q = 143) (h : gPt t e (zX t e q) = .inr (cs, q1)) : gTail t e (k + 1) q acc = gTail t e k q1 (acc ++ cs ++ [(11, 0)]) := by
  unfold gPt at h; rw [gTail, if_pos hk]
  cases hp : gPart t e (zX t e q) with
  | none => rw [hp] at h; cases h
  | some c => rw [hp] at h; cases h; rw [List.append_assoc]; rfl
theorem gMore_n {k2 c : Int} {p : Int → gRz} (hk : zK t e q = k2) (h : p (zX t e q) = .inl f) : gMore t e k2 c p (k + 1) q acc = .inl f := by rw [gMore, if_pos hk, h]
theorem gMore_s {k2 c : Int} {p : Int → gRz} (hk : zK t e q = k2) (h : p (zX t e q) = .inr (cs, q1)) : gMore t e k2 c p (k + 1) q acc = gMore t e k2 c p k q1 (acc ++ cs ++ [(c, 0)]) := by rw [gMore, if_pos hk, h]
theorem gMany_n {k2 c : Int} {p : Int → gRz} (h : p q = .inl f) : gMany t e k2 c p q = .inl f := by unfold gMany; rw [h]
theorem gMany_s {k2 c : Int} {p : Int → gRz} (h : p q = .inr (cs, q1)) : gMany t e k2 c p q = gMore t e k2 c p 400 q1 cs := by unfold gMany; rw [h]
theorem gComp_1 (h : gSum t e q = .inl f) : gComp t e q = .inl f := by unfold gComp; rw [h]
theorem gComp_2 (h : gSum t e q = .inr (c1, q1)) (hk : ¬ (zK t e q1 = 160 ∨ zK t e q1 = 162)) : gComp t e q = .inl q1 := by unfold gComp; rw [h]; exact if_neg hk
theorem gComp_3 (h : gSum t e q = .inr (c1, q1)) (hk : zK t e q1 = 160 ∨ zK t e q1 = 162) (h2 : gSum t e (zX t e q1) = .inl f) : gComp t e q = .inl f := by
  unfold gComp; rw [h]; show (if zK t e q1 = 160 ∨ zK t e q1 = 162 then (match gSum t e (zX t e q1) with
      | .inl f => (.inl f : gRz)
      | .inr (c2, q2) => .inr (c1 ++ c2 ++ [(if zK t e q1 = 160 then 12 else 13, 0)], q2)) else .inl q1) = _
  rw [if_pos hk, h2]
theorem gComp_4 (h : gSum t e q = .inr (c1, q1)) {o : Int} (hk : (zK t e q1 = 160 ∧ o = 12) ∨ (zK t e q1 = 162 ∧ o = 13)) (h2 : gSum t e (zX t e q1) = .inr (c2, q2)) : gComp t e q = .inr (c1 ++ c2 ++ [(o, 0)], q2) := by
  unfold gComp; rw [h]; show (if zK t e q1 = 160 ∨ zK t e q1 = 162 then (match gSum t e (zX t e q1) with
      | .inl f => (.inl f : gRz)
      | .inr (c2, q2) => .inr (c1 ++ c2 ++ [(if zK t e q1 = 160 then 12 else 13, 0)], q2)) else .inl q1) = _
  rw [if_pos (by omega), h2]
  show (Sum.inr (c1 ++ c2 ++ [(if zK t e q1 = 160 then (12 : Int) else 13, (0 : Int))], q2) : gRz) = _
  rw [show (if zK t e q1 = 160 then (12 : Int) else 13) = o by split <;> omega]
theorem gAtom_leaf (h1 : zK t e q ≠ 20) (h2 : zK t e q ≠ 140) : ∀ r : Nat, gAtom t e r q = gLeaf t e q
  | 0 => by rw [gAtom, if_neg (by omega)]
  | r + 1 => by rw [gAtom, if_neg h1, if_neg h2]
theorem gLeaf_t (h : 7 ≤ zK t e q ∧ zK t e q ≤ 9) : gLeaf t e q = .inr ([(zK t e q, 0)], zX t e q) := if_pos h
theorem gLeaf_f (h : ¬ (7 ≤ zK t e q ∧ zK t e q ≤ 9)) : gLeaf t e q = gComp t e q := if_neg h
theorem gAtom_n0 (h : zK t e q = 20 ∨ zK t e q = 140) : gAtom t e 0 q = .inl q := by rw [gAtom, if_pos h]
theorem gAtom_1 (h1 : zK t e q = 20) (h : gAtom t e k (zX t e q) = .inl f) : gAtom t e (k + 1) q = .inl f := by rw [gAtom, if_pos h1, h]
theorem gAtom_2 (h1 : zK t e q = 20) (h : gAtom t e k (zX t e q) = .inr (cs, q1)) : gAtom t e (k + 1) q = .inr (cs ++ [(14, 0)], q1) := by rw [gAtom, if_pos h1, h]
theorem gAtom_3 (h1 : zK t e q = 140) (h : gAny t e (gAtom t e k) (zX t e q) = .inl f) : gAtom t e (k + 1) q = .inl f := by rw [gAtom, if_neg (by omega), if_pos h1, h]
theorem gAtom_4 (h1 : zK t e q = 140) (h : gAny t e (gAtom t e k) (zX t e q) = .inr (cs, q1)) (h2 : zK t e q1 = 141) : gAtom t e (k + 1) q = .inr (cs, zX t e q1) := by rw [gAtom, if_neg (by omega), if_pos h1, h]; exact if_pos h2
theorem gAtom_5 (h1 : zK t e q = 140) (h : gAny t e (gAtom t e k) (zX t e q) = .inr (cs, q1)) (h2 : zK t e q1 ≠ 141) : gAtom t e (k + 1) q = .inl q1 := by rw [gAtom, if_neg (by omega), if_pos h1, h]; exact if_neg h2
end GST
theorem dX12_readSum_0 : decode cX12_readSum 0 = .ok (.aload_n 0, 1) := by decide +kernel
theorem dX12_readSum_1 : decode cX12_readSum 1 = .ok (.invokevirtual 190, 3) := by decide +kernel
theorem dX12_readSum_4 : decode cX12_readSum 4 = .ok (.ifCond .ne 5, 3) := by decide +kernel
theorem dX12_readSum_7 : decode cX12_readSum 7 = .ok (.iconst 0, 1) := by decide +kernel
theorem dX12_readSum_8 : decode cX12_readSum 8 = .ok (.ireturn, 1) := by decide +kernel
theorem dX12_readSum_9 : decode cX12_readSum 9 = .ok (.aload_n 0, 1) := by decide +kernel
theorem dX12_readSum_10 : decode cX12_readSum 10 = .ok (.bipush 43, 2) := by decide +kernel
theorem dX12_readSum_12 : decode cX12_readSum 12 = .ok (.invokevirtual 193, 3) := by decide +kernel
theorem dX12_readSum_15 : decode cX12_readSum 15 = .ok (.ifCond .eq 22, 3) := by decide +kernel
theorem dX12_readSum_18 : decode cX12_readSum 18 = .ok (.aload_n 0, 1) := by decide +kernel
theorem dX12_readSum_19 : decode cX12_readSum 19 = .ok (.invokevirtual 190, 3) := by decide +kernel
theorem dX12_readSum_22 : decode cX12_readSum 22 = .ok (.ifCond .ne 5, 3) := by decide +kernel
theorem dX12_readSum_25 : decode cX12_readSum 25 = .ok (.iconst 0, 1) := by decide +kernel
theorem dX12_readSum_26 : decode cX12_readSum 26 = .ok (.ireturn, 1) := by decide +kernel
theorem dX12_readSum_27 : decode cX12_readSum 27 = .ok (.aload_n 0, 1) := by decide +kernel
theorem dX12_readSum_28 : decode cX12_readSum 28 = .ok (.bipush 11, 2) := by decide +kernel
theorem dX12_readSum_30 : decode cX12_readSum 30 = .ok (.iconst 0, 1) := by decide +kernel
theorem dX12_readSum_31 : decode cX12_readSum 31 = .ok (.invokevirtual 186, 3) := by decide +kernel
theorem dX12_readSum_34 : decode cX12_readSum 34 = .ok (.goto (-25), 3) := by decide +kernel
theorem dX12_readSum_37 : decode cX12_readSum 37 = .ok (.iconst 1, 1) := by decide +kernel
theorem dX12_readSum_38 : decode cX12_readSum 38 = .ok (.ireturn, 1) := by decide +kernel
theorem dX12_readAllOf_0 : decode cX12_readAllOf 0 = .ok (.aload_n 0, 1) := by decide +kernel
theorem dX12_readAllOf_1 : decode cX12_readAllOf 1 = .ok (.invokevirtual 212, 3) := by decide +kernel
theorem dX12_readAllOf_4 : decode cX12_readAllOf 4 = .ok (.ifCond .ne 5, 3) := by decide +kernel
theorem dX12_readAllOf_7 : decode cX12_readAllOf 7 = .ok (.iconst 0, 1) := by decide +kernel
theorem dX12_readAllOf_8 : decode cX12_readAllOf 8 = .ok (.ireturn, 1) := by decide +kernel
theorem dX12_readAllOf_9 : decode cX12_readAllOf 9 = .ok (.aload_n 0, 1) := by decide +kernel
theorem dX12_readAllOf_10 : decode cX12_readAllOf 10 = .ok (.ldc 221, 2) := by decide +kernel
theorem dX12_readAllOf_12 : decode cX12_readAllOf 12 = .ok (.invokevirtual 209, 3) := by decide +kernel
theorem dX12_readAllOf_15 : decode cX12_readAllOf 15 = .ok (.ifCond .eq 22, 3) := by decide +kernel
theorem dX12_readAllOf_18 : decode cX12_readAllOf 18 = .ok (.aload_n 0, 1) := by decide +kernel
theorem dX12_readAllOf_19 : decode cX12_readAllOf 19 = .ok (.invokevirtual 212, 3) := by decide +kernel
theorem dX12_readAllOf_22 : decode cX12_readAllOf 22 = .ok (.ifCond .ne 5, 3) := by decide +kernel
theorem dX12_readAllOf_25 : decode cX12_readAllOf 25 = .ok (.iconst 0, 1) := by decide +kernel
theorem dX12_readAllOf_26 : decode cX12_readAllOf 26 = .ok (.ireturn, 1) := by decide +kernel
theorem dX12_readAllOf_27 : decode cX12_readAllOf 27 = .ok (.aload_n 0, 1) := by decide +kernel
theorem dX12_readAllOf_28 : decode cX12_readAllOf 28 = .ok (.bipush 15, 2) := by decide +kernel
theorem dX12_readAllOf_30 : decode cX12_readAllOf 30 = .ok (.iconst 0, 1) := by decide +kernel
theorem dX12_readAllOf_31 : decode cX12_readAllOf 31 = .ok (.invokevirtual 186, 3) := by decide +kernel
theorem dX12_readAllOf_34 : decode cX12_readAllOf 34 = .ok (.goto (-25), 3) := by decide +kernel
theorem dX12_readAllOf_37 : decode cX12_readAllOf 37 = .ok (.iconst 1, 1) := by decide +kernel
theorem dX12_readAllOf_38 : decode cX12_readAllOf 38 = .ok (.ireturn, 1) := by decide +kernel
theorem dX12_readCond_0 : decode cX12_readCond 0 = .ok (.aload_n 0, 1) := by decide +kernel
theorem dX12_readCond_1 : decode cX12_readCond 1 = .ok (.invokevirtual 223, 3) := by decide +kernel
theorem dX12_readCond_4 : decode cX12_readCond 4 = .ok (.ifCond .ne 5, 3) := by decide +kernel
theorem dX12_readCond_7 : decode cX12_readCond 7 = .ok (.iconst 0, 1) := by decide +kernel
theorem dX12_readCond_8 : decode cX12_readCond 8 = .ok (.ireturn, 1) := by decide +kernel
theorem dX12_readCond_9 : decode cX12_readCond 9 = .ok (.aload_n 0, 1) := by decide +kernel
theorem dX12_readCond_10 : decode cX12_readCond 10 = .ok (.ldc 226, 2) := by decide +kernel
theorem dX12_readCond_12 : decode cX12_readCond 12 = .ok (.invokevirtual 209, 3) := by decide +kernel
theorem dX12_readCond_15 : decode cX12_readCond 15 = .ok (.ifCond .eq 22, 3) := by decide +kernel
theorem dX12_readCond_18 : decode cX12_readCond 18 = .ok (.aload_n 0, 1) := by decide +kernel
theorem dX12_readCond_19 : decode cX12_readCond 19 = .ok (.invokevirtual 223, 3) := by decide +kernel
theorem dX12_readCond_22 : decode cX12_readCond 22 = .ok (.ifCond .ne 5, 3) := by decide +kernel
theorem dX12_readCond_25 : decode cX12_readCond 25 = .ok (.iconst 0, 1) := by decide +kernel
theorem dX12_readCond_26 : decode cX12_readCond 26 = .ok (.ireturn, 1) := by decide +kernel
theorem dX12_readCond_27 : decode cX12_readCond 27 = .ok (.aload_n 0, 1) := by decide +kernel
theorem dX12_readCond_28 : decode cX12_readCond 28 = .ok (.bipush 16, 2) := by decide +kernel
theorem dX12_readCond_30 : decode cX12_readCond 30 = .ok (.iconst 0, 1) := by decide +kernel
theorem dX12_readCond_31 : decode cX12_readCond 31 = .ok (.invokevirtual 186, 3) := by decide +kernel
theorem dX12_readCond_34 : decode cX12_readCond 34 = .ok (.goto (-25), 3) := by decide +kernel
theorem dX12_readCond_37 : decode cX12_readCond 37 = .ok (.iconst 1, 1) := by decide +kernel
theorem dX12_readCond_38 : decode cX12_readCond 38 = .ok (.ireturn, 1) := by decide +kernel
theorem dX12_readAtom_0 : decode cX12_readAtom 0 = .ok (.aload_n 0, 1) := by decide +kernel
theorem dX12_readAtom_1 : decode cX12_readAtom 1 = .ok (.bipush 40, 2) := by decide +kernel
theorem dX12_readAtom_3 : decode cX12_readAtom 3 = .ok (.invokevirtual 193, 3) := by decide +kernel
theorem dX12_readAtom_6 : decode cX12_readAtom 6 = .ok (.ifCond .eq 50, 3) := by decide +kernel
theorem dX12_readAtom_9 : decode cX12_readAtom 9 = .ok (.aload_n 0, 1) := by decide +kernel
theorem dX12_readAtom_10 : decode cX12_readAtom 10 = .ok (.getfield 201, 3) := by decide +kernel
theorem dX12_readAtom_13 : decode cX12_readAtom 13 = .ok (.bipush 6, 2) := by decide +kernel
theorem dX12_readAtom_15 : decode cX12_readAtom 15 = .ok (.if_icmp .ne 5, 3) := by decide +kernel
theorem dX12_readAtom_18 : decode cX12_readAtom 18 = .ok (.iconst 0, 1) := by decide +kernel
theorem dX12_readAtom_19 : decode cX12_readAtom 19 = .ok (.ireturn, 1) := by decide +kernel
theorem dX12_readAtom_20 : decode cX12_readAtom 20 = .ok (.aload_n 0, 1) := by decide +kernel
theorem dX12_readAtom_21 : decode cX12_readAtom 21 = .ok (.dup, 1) := by decide +kernel
theorem dX12_readAtom_22 : decode cX12_readAtom 22 = .ok (.getfield 201, 3) := by decide +kernel
theorem dX12_readAtom_25 : decode cX12_readAtom 25 = .ok (.iconst 1, 1) := by decide +kernel
theorem dX12_readAtom_26 : decode cX12_readAtom 26 = .ok (.iadd, 1) := by decide +kernel
theorem dX12_readAtom_27 : decode cX12_readAtom 27 = .ok (.putfield 201, 3) := by decide +kernel
theorem dX12_readAtom_30 : decode cX12_readAtom 30 = .ok (.aload_n 0, 1) := by decide +kernel
theorem dX12_readAtom_31 : decode cX12_readAtom 31 = .ok (.invokevirtual 204, 3) := by decide +kernel
theorem dX12_readAtom_34 : decode cX12_readAtom 34 = .ok (.ifCond .ne 5, 3) := by decide +kernel
theorem dX12_readAtom_37 : decode cX12_readAtom 37 = .ok (.iconst 0, 1) := by decide +kernel
theorem dX12_readAtom_38 : decode cX12_readAtom 38 = .ok (.ireturn, 1) := by decide +kernel
theorem dX12_readAtom_39 : decode cX12_readAtom 39 = .ok (.aload_n 0, 1) := by decide +kernel
theorem dX12_readAtom_40 : decode cX12_readAtom 40 = .ok (.dup, 1) := by decide +kernel
theorem dX12_readAtom_41 : decode cX12_readAtom 41 = .ok (.getfield 201, 3) := by decide +kernel
theorem dX12_readAtom_44 : decode cX12_readAtom 44 = .ok (.iconst 1, 1) := by decide +kernel
theorem dX12_readAtom_45 : decode cX12_readAtom 45 = .ok (.isub, 1) := by decide +kernel
theorem dX12_readAtom_46 : decode cX12_readAtom 46 = .ok (.putfield 201, 3) := by decide +kernel
theorem dX12_readAtom_49 : decode cX12_readAtom 49 = .ok (.aload_n 0, 1) := by decide +kernel
theorem dX12_readAtom_50 : decode cX12_readAtom 50 = .ok (.bipush 41, 2) := by decide +kernel
theorem dX12_readAtom_52 : decode cX12_readAtom 52 = .ok (.invokevirtual 193, 3) := by decide +kernel
theorem dX12_readAtom_55 : decode cX12_readAtom 55 = .ok (.ireturn, 1) := by decide +kernel
theorem dX12_readAtom_56 : decode cX12_readAtom 56 = .ok (.aload_n 0, 1) := by decide +kernel
theorem dX12_readAtom_57 : decode cX12_readAtom 57 = .ok (.ldc 207, 2) := by decide +kernel
theorem dX12_readAtom_59 : decode cX12_readAtom 59 = .ok (.invokevirtual 209, 3) := by decide +kernel
theorem dX12_readAtom_62 : decode cX12_readAtom 62 = .ok (.ifCond .eq 52, 3) := by decide +kernel
theorem dX12_readAtom_65 : decode cX12_readAtom 65 = .ok (.aload_n 0, 1) := by decide +kernel
theorem dX12_readAtom_66 : decode cX12_readAtom 66 = .ok (.getfield 201, 3) := by decide +kernel
theorem dX12_readAtom_69 : decode cX12_readAtom 69 = .ok (.bipush 6, 2) := by decide +kernel
theorem dX12_readAtom_71 : decode cX12_readAtom 71 = .ok (.if_icmp .ne 5, 3) := by decide +kernel
theorem dX12_readAtom_74 : decode cX12_readAtom 74 = .ok (.iconst 0, 1) := by decide +kernel
theorem dX12_readAtom_75 : decode cX12_readAtom 75 = .ok (.ireturn, 1) := by decide +kernel
theorem dX12_readAtom_76 : decode cX12_readAtom 76 = .ok (.aload_n 0, 1) := by decide +kernel
theorem dX12_readAtom_77 : decode cX12_readAtom 77 = .ok (.dup, 1) := by decide +kernel
theorem dX12_readAtom_78 : decode cX12_readAtom 78 = .ok (.getfield 201, 3) := by decide +kernel
theorem dX12_readAtom_81 : decode cX12_readAtom 81 = .ok (.iconst 1, 1) := by decide +kernel
theorem dX12_readAtom_82 : decode cX12_readAtom 82 = .ok (.iadd, 1) := by decide +kernel
theorem dX12_readAtom_83 : decode cX12_readAtom 83 = .ok (.putfield 201, 3) := by decide +kernel
theorem dX12_readAtom_86 : decode cX12_readAtom 86 = .ok (.aload_n 0, 1) := by decide +kernel
theorem dX12_readAtom_87 : decode cX12_readAtom 87 = .ok (.invokevirtual 212, 3) := by decide +kernel
theorem dX12_readAtom_90 : decode cX12_readAtom 90 = .ok (.ifCond .ne 5, 3) := by decide +kernel
theorem dX12_readAtom_93 : decode cX12_readAtom 93 = .ok (.iconst 0, 1) := by decide +kernel
theorem dX12_readAtom_94 : decode cX12_readAtom 94 = .ok (.ireturn, 1) := by decide +kernel
theorem dX12_readAtom_95 : decode cX12_readAtom 95 = .ok (.aload_n 0, 1) := by decide +kernel
theorem dX12_readAtom_96 : decode cX12_readAtom 96 = .ok (.dup, 1) := by decide +kernel
theorem dX12_readAtom_97 : decode cX12_readAtom 97 = .ok (.getfield 201, 3) := by decide +kernel
theorem dX12_readAtom_100 : decode cX12_readAtom 100 = .ok (.iconst 1, 1) := by decide +kernel
theorem dX12_readAtom_101 : decode cX12_readAtom 101 = .ok (.isub, 1) := by decide +kernel
theorem dX12_readAtom_102 : decode cX12_readAtom 102 = .ok (.putfield 201, 3) := by decide +kernel
theorem dX12_readAtom_105 : decode cX12_readAtom 105 = .ok (.aload_n 0, 1) := by decide +kernel
theorem dX12_readAtom_106 : decode cX12_readAtom 106 = .ok (.bipush 14, 2) := by decide +kernel
theorem dX12_readAtom_108 : decode cX12_readAtom 108 = .ok (.iconst 0, 1) := by decide +kernel
theorem dX12_readAtom_109 : decode cX12_readAtom 109 = .ok (.invokevirtual 186, 3) := by decide +kernel
theorem dX12_readAtom_112 : decode cX12_readAtom 112 = .ok (.iconst 1, 1) := by decide +kernel
theorem dX12_readAtom_113 : decode cX12_readAtom 113 = .ok (.ireturn, 1) := by decide +kernel
theorem dX12_readAtom_114 : decode cX12_readAtom 114 = .ok (.aload_n 0, 1) := by decide +kernel
theorem dX12_readAtom_115 : decode cX12_readAtom 115 = .ok (.invokevirtual 215, 3) := by decide +kernel
theorem dX12_readAtom_118 : decode cX12_readAtom 118 = .ok (.ifCond .eq 5, 3) := by decide +kernel
theorem dX12_readAtom_121 : decode cX12_readAtom 121 = .ok (.iconst 1, 1) := by decide +kernel
theorem dX12_readAtom_122 : decode cX12_readAtom 122 = .ok (.ireturn, 1) := by decide +kernel
theorem dX12_readAtom_123 : decode cX12_readAtom 123 = .ok (.aload_n 0, 1) := by decide +kernel
theorem dX12_readAtom_124 : decode cX12_readAtom 124 = .ok (.invokevirtual 218, 3) := by decide +kernel
theorem dX12_readAtom_127 : decode cX12_readAtom 127 = .ok (.ifCond .ne 5, 3) := by decide +kernel
theorem dX12_readAtom_130 : decode cX12_readAtom 130 = .ok (.iconst 0, 1) := by decide +kernel
theorem dX12_readAtom_131 : decode cX12_readAtom 131 = .ok (.ireturn, 1) := by decide +kernel
theorem dX12_readAtom_132 : decode cX12_readAtom 132 = .ok (.aload_n 0, 1) := by decide +kernel
theorem dX12_readAtom_133 : decode cX12_readAtom 133 = .ok (.bipush 60, 2) := by decide +kernel
theorem dX12_readAtom_135 : decode cX12_readAtom 135 = .ok (.invokevirtual 193, 3) := by decide +kernel
theorem dX12_readAtom_138 : decode cX12_readAtom 138 = .ok (.istore_n 1, 1) := by decide +kernel
theorem dX12_readAtom_139 : decode cX12_readAtom 139 = .ok (.iload_n 1, 1) := by decide +kernel
theorem dX12_readAtom_140 : decode cX12_readAtom 140 = .ok (.ifCond .ne 12, 3) := by decide +kernel
theorem dX12_readAtom_143 : decode cX12_readAtom 143 = .ok (.aload_n 0, 1) := by decide +kernel
theorem dX12_readAtom_144 : decode cX12_readAtom 144 = .ok (.bipush 62, 2) := by decide +kernel
theorem dX12_readAtom_146 : decode cX12_readAtom 146 = .ok (.invokevirtual 193, 3) := by decide +kernel
theorem dX12_readAtom_149 : decode cX12_readAtom 149 = .ok (.ifCond .eq 10, 3) := by decide +kernel
theorem dX12_readAtom_152 : decode cX12_readAtom 152 = .ok (.aload_n 0, 1) := by decide +kernel
theorem dX12_readAtom_153 : decode cX12_readAtom 153 = .ok (.invokevirtual 218, 3) := by decide +kernel
theorem dX12_readAtom_156 : decode cX12_readAtom 156 = .ok (.ifCond .ne 5, 3) := by decide +kernel
theorem dX12_readAtom_159 : decode cX12_readAtom 159 = .ok (.iconst 0, 1) := by decide +kernel
theorem dX12_readAtom_160 : decode cX12_readAtom 160 = .ok (.ireturn, 1) := by decide +kernel
theorem dX12_readAtom_161 : decode cX12_readAtom 161 = .ok (.aload_n 0, 1) := by decide +kernel
theorem dX12_readAtom_162 : decode cX12_readAtom 162 = .ok (.iload_n 1, 1) := by decide +kernel
theorem dX12_readAtom_163 : decode cX12_readAtom 163 = .ok (.ifCond .eq 8, 3) := by decide +kernel
theorem dX12_readAtom_166 : decode cX12_readAtom 166 = .ok (.bipush 12, 2) := by decide +kernel
theorem dX12_readAtom_168 : decode cX12_readAtom 168 = .ok (.goto 5, 3) := by decide +kernel
theorem dX12_readAtom_171 : decode cX12_readAtom 171 = .ok (.bipush 13, 2) := by decide +kernel
theorem dX12_readAtom_173 : decode cX12_readAtom 173 = .ok (.iconst 0, 1) := by decide +kernel
theorem dX12_readAtom_174 : decode cX12_readAtom 174 = .ok (.invokevirtual 186, 3) := by decide +kernel
theorem dX12_readAtom_177 : decode cX12_readAtom 177 = .ok (.iconst 1, 1) := by decide +kernel
theorem dX12_readAtom_178 : decode cX12_readAtom 178 = .ok (.ireturn, 1) := by decide +kernel
set_option maxHeartbeats 4000000 in
set_option maxRecDepth 100000 in
theorem ct_X12_readTag_t {E : xE} {z : Nat} {T : Nat → Nat × Int} {F : Nat → Nat → Int} {I : Nat → Int → Int} {P : Nat → Nat → Option Nat} {Y : Nat → Int → Option Nat} {m : Nat} {w : Int → Int} (hw : wM T P m) (hT : ∀ j : Int, -128 ≤ I (m + 6) j ∧ I (m + 6) j ≤ 127) {t : Int → Int} {e : Int} (ht : rTp t (I (m + 6)) e) (he : 0 ≤ e ∧ e ≤ 400) (h11 : F m 11 = e) {p b dp c q : Int} (hp : 0 ≤ p ∧ p ≤ e) (hq : zSk t e p = q) {ad adv : Nat → Nat} {sio : Option Nat} (hW : ∀ u : State, E.2.2.2.2 u → oWs E.2.2.2.1 ad adv sio u) (hR : w32 w) (hc : 0 ≤ c ∧ c + 1 ≤ q) (h79 : 7 ≤ zK t e q ∧ zK t e q ≤ 9) : Ct E 5 mX12_readTag 0 0 [.ref m] (z, T, fR F m (p) (b) (dp) (c), upA I (m + 1) (w), P, Y) (rOk m z T F I P Y t e dp c w [(zK t e q, 0)] (zX t e q)) := by
  obtain ⟨⟨q0, q1, q2, q3⟩, -⟩ := id hw
  have hqb := zSk_b (t := t) hp.2
  rw [hq] at hqb
  have htb : ∀ j : Int, 0 ≤ j → j < e → 0 ≤ t j ∧ t j ≤ 255 := fun j a b => (ht j a b).1
  have hqq := zSk_at hp he.2 hq
  refine Ct.of [some (.ref m), none] kt_X12_readTag rfl (Nat.le_of_ble_eq_true rfl) rfl (fun d hd => ?_)
  generalize hX : xN E _ _ _ = X
  refine xg_aloadn 1 dX12_readTag_0 rfl rfl rfl ?_
  refine xg_callV 4 12 [] _ kv_X12_letters ⟨_, _, rfl⟩ kl_RX12_108 dX12_readTag_1 rfl (by assumption) (by omega) rfl rfl (Nat.le_of_ble_eq_true rfl) (by omega) ⟨Nat.le_refl _, Nat.le_refl _⟩ (cr_letters hw hT ht he h11 hp hq) rfl ?_
  refine xg_aloadn 5 dX12_readTag_4 rfl rfl rfl ?_
  refine xg_ldcS 7 rfl (fun u hu => oWs_197 (hW u hu)) dX12_readTag_5 rfl ?_
  refine xg_callV 10 12 [_] _ kv_X12_isWord ⟨_, _, rfl⟩ kl_RX12_111 dX12_readTag_7 rfl (by assumption) (by omega) rfl rfl (Nat.le_of_ble_eq_true rfl) (by omega) ⟨Nat.le_refl _, Nat.le_refl _⟩ (cr_isWord hw hT ht he h11 (by omega) hW (i := 7) (by omega)) rfl ?_
  refine xg_deq 18 13 dX12_readTag_10 rfl rfl (fun hb10 => ?_) (fun hb10 => ?_)
  · skip
    refine xg_aloadn 19 dX12_readTag_18 rfl rfl rfl ?_
    refine xg_ldcS 21 rfl (fun u hu => oWs_165 (hW u hu)) dX12_readTag_19 rfl ?_
    refine xg_callV 24 12 [_] _ kv_X12_isWord ⟨_, _, rfl⟩ kl_RX12_111 dX12_readTag_21 rfl (by assumption) (by omega) rfl rfl (Nat.le_of_ble_eq_true rfl) (by omega) ⟨Nat.le_refl _, Nat.le_refl _⟩ (cr_isWord hw hT ht he h11 (by omega) hW (i := 8) (by omega)) rfl ?_
    refine xg_deq 32 27 dX12_readTag_24 rfl rfl (fun hb24 => ?_) (fun hb24 => ?_)
    · skip
      refine xg_aloadn 33 dX12_readTag_32 rfl rfl rfl ?_
      refine xg_ldcS 35 rfl (fun u hu => oWs_199 (hW u hu)) dX12_readTag_33 rfl ?_
      refine xg_callV 38 12 [_] _ kv_X12_isWord ⟨_, _, rfl⟩ kl_RX12_111 dX12_readTag_35 rfl (by assumption) (by omega) rfl rfl (Nat.le_of_ble_eq_true rfl) (by omega) ⟨Nat.le_refl _, Nat.le_refl _⟩ (cr_isWord hw hT ht he h11 (by omega) hW (i := 9) (by omega)) rfl ?_
      refine xg_deq 46 41 dX12_readTag_38 rfl rfl (fun hb38 => ?_) (fun hb38 => ?_)
      · skip
        exfalso; omega
      · skip
        have hkl : zLt t e q = zLen t q e := (zK_word (i := 9) (by omega) (by omega) htb (by omega)).2
        refine xg_bipush 43 dX12_readTag_41 rfl (by decide) ?_
        refine xg_goto 47 dX12_readTag_43 rfl ?_
        refine xg_istoren 48 _ dX12_readTag_47 rfl rfl rfl (by decide) (Or.inr rfl) ?_
        refine xg_iloadn 49 dX12_readTag_48 rfl rfl rfl ?_
        refine xg_iflt 61 52 dX12_readTag_49 rfl rfl (by omega) (fun hb49 => ?_) (fun hb49 => ?_)
        · exfalso; omega
        · skip
          refine xg_aloadn 53 dX12_readTag_52 rfl rfl rfl ?_
          refine xg_iloadn 54 dX12_readTag_53 rfl rfl rfl ?_
          refine xg_iconst 55 dX12_readTag_54 rfl ?_
          refine xg_callV 58 12 [_, _] _ kv_X12_emits ⟨_, _, rfl⟩ kl_RX12_186 dX12_readTag_55 rfl (by assumption) (by omega) rfl rfl (Nat.le_of_ble_eq_true rfl) (by omega) ⟨Nat.le_refl _, Nat.le_refl _⟩ (cr_emits hw hT ht he h11 (by omega)) rfl ?_
          refine xg_goto 69 dX12_readTag_58 rfl ?_
          refine xg_iloadn 70 dX12_readTag_69 rfl rfl rfl ?_
          refine xg_iflt 77 73 dX12_readTag_70 rfl rfl (by omega) (fun hb70 => ?_) (fun hb70 => ?_)
          · exfalso; omega
          · skip
            refine xg_iconst 74 dX12_readTag_73 rfl ?_
            refine xg_goto 78 dX12_readTag_74 rfl ?_
            subst hX
            exact xg_zreturn dX12_readTag_78 rfl (by first | exact bI_01 _ | omega) ⟨Nat.le_refl _, Nat.le_refl _⟩ ⟨rfl, _, _, _, _, by rw [hkl]; rfl, (by have := zLt_b (t := t) hqb.2; omega), rfl, (by (first | rw [show zK t e q = 7 by omega] | rw [show zK t e q = 8 by omega] | rw [show zK t e q = 9 by omega]); exact pW.em (by omega)), w32_em hR (by omega) (by omega), rfl⟩
    · skip
      have hkl : zLt t e q = zLen t q e := (zK_word (i := 8) (by omega) (by omega) htb (by omega)).2
      refine xg_bipush 29 dX12_readTag_27 rfl (by decide) ?_
      refine xg_goto 47 dX12_readTag_29 rfl ?_
      refine xg_istoren 48 _ dX12_readTag_47 rfl rfl rfl (by decide) (Or.inr rfl) ?_
      refine xg_iloadn 49 dX12_readTag_48 rfl rfl rfl ?_
      refine xg_iflt 61 52 dX12_readTag_49 rfl rfl (by omega) (fun hb49 => ?_) (fun hb49 => ?_)
      · exfalso; omega
      · skip
        refine xg_aloadn 53 dX12_readTag_52 rfl rfl rfl ?_
        refine xg_iloadn 54 dX12_readTag_53 rfl rfl rfl ?_
        refine xg_iconst 55 dX12_readTag_54 rfl ?_
        refine xg_callV 58 12 [_, _] _ kv_X12_emits ⟨_, _, rfl⟩ kl_RX12_186 dX12_readTag_55 rfl (by assumption) (by omega) rfl rfl (Nat.le_of_ble_eq_true rfl) (by omega) ⟨Nat.le_refl _, Nat.le_refl _⟩ (cr_emits hw hT ht he h11 (by omega)) rfl ?_
        refine xg_goto 69 dX12_readTag_58 rfl ?_
        refine xg_iloadn 70 dX12_readTag_69 rfl rfl rfl ?_
        refine xg_iflt 77 73 dX12_readTag_70 rfl rfl (by omega) (fun hb70 => ?_) (fun hb70 => ?_)
        · exfalso; omega
        · skip
          refine xg_iconst 74 dX12_readTag_73 rfl ?_
          refine xg_goto 78 dX12_readTag_74 rfl ?_
          subst hX
          exact xg_zreturn dX12_readTag_78 rfl (by first | exact bI_01 _ | omega) ⟨Nat.le_refl _, Nat.le_refl _⟩ ⟨rfl, _, _, _, _, by rw [hkl]; rfl, (by have := zLt_b (t := t) hqb.2; omega), rfl, (by (first | rw [show zK t e q = 7 by omega] | rw [show zK t e q = 8 by omega] | rw [show zK t e q = 9 by omega]); exact pW.em (by omega)), w32_em hR (by omega) (by omega), rfl⟩
  · skip
    have hkl : zLt t e q = zLen t q e := (zK_word (i := 7) (by omega) (by omega) htb (by omega)).2
    refine xg_bipush 15 dX12_readTag_13 rfl (by decide) ?_
    refine xg_goto 47 dX12_readTag_15 rfl ?_
    refine xg_istoren 48 _ dX12_readTag_47 rfl rfl rfl (by decide) (Or.inr rfl) ?_
    refine xg_iloadn 49 dX12_readTag_48 rfl rfl rfl ?_
    refine xg_iflt 61 52 dX12_readTag_49 rfl rfl (by omega) (fun hb49 => ?_) (fun hb49 => ?_)
    · exfalso; omega
    · skip
      refine xg_aloadn 53 dX12_readTag_52 rfl rfl rfl ?_
      refine xg_iloadn 54 dX12_readTag_53 rfl rfl rfl ?_
      refine xg_iconst 55 dX12_readTag_54 rfl ?_
      refine xg_callV 58 12 [_, _] _ kv_X12_emits ⟨_, _, rfl⟩ kl_RX12_186 dX12_readTag_55 rfl (by assumption) (by omega) rfl rfl (Nat.le_of_ble_eq_true rfl) (by omega) ⟨Nat.le_refl _, Nat.le_refl _⟩ (cr_emits hw hT ht he h11 (by omega)) rfl ?_
      refine xg_goto 69 dX12_readTag_58 rfl ?_
      refine xg_iloadn 70 dX12_readTag_69 rfl rfl rfl ?_
      refine xg_iflt 77 73 dX12_readTag_70 rfl rfl (by omega) (fun hb70 => ?_) (fun hb70 => ?_)
      · exfalso; omega
      · skip
        refine xg_iconst 74 dX12_readTag_73 rfl ?_
        refine xg_goto 78 dX12_readTag_74 rfl ?_
        subst hX
        exact xg_zreturn dX12_readTag_78 rfl (by first | exact bI_01 _ | omega) ⟨Nat.le_refl _, Nat.le_refl _⟩ ⟨rfl, _, _, _, _, by rw [hkl]; rfl, (by have := zLt_b (t := t) hqb.2; omega), rfl, (by (first | rw [show zK t e q = 7 by omega] | rw [show zK t e q = 8 by omega] | rw [show zK t e q = 9 by omega]); exact pW.em (by omega)), w32_em hR (by omega) (by omega), rfl⟩

set_option maxHeartbeats 4000000 in
set_option maxRecDepth 100000 in
theorem ct_X12_readTag_f {E : xE} {z : Nat} {T : Nat → Nat × Int} {F : Nat → Nat → Int} {I : Nat → Int → Int} {P : Nat → Nat → Option Nat} {Y : Nat → Int → Option Nat} {m : Nat} {w : Int → Int} (hw : wM T P m) (hT : ∀ j : Int, -128 ≤ I (m + 6) j ∧ I (m + 6) j ≤ 127) {t : Int → Int} {e : Int} (ht : rTp t (I (m + 6)) e) (he : 0 ≤ e ∧ e ≤ 400) (h11 : F m 11 = e) {p b dp c q : Int} (hp : 0 ≤ p ∧ p ≤ e) (hq : zSk t e p = q) {ad adv : Nat → Nat} {sio : Option Nat} (hW : ∀ u : State, E.2.2.2.2 u → oWs E.2.2.2.1 ad adv sio u) (hR : w32 w) (hc : 0 ≤ c ∧ c + 1 ≤ q) (h79 : ¬ (7 ≤ zK t e q ∧ zK t e q ≤ 9)) : Ct E 5 mX12_readTag 0 0 [.ref m] (z, T, fR F m (p) (b) (dp) (c), upA I (m + 1) (w), P, Y) (xd (some (J 0)) (z, T, fR F m (q) (q) (dp) (c), upA I (m + 1) (w), P, Y)) := by
  obtain ⟨⟨q0, q1, q2, q3⟩, -⟩ := id hw
  have hqb := zSk_b (t := t) hp.2
  rw [hq] at hqb
  have htb : ∀ j : Int, 0 ≤ j → j < e → 0 ≤ t j ∧ t j ≤ 255 := fun j a b => (ht j a b).1
  have hqq := zSk_at hp he.2 hq
  refine Ct.of [some (.ref m), none] kt_X12_readTag rfl (Nat.le_of_ble_eq_true rfl) rfl (fun d hd => ?_)
  generalize hX : xN E _ _ _ = X
  refine xg_aloadn 1 dX12_readTag_0 rfl rfl rfl ?_
  refine xg_callV 4 12 [] _ kv_X12_letters ⟨_, _, rfl⟩ kl_RX12_108 dX12_readTag_1 rfl (by assumption) (by omega) rfl rfl (Nat.le_of_ble_eq_true rfl) (by omega) ⟨Nat.le_refl _, Nat.le_refl _⟩ (cr_letters hw hT ht he h11 hp hq) rfl ?_
  refine xg_aloadn 5 dX12_readTag_4 rfl rfl rfl ?_
  refine xg_ldcS 7 rfl (fun u hu => oWs_197 (hW u hu)) dX12_readTag_5 rfl ?_
  refine xg_callV 10 12 [_] _ kv_X12_isWord ⟨_, _, rfl⟩ kl_RX12_111 dX12_readTag_7 rfl (by assumption) (by omega) rfl rfl (Nat.le_of_ble_eq_true rfl) (by omega) ⟨Nat.le_refl _, Nat.le_refl _⟩ (cr_isWord hw hT ht he h11 (by omega) hW (i := 7) (by omega)) rfl ?_
  refine xg_deq 18 13 dX12_readTag_10 rfl rfl (fun hb10 => ?_) (fun hb10 => ?_)
  · skip
    refine xg_aloadn 19 dX12_readTag_18 rfl rfl rfl ?_
    refine xg_ldcS 21 rfl (fun u hu => oWs_165 (hW u hu)) dX12_readTag_19 rfl ?_
    refine xg_callV 24 12 [_] _ kv_X12_isWord ⟨_, _, rfl⟩ kl_RX12_111 dX12_readTag_21 rfl (by assumption) (by omega) rfl rfl (Nat.le_of_ble_eq_true rfl) (by omega) ⟨Nat.le_refl _, Nat.le_refl _⟩ (cr_isWord hw hT ht he h11 (by omega) hW (i := 8) (by omega)) rfl ?_
    refine xg_deq 32 27 dX12_readTag_24 rfl rfl (fun hb24 => ?_) (fun hb24 => ?_)
    · skip
      refine xg_aloadn 33 dX12_readTag_32 rfl rfl rfl ?_
      refine xg_ldcS 35 rfl (fun u hu => oWs_199 (hW u hu)) dX12_readTag_33 rfl ?_
      refine xg_callV 38 12 [_] _ kv_X12_isWord ⟨_, _, rfl⟩ kl_RX12_111 dX12_readTag_35 rfl (by assumption) (by omega) rfl rfl (Nat.le_of_ble_eq_true rfl) (by omega) ⟨Nat.le_refl _, Nat.le_refl _⟩ (cr_isWord hw hT ht he h11 (by omega) hW (i := 9) (by omega)) rfl ?_
      refine xg_deq 46 41 dX12_readTag_38 rfl rfl (fun hb38 => ?_) (fun hb38 => ?_)
      · skip
        refine xg_iconst 47 dX12_readTag_46 rfl ?_
        refine xg_istoren 48 _ dX12_readTag_47 rfl rfl rfl (by decide) (Or.inr rfl) ?_
        refine xg_iloadn 49 dX12_readTag_48 rfl rfl rfl ?_
        refine xg_iflt 61 52 dX12_readTag_49 rfl rfl (by omega) (fun hb49 => ?_) (fun hb49 => ?_)
        · skip
          refine xg_aloadn 62 dX12_readTag_61 rfl rfl rfl ?_
          refine xg_aloadn 63 dX12_readTag_62 rfl rfl rfl ?_
          refine xg_getI 66 kf_RX12_93 dX12_readTag_63 rfl (by assumption) ?_
          rw [fR_12]
          refine xg_putI 69 kf_RX12_83 dX12_readTag_66 rfl (by assumption) ?_
          refine xg_iloadn 70 dX12_readTag_69 rfl rfl rfl ?_
          refine xg_iflt 77 73 dX12_readTag_70 rfl rfl (by omega) (fun hb70 => ?_) (fun hb70 => ?_)
          · skip
            refine xg_iconst 78 dX12_readTag_77 rfl ?_
            subst hX
            exact xg_zreturn dX12_readTag_78 rfl (by first | exact bI_01 _ | omega) ⟨Nat.le_refl _, Nat.le_refl _⟩ ⟨rfl, by rw [fR_s10]⟩
          · exfalso; omega
        · exfalso; omega
      · skip
        exfalso; omega
    · skip
      exfalso; omega
  · skip
    exfalso; omega

set_option maxHeartbeats 4000000 in
set_option maxRecDepth 100000 in
theorem ct_X12_readSum {E : xE} {z : Nat} {T : Nat → Nat × Int} {F : Nat → Nat → Int} {I : Nat → Int → Int} {P : Nat → Nat → Option Nat} {Y : Nat → Int → Option Nat} {m : Nat} {w : Int → Int} (hw : wM T P m) (hT : ∀ j : Int, -128 ≤ I (m + 6) j ∧ I (m + 6) j ≤ 127) {t : Int → Int} {e : Int} (ht : rTp t (I (m + 6)) e) (he : 0 ≤ e ∧ e ≤ 400) (h11 : F m 11 = e) {p b dp c q : Int} (hp : 0 ≤ p ∧ p ≤ e) (hq : zSk t e p = q) {ad adv : Nat → Nat} {sio : Option Nat} (hW : ∀ u : State, E.2.2.2.2 u → oWs E.2.2.2.1 ad adv sio u) (hR : w32 w) (hc : 0 ≤ c ∧ c + 1 ≤ q) : Ct E 7 mX12_readSum 0 0 [.ref m] (z, T, fR F m (p) (b) (dp) (c), upA I (m + 1) (w), P, Y) (rRes m z T F I P Y t e (dp) c w (gSum t e q)) := by
  obtain ⟨⟨q0, q1, q2, q3⟩, -⟩ := id hw
  have hqb := zSk_b (t := t) hp.2
  rw [hq] at hqb
  have htb : ∀ j : Int, 0 ≤ j → j < e → 0 ≤ t j ∧ t j ≤ 255 := fun j a b => (ht j a b).1
  have hqq := zSk_at hp he.2 hq
  refine Ct.of [some (.ref m)] kt_X12_readSum rfl (Nat.le_of_ble_eq_true rfl) rfl (fun d hd => ?_)
  generalize hX : xN E _ _ _ = X
  refine xg_aloadn 1 dX12_readSum_0 rfl rfl rfl ?_
  have hok0 := gPt_ok (t := t) hqb.2
  rcases hs0 : gPt t e q with f0 | ⟨cs0, q0⟩
  · rw [hs0] at hok0
    have hok0a := hok0.1
    have hok0b := hok0.2
    refine xg_callVe 4 12 [] _ kv_X12_readPart ⟨_, _, rfl⟩ kl_RX12_190 dX12_readSum_1 rfl (by assumption) (by omega) rfl rfl (Nat.le_of_ble_eq_true rfl) (by omega) ⟨Nat.le_refl _, Nat.le_refl _⟩ (rRes.cg hs0 (ct_X12_readPart hw hT ht he h11 (p := p) (q := q) hp hq hW hR (show 0 ≤ c ∧ c < 400 by omega))) rfl (fun v9 h9 e9 => ?_)
    obtain ⟨rfl, p0, d0, c0, w0, hw0, hR0, rfl⟩ := e9
    refine xg_ifne 9 7 dX12_readSum_4 rfl rfl (by omega) (fun hb4 => ?_) (fun hb4 => ?_)
    · exfalso; omega
    · skip
      refine xg_iconst 8 dX12_readSum_7 rfl ?_
      subst hX
      refine xg_zreturn dX12_readSum_8 rfl (by first | exact bI_01 _ | omega) ⟨Nat.le_refl _, Nat.le_refl _⟩ ?_
      rw [show gSum t e q = .inl f0 from gSum_n hs0]
      exact ⟨rfl, _, _, _, _, hw0, hR0, rfl⟩
  · rw [hs0] at hok0
    obtain ⟨ho0, hoe0, hol0, hoc0⟩ := hok0
    refine xg_callVe 4 12 [] _ kv_X12_readPart ⟨_, _, rfl⟩ kl_RX12_190 dX12_readSum_1 rfl (by assumption) (by omega) rfl rfl (Nat.le_of_ble_eq_true rfl) (by omega) ⟨Nat.le_refl _, Nat.le_refl _⟩ (rRes.cg hs0 (ct_X12_readPart hw hT ht he h11 (p := p) (q := q) hp hq hW hR (show 0 ≤ c ∧ c < 400 by omega))) rfl (fun v9 h9 e9 => ?_)
    obtain ⟨rfl, p0, b0, c0, w0, hz0, hp0, hc0, hW0, hR0, rfl⟩ := e9
    refine xg_ifne 9 7 dX12_readSum_4 rfl rfl (by omega) (fun hb4 => ?_) (fun hb4 => ?_)
    · skip
      have loop9 : ∀ (mm : Nat) (k : Nat) (q1 p1 b1 c1 : Int) (acc : List (Int × Int)) (w1 : Int → Int), zSk t e p1 = q1 → (0 ≤ p1 ∧ p1 ≤ e) → (c1 = c + (acc.length : Int) ∧ (acc.length : Int) ≤ q1 - q ∧ q ≤ q1 ∧ q1 ≤ e) → pW w w1 c acc → w32 w1 → gSum t e q = gTail t e k q1 acc → e - q1 ≤ (k : Int) → e - q1 < (mm : Int) → xG E mX12_readSum (xR d 0 0) X 9 [some (.ref m)] [] (z, T, fR F m (p1) (b1) (dp) (c1), upA I (m + 1) (w1), P, Y) 0 0 := by
        intro mm
        induction mm with
        | zero => intro k q1 p1 b1 c1 acc w1 hz1 hp1 hc1 hW1 hR1 hg hk hm; exfalso; omega
        | succ mm ih =>
          intro k q1 p1 b1 c1 acc w1 hz1 hp1 hc1 hW1 hR1 hg hk hm
          have hqq1 := zSk_at hp1 he.2 hz1
          refine xg_aloadn 10 dX12_readSum_9 rfl rfl rfl ?_
          refine xg_bipush 12 dX12_readSum_10 rfl (by decide) ?_
          refine xg_callV 15 12 [_] _ kv_X12_sign ⟨_, _, rfl⟩ kl_RX12_193 dX12_readSum_12 rfl (by assumption) (by omega) rfl rfl (Nat.le_of_ble_eq_true rfl) (by omega) ⟨Nat.le_refl _, Nat.le_refl _⟩ (cr_sign hw hT ht he h11 hp1 hz1 (ch := 43) (by decide)) rfl ?_
          refine xg_deq 37 18 dX12_readSum_15 rfl rfl (fun hb15 => ?_) (fun hb15 => ?_)
          · rw [if_neg hb15]
            refine xg_iconst 38 dX12_readSum_37 rfl ?_
            subst hX
            refine xg_zreturn dX12_readSum_38 rfl (by first | exact bI_01 _ | omega) ⟨Nat.le_refl _, Nat.le_refl _⟩ ?_
            rw [hg, gTail_out (show zK t e q1 ≠ 143 by omega)]
            exact ⟨rfl, _, _, _, _, hqq1, ⟨by omega, by omega⟩, hc1.1, hW1, hR1, rfl⟩
          · rw [if_pos hb15]
            have hs1 := zX_s htb (by omega) (c := 43) (by decide) hb15
            have hxb := zX_b (t := t) hs1.1
            obtain ⟨k, rfl⟩ : ∃ k2, k = k2 + 1 := ⟨k - 1, by omega⟩
            refine xg_aloadn 19 dX12_readSum_18 rfl rfl rfl ?_
            have hok2 := gPt_ok (t := t) hxb.2
            rcases hs2 : gPt t e (zX t e q1) with f2 | ⟨cs2, q2⟩
            · rw [hs2] at hok2
              have hok2a := hok2.1
              have hok2b := hok2.2
              refine xg_callVe 22 12 [] _ kv_X12_readPart ⟨_, _, rfl⟩ kl_RX12_190 dX12_readSum_19 rfl (by assumption) (by omega) rfl rfl (Nat.le_of_ble_eq_true rfl) (by omega) ⟨Nat.le_refl _, Nat.le_refl _⟩ (rRes.cg hs2 (ct_X12_readPart hw hT ht he h11 (p := q1 + 1) (q := (zX t e q1)) (by omega) hs1.2 hW hR1 (show 0 ≤ c1 ∧ c1 < 400 by omega))) rfl (fun v9 h9 e9 => ?_)
              obtain ⟨rfl, p2, d2, c2, w2, hw2, hR2, rfl⟩ := e9
              refine xg_ifne 27 25 dX12_readSum_22 rfl rfl (by omega) (fun hb22 => ?_) (fun hb22 => ?_)
              · exfalso; omega
              · skip
                refine xg_iconst 26 dX12_readSum_25 rfl ?_
                subst hX
                refine xg_zreturn dX12_readSum_26 rfl (by first | exact bI_01 _ | omega) ⟨Nat.le_refl _, Nat.le_refl _⟩ ?_
                rw [hg, gTail_n (show zK t e q1 = 143 by omega) hs2]
                exact ⟨rfl, _, _, _, _, fun j hj => (hw2 j hj).trans (hW1.out hc.1 hj), hR2, rfl⟩
            · rw [hs2] at hok2
              obtain ⟨ho2, hoe2, hol2, hoc2⟩ := hok2
              refine xg_callVe 22 12 [] _ kv_X12_readPart ⟨_, _, rfl⟩ kl_RX12_190 dX12_readSum_19 rfl (by assumption) (by omega) rfl rfl (Nat.le_of_ble_eq_true rfl) (by omega) ⟨Nat.le_refl _, Nat.le_refl _⟩ (rRes.cg hs2 (ct_X12_readPart hw hT ht he h11 (p := q1 + 1) (q := (zX t e q1)) (by omega) hs1.2 hW hR1 (show 0 ≤ c1 ∧ c1 < 400 by omega))) rfl (fun v9 h9 e9 => ?_)
              obtain ⟨rfl, p2, b2, c2, w2, hz2, hp2, hc2, hW2, hR2, rfl⟩ := e9
              refine xg_ifne 27 25 dX12_readSum_22 rfl rfl (by omega) (fun hb22 => ?_) (fun hb22 => ?_)
              · skip
                refine xg_aloadn 28 dX12_readSum_27 rfl rfl rfl ?_
                refine xg_bipush 30 dX12_readSum_28 rfl (by decide) ?_
                refine xg_iconst 31 dX12_readSum_30 rfl ?_
                refine xg_callV 34 12 [_, _] _ kv_X12_emits ⟨_, _, rfl⟩ kl_RX12_186 dX12_readSum_31 rfl (by assumption) (by omega) rfl rfl (Nat.le_of_ble_eq_true rfl) (by omega) ⟨Nat.le_refl _, Nat.le_refl _⟩ (cr_emits hw hT ht he h11 (by omega)) rfl ?_
                refine xg_goto 9 dX12_readSum_34 rfl ?_
                exact xg_weak _ (xle_s rfl xle_0) (ih k q2 p2 b2 _ (acc ++ cs2 ++ [(11, 0)]) _ hz2 hp2 ⟨by rw [List.length_append, List.length_append]; show _ = c + ((acc.length + cs2.length + 1 : Nat) : Int); omega, by rw [List.length_append, List.length_append]; show ((acc.length + cs2.length + 1 : Nat) : Int) ≤ _; omega, by omega, by omega⟩ ((hW1.app hW2 hc1.1).em2 (by rw [List.length_append]; omega) (by omega)) (w32_em hR2 (by omega) (by omega)) (hg.trans (gTail_s (show zK t e q1 = 143 by omega) hs2)) (by omega) (by omega))
              · exfalso; omega
      exact xg_weak _ (xle_s rfl xle_0) (loop9 1000 400 q0 p0 b0 c0 cs0 w0 hz0 hp0 ⟨hc0, by omega, by omega, by omega⟩ hW0 hR0 (gSum_s hs0) (by omega) (by omega))
    · exfalso; omega

/-- the reference reads an atom r levels from the deepest -/
def AtC (E : xE) (m z : Nat) (T : Nat → Nat × Int) (F : Nat → Nat → Int) (I : Nat → Int → Int) (P : Nat → Nat → Option Nat) (Y : Nat → Int → Option Nat) (t : Int → Int) (e : Int) (r : Nat) : Prop := ∀ (w : Int → Int) (p b c q : Int), (0 ≤ p ∧ p ≤ e) → zSk t e p = q → w32 w → (0 ≤ c ∧ c + 1 ≤ q) → Ct E (20 + 4 * r) mX12_readAtom 0 0 [.ref m] (z, T, fR F m p b (6 - (r : Int)) c, upA I (m + 1) w, P, Y) (rRes m z T F I P Y t e (6 - (r : Int)) c w (gAtom t e r q))
set_option maxHeartbeats 4000000 in
set_option maxRecDepth 100000 in
theorem ct_X12_readAllOf {E : xE} {z : Nat} {T : Nat → Nat × Int} {F : Nat → Nat → Int} {I : Nat → Int → Int} {P : Nat → Nat → Option Nat} {Y : Nat → Int → Option Nat} {m : Nat} {w : Int → Int} (hw : wM T P m) (hT : ∀ j : Int, -128 ≤ I (m + 6) j ∧ I (m + 6) j ≤ 127) {t : Int → Int} {e : Int} (ht : rTp t (I (m + 6)) e) (he : 0 ≤ e ∧ e ≤ 400) (h11 : F m 11 = e) {p b c q : Int} (hp : 0 ≤ p ∧ p ≤ e) (hq : zSk t e p = q) {ad adv : Nat → Nat} {sio : Option Nat} (hW : ∀ u : State, E.2.2.2.2 u → oWs E.2.2.2.1 ad adv sio u) (hR : w32 w) (hc : 0 ≤ c ∧ c + 1 ≤ q) {r : Nat} (hA : AtC E m z T F I P Y t e r) : Ct E (21 + 4 * r) mX12_readAllOf 0 0 [.ref m] (z, T, fR F m (p) (b) (6 - (r : Int)) (c), upA I (m + 1) (w), P, Y) (rRes m z T F I P Y t e (6 - (r : Int)) c w (gAll t e (gAtom t e r) q)) := by
  obtain ⟨⟨q0, q1, q2, q3⟩, -⟩ := id hw
  have hqb := zSk_b (t := t) hp.2
  rw [hq] at hqb
  have htb : ∀ j : Int, 0 ≤ j → j < e → 0 ≤ t j ∧ t j ≤ 255 := fun j a b => (ht j a b).1
  have hqq := zSk_at hp he.2 hq
  refine Ct.of [some (.ref m)] kt_X12_readAllOf rfl (Nat.le_of_ble_eq_true rfl) rfl (fun d hd => ?_)
  generalize hX : xN E _ _ _ = X
  refine xg_aloadn 1 dX12_readAllOf_0 rfl rfl rfl ?_
  have hok0 := gAtom_ok (t := t) r _ hqb.2
  rcases hs0 : gAtom t e r q with f0 | ⟨cs0, q0⟩
  · rw [hs0] at hok0
    have hok0a := hok0.1
    have hok0b := hok0.2
    refine xg_callVe 4 12 [] _ kv_X12_readAtom ⟨_, _, rfl⟩ kl_RX12_212 dX12_readAllOf_1 rfl (by assumption) (by omega) rfl rfl (Nat.le_of_ble_eq_true rfl) (by omega) ⟨Nat.le_refl _, Nat.le_refl _⟩ (rRes.cg hs0 (hA _ (p) _ c q hp hq hR (by omega))) rfl (fun v9 h9 e9 => ?_)
    obtain ⟨rfl, p0, d0, c0, w0, hw0, hR0, rfl⟩ := e9
    refine xg_ifne 9 7 dX12_readAllOf_4 rfl rfl (by omega) (fun hb4 => ?_) (fun hb4 => ?_)
    · exfalso; omega
    · skip
      refine xg_iconst 8 dX12_readAllOf_7 rfl ?_
      subst hX
      refine xg_zreturn dX12_readAllOf_8 rfl (by first | exact bI_01 _ | omega) ⟨Nat.le_refl _, Nat.le_refl _⟩ ?_
      rw [show gAll t e (gAtom t e r) q = .inl f0 from gMany_n hs0]
      exact ⟨rfl, _, _, _, _, hw0, hR0, rfl⟩
  · rw [hs0] at hok0
    obtain ⟨ho0, hoe0, hol0, hoc0⟩ := hok0
    refine xg_callVe 4 12 [] _ kv_X12_readAtom ⟨_, _, rfl⟩ kl_RX12_212 dX12_readAllOf_1 rfl (by assumption) (by omega) rfl rfl (Nat.le_of_ble_eq_true rfl) (by omega) ⟨Nat.le_refl _, Nat.le_refl _⟩ (rRes.cg hs0 (hA _ (p) _ c q hp hq hR (by omega))) rfl (fun v9 h9 e9 => ?_)
    obtain ⟨rfl, p0, b0, c0, w0, hz0, hp0, hc0, hW0, hR0, rfl⟩ := e9
    refine xg_ifne 9 7 dX12_readAllOf_4 rfl rfl (by omega) (fun hb4 => ?_) (fun hb4 => ?_)
    · skip
      have loop9 : ∀ (mm : Nat) (k : Nat) (q1 p1 b1 c1 : Int) (acc : List (Int × Int)) (w1 : Int → Int), zSk t e p1 = q1 → (0 ≤ p1 ∧ p1 ≤ e) → (c1 = c + (acc.length : Int) ∧ (acc.length : Int) ≤ q1 - q ∧ q ≤ q1 ∧ q1 ≤ e) → pW w w1 c acc → w32 w1 → gAll t e (gAtom t e r) q = gMore t e 19 15 (gAtom t e r) k q1 acc → e - q1 ≤ (k : Int) → e - q1 < (mm : Int) → xG E mX12_readAllOf (xR d 0 0) X 9 [some (.ref m)] [] (z, T, fR F m (p1) (b1) (6 - (r : Int)) (c1), upA I (m + 1) (w1), P, Y) 0 0 := by
        intro mm
        induction mm with
        | zero => intro k q1 p1 b1 c1 acc w1 hz1 hp1 hc1 hW1 hR1 hg hk hm; exfalso; omega
        | succ mm ih =>
          intro k q1 p1 b1 c1 acc w1 hz1 hp1 hc1 hW1 hR1 hg hk hm
          have hqq1 := zSk_at hp1 he.2 hz1
          refine xg_aloadn 10 dX12_readAllOf_9 rfl rfl rfl ?_
          refine xg_ldcS 12 rfl (fun u hu => oWs_221 (hW u hu)) dX12_readAllOf_10 rfl ?_
          refine xg_callV 15 12 [_] _ kv_X12_passes ⟨_, _, rfl⟩ kl_RX12_209 dX12_readAllOf_12 rfl (by assumption) (by omega) rfl rfl (Nat.le_of_ble_eq_true rfl) (by omega) ⟨Nat.le_refl _, Nat.le_refl _⟩ (ct_X12_passes hw hT ht he h11 hp1 hz1 hW (i := 19) (by omega)) rfl ?_
          refine xg_deq 37 18 dX12_readAllOf_15 rfl rfl (fun hb15 => ?_) (fun hb15 => ?_)
          · rw [if_neg hb15]
            refine xg_iconst 38 dX12_readAllOf_37 rfl ?_
            subst hX
            refine xg_zreturn dX12_readAllOf_38 rfl (by first | exact bI_01 _ | omega) ⟨Nat.le_refl _, Nat.le_refl _⟩ ?_
            rw [hg, gMore_out (show zK t e q1 ≠ 19 by omega)]
            exact ⟨rfl, _, _, _, _, hqq1, ⟨by omega, by omega⟩, hc1.1, hW1, hR1, rfl⟩
          · rw [if_pos hb15]
            have hs1 := zK_word (i := 19) (by omega) (by omega) htb hb15
            have hxb := zX_b (t := t) hs1.1
            obtain ⟨k, rfl⟩ : ∃ k2, k = k2 + 1 := ⟨k - 1, by omega⟩
            refine xg_aloadn 19 dX12_readAllOf_18 rfl rfl rfl ?_
            have hok2 := gAtom_ok (t := t) r _ hxb.2
            rcases hs2 : gAtom t e r (zX t e q1) with f2 | ⟨cs2, q2⟩
            · rw [hs2] at hok2
              have hok2a := hok2.1
              have hok2b := hok2.2
              refine xg_callVe 22 12 [] _ kv_X12_readAtom ⟨_, _, rfl⟩ kl_RX12_212 dX12_readAllOf_19 rfl (by assumption) (by omega) rfl rfl (Nat.le_of_ble_eq_true rfl) (by omega) ⟨Nat.le_refl _, Nat.le_refl _⟩ (rRes.cg hs2 (hA _ (zLen t q1 e) _ c1 (zX t e q1) (by have := zLen_b (t := t) hs1.1; omega) rfl hR1 (by omega))) rfl (fun v9 h9 e9 => ?_)
              obtain ⟨rfl, p2, d2, c2, w2, hw2, hR2, rfl⟩ := e9
              refine xg_ifne 27 25 dX12_readAllOf_22 rfl rfl (by omega) (fun hb22 => ?_) (fun hb22 => ?_)
              · exfalso; omega
              · skip
                refine xg_iconst 26 dX12_readAllOf_25 rfl ?_
                subst hX
                refine xg_zreturn dX12_readAllOf_26 rfl (by first | exact bI_01 _ | omega) ⟨Nat.le_refl _, Nat.le_refl _⟩ ?_
                rw [hg, gMore_n (show zK t e q1 = 19 by omega) hs2]
                exact ⟨rfl, _, _, _, _, fun j hj => (hw2 j hj).trans (hW1.out hc.1 hj), hR2, rfl⟩
            · rw [hs2] at hok2
              obtain ⟨ho2, hoe2, hol2, hoc2⟩ := hok2
              refine xg_callVe 22 12 [] _ kv_X12_readAtom ⟨_, _, rfl⟩ kl_RX12_212 dX12_readAllOf_19 rfl (by assumption) (by omega) rfl rfl (Nat.le_of_ble_eq_true rfl) (by omega) ⟨Nat.le_refl _, Nat.le_refl _⟩ (rRes.cg hs2 (hA _ (zLen t q1 e) _ c1 (zX t e q1) (by have := zLen_b (t := t) hs1.1; omega) rfl hR1 (by omega))) rfl (fun v9 h9 e9 => ?_)
              obtain ⟨rfl, p2, b2, c2, w2, hz2, hp2, hc2, hW2, hR2, rfl⟩ := e9
              refine xg_ifne 27 25 dX12_readAllOf_22 rfl rfl (by omega) (fun hb22 => ?_) (fun hb22 => ?_)
              · skip
                refine xg_aloadn 28 dX12_readAllOf_27 rfl rfl rfl ?_
                refine xg_bipush 30 dX12_readAllOf_28 rfl (by decide) ?_
                refine xg_iconst 31 dX12_readAllOf_30 rfl ?_
                refine xg_callV 34 12 [_, _] _ kv_X12_emits ⟨_, _, rfl⟩ kl_RX12_186 dX12_readAllOf_31 rfl (by assumption) (by omega) rfl rfl (Nat.le_of_ble_eq_true rfl) (by omega) ⟨Nat.le_refl _, Nat.le_refl _⟩ (cr_emits hw hT ht he h11 (by omega)) rfl ?_
                refine xg_goto 9 dX12_readAllOf_34 rfl ?_
                exact xg_weak _ (xle_s rfl xle_0) (ih k q2 p2 b2 _ (acc ++ cs2 ++ [(15, 0)]) _ hz2 hp2 ⟨by rw [List.length_append, List.length_append]; show _ = c + ((acc.length + cs2.length + 1 : Nat) : Int); omega, by rw [List.length_append, List.length_append]; show ((acc.length + cs2.length + 1 : Nat) : Int) ≤ _; omega, by omega, by omega⟩ ((hW1.app hW2 hc1.1).em2 (by rw [List.length_append]; omega) (by omega)) (w32_em hR2 (by omega) (by omega)) (hg.trans (gMore_s (show zK t e q1 = 19 by omega) hs2)) (by omega) (by omega))
              · exfalso; omega
      exact xg_weak _ (xle_s rfl xle_0) (loop9 1000 400 q0 p0 b0 c0 cs0 w0 hz0 hp0 ⟨hc0, by omega, by omega, by omega⟩ hW0 hR0 (gMany_s hs0) (by omega) (by omega))
    · exfalso; omega

set_option maxHeartbeats 4000000 in
set_option maxRecDepth 100000 in
theorem ct_X12_readCond {E : xE} {z : Nat} {T : Nat → Nat × Int} {F : Nat → Nat → Int} {I : Nat → Int → Int} {P : Nat → Nat → Option Nat} {Y : Nat → Int → Option Nat} {m : Nat} {w : Int → Int} (hw : wM T P m) (hT : ∀ j : Int, -128 ≤ I (m + 6) j ∧ I (m + 6) j ≤ 127) {t : Int → Int} {e : Int} (ht : rTp t (I (m + 6)) e) (he : 0 ≤ e ∧ e ≤ 400) (h11 : F m 11 = e) {p b c q : Int} (hp : 0 ≤ p ∧ p ≤ e) (hq : zSk t e p = q) {ad adv : Nat → Nat} {sio : Option Nat} (hW : ∀ u : State, E.2.2.2.2 u → oWs E.2.2.2.1 ad adv sio u) (hR : w32 w) (hc : 0 ≤ c ∧ c + 1 ≤ q) {r : Nat} (hA : AtC E m z T F I P Y t e r) : Ct E (22 + 4 * r) mX12_readCond 0 0 [.ref m] (z, T, fR F m (p) (b) (6 - (r : Int)) (c), upA I (m + 1) (w), P, Y) (rRes m z T F I P Y t e (6 - (r : Int)) c w (gAny t e (gAtom t e r) q)) := by
  obtain ⟨⟨q0, q1, q2, q3⟩, -⟩ := id hw
  have hqb := zSk_b (t := t) hp.2
  rw [hq] at hqb
  have htb : ∀ j : Int, 0 ≤ j → j < e → 0 ≤ t j ∧ t j ≤ 255 := fun j a b => (ht j a b).1
  have hqq := zSk_at hp he.2 hq
  refine Ct.of [some (.ref m)] kt_X12_readCond rfl (Nat.le_of_ble_eq_true rfl) rfl (fun d hd => ?_)
  generalize hX : xN E _ _ _ = X
  refine xg_aloadn 1 dX12_readCond_0 rfl rfl rfl ?_
  have hok0 := gAll_ok (t := t) (gAtom_ok (t := t) r) hqb.2
  rcases hs0 : gAll t e (gAtom t e r) q with f0 | ⟨cs0, q0⟩
  · rw [hs0] at hok0
    have hok0a := hok0.1
    have hok0b := hok0.2
    refine xg_callVe 4 12 [] _ kv_X12_readAllOf ⟨_, _, rfl⟩ kl_RX12_223 dX12_readCond_1 rfl (by assumption) (by omega) rfl rfl (Nat.le_of_ble_eq_true rfl) (by omega) ⟨Nat.le_refl _, Nat.le_refl _⟩ (rRes.cg hs0 (ct_X12_readAllOf hw hT ht he h11 (p := p) (q := q) (c := c) hp hq hW hR (by omega) hA)) rfl (fun v9 h9 e9 => ?_)
    obtain ⟨rfl, p0, d0, c0, w0, hw0, hR0, rfl⟩ := e9
    refine xg_ifne 9 7 dX12_readCond_4 rfl rfl (by omega) (fun hb4 => ?_) (fun hb4 => ?_)
    · exfalso; omega
    · skip
      refine xg_iconst 8 dX12_readCond_7 rfl ?_
      subst hX
      refine xg_zreturn dX12_readCond_8 rfl (by first | exact bI_01 _ | omega) ⟨Nat.le_refl _, Nat.le_refl _⟩ ?_
      rw [show gAny t e (gAtom t e r) q = .inl f0 from gMany_n hs0]
      exact ⟨rfl, _, _, _, _, hw0, hR0, rfl⟩
  · rw [hs0] at hok0
    obtain ⟨ho0, hoe0, hol0, hoc0⟩ := hok0
    refine xg_callVe 4 12 [] _ kv_X12_readAllOf ⟨_, _, rfl⟩ kl_RX12_223 dX12_readCond_1 rfl (by assumption) (by omega) rfl rfl (Nat.le_of_ble_eq_true rfl) (by omega) ⟨Nat.le_refl _, Nat.le_refl _⟩ (rRes.cg hs0 (ct_X12_readAllOf hw hT ht he h11 (p := p) (q := q) (c := c) hp hq hW hR (by omega) hA)) rfl (fun v9 h9 e9 => ?_)
    obtain ⟨rfl, p0, b0, c0, w0, hz0, hp0, hc0, hW0, hR0, rfl⟩ := e9
    refine xg_ifne 9 7 dX12_readCond_4 rfl rfl (by omega) (fun hb4 => ?_) (fun hb4 => ?_)
    · skip
      have loop9 : ∀ (mm : Nat) (k : Nat) (q1 p1 b1 c1 : Int) (acc : List (Int × Int)) (w1 : Int → Int), zSk t e p1 = q1 → (0 ≤ p1 ∧ p1 ≤ e) → (c1 = c + (acc.length : Int) ∧ (acc.length : Int) ≤ q1 - q ∧ q ≤ q1 ∧ q1 ≤ e) → pW w w1 c acc → w32 w1 → gAny t e (gAtom t e r) q = gMore t e 18 16 (gAll t e (gAtom t e r)) k q1 acc → e - q1 ≤ (k : Int) → e - q1 < (mm : Int) → xG E mX12_readCond (xR d 0 0) X 9 [some (.ref m)] [] (z, T, fR F m (p1) (b1) (6 - (r : Int)) (c1), upA I (m + 1) (w1), P, Y) 0 0 := by
        intro mm
        induction mm with
        | zero => intro k q1 p1 b1 c1 acc w1 hz1 hp1 hc1 hW1 hR1 hg hk hm; exfalso; omega
        | succ mm ih =>
          intro k q1 p1 b1 c1 acc w1 hz1 hp1 hc1 hW1 hR1 hg hk hm
          have hqq1 := zSk_at hp1 he.2 hz1
          refine xg_aloadn 10 dX12_readCond_9 rfl rfl rfl ?_
          refine xg_ldcS 12 rfl (fun u hu => oWs_226 (hW u hu)) dX12_readCond_10 rfl ?_
          refine xg_callV 15 12 [_] _ kv_X12_passes ⟨_, _, rfl⟩ kl_RX12_209 dX12_readCond_12 rfl (by assumption) (by omega) rfl rfl (Nat.le_of_ble_eq_true rfl) (by omega) ⟨Nat.le_refl _, Nat.le_refl _⟩ (ct_X12_passes hw hT ht he h11 hp1 hz1 hW (i := 18) (by omega)) rfl ?_
          refine xg_deq 37 18 dX12_readCond_15 rfl rfl (fun hb15 => ?_) (fun hb15 => ?_)
          · rw [if_neg hb15]
            refine xg_iconst 38 dX12_readCond_37 rfl ?_
            subst hX
            refine xg_zreturn dX12_readCond_38 rfl (by first | exact bI_01 _ | omega) ⟨Nat.le_refl _, Nat.le_refl _⟩ ?_
            rw [hg, gMore_out (show zK t e q1 ≠ 18 by omega)]
            exact ⟨rfl, _, _, _, _, hqq1, ⟨by omega, by omega⟩, hc1.1, hW1, hR1, rfl⟩
          · rw [if_pos hb15]
            have hs1 := zK_word (i := 18) (by omega) (by omega) htb hb15
            have hxb := zX_b (t := t) hs1.1
            obtain ⟨k, rfl⟩ : ∃ k2, k = k2 + 1 := ⟨k - 1, by omega⟩
            refine xg_aloadn 19 dX12_readCond_18 rfl rfl rfl ?_
            have hok2 := gAll_ok (t := t) (gAtom_ok (t := t) r) hxb.2
            rcases hs2 : gAll t e (gAtom t e r) (zX t e q1) with f2 | ⟨cs2, q2⟩
            · rw [hs2] at hok2
              have hok2a := hok2.1
              have hok2b := hok2.2
              refine xg_callVe 22 12 [] _ kv_X12_readAllOf ⟨_, _, rfl⟩ kl_RX12_223 dX12_readCond_19 rfl (by assumption) (by omega) rfl rfl (Nat.le_of_ble_eq_true rfl) (by omega) ⟨Nat.le_refl _, Nat.le_refl _⟩ (rRes.cg hs2 (ct_X12_readAllOf hw hT ht he h11 (p := zLen t q1 e) (q := (zX t e q1)) (c := c1) (by have := zLen_b (t := t) hs1.1; omega) rfl hW hR1 (by omega) hA)) rfl (fun v9 h9 e9 => ?_)
              obtain ⟨rfl, p2, d2, c2, w2, hw2, hR2, rfl⟩ := e9
              refine xg_ifne 27 25 dX12_readCond_22 rfl rfl (by omega) (fun hb22 => ?_) (fun hb22 => ?_)
              · exfalso; omega
              · skip
                refine xg_iconst 26 dX12_readCond_25 rfl ?_
                subst hX
                refine xg_zreturn dX12_readCond_26 rfl (by first | exact bI_01 _ | omega) ⟨Nat.le_refl _, Nat.le_refl _⟩ ?_
                rw [hg, gMore_n (show zK t e q1 = 18 by omega) hs2]
                exact ⟨rfl, _, _, _, _, fun j hj => (hw2 j hj).trans (hW1.out hc.1 hj), hR2, rfl⟩
            · rw [hs2] at hok2
              obtain ⟨ho2, hoe2, hol2, hoc2⟩ := hok2
              refine xg_callVe 22 12 [] _ kv_X12_readAllOf ⟨_, _, rfl⟩ kl_RX12_223 dX12_readCond_19 rfl (by assumption) (by omega) rfl rfl (Nat.le_of_ble_eq_true rfl) (by omega) ⟨Nat.le_refl _, Nat.le_refl _⟩ (rRes.cg hs2 (ct_X12_readAllOf hw hT ht he h11 (p := zLen t q1 e) (q := (zX t e q1)) (c := c1) (by have := zLen_b (t := t) hs1.1; omega) rfl hW hR1 (by omega) hA)) rfl (fun v9 h9 e9 => ?_)
              obtain ⟨rfl, p2, b2, c2, w2, hz2, hp2, hc2, hW2, hR2, rfl⟩ := e9
              refine xg_ifne 27 25 dX12_readCond_22 rfl rfl (by omega) (fun hb22 => ?_) (fun hb22 => ?_)
              · skip
                refine xg_aloadn 28 dX12_readCond_27 rfl rfl rfl ?_
                refine xg_bipush 30 dX12_readCond_28 rfl (by decide) ?_
                refine xg_iconst 31 dX12_readCond_30 rfl ?_
                refine xg_callV 34 12 [_, _] _ kv_X12_emits ⟨_, _, rfl⟩ kl_RX12_186 dX12_readCond_31 rfl (by assumption) (by omega) rfl rfl (Nat.le_of_ble_eq_true rfl) (by omega) ⟨Nat.le_refl _, Nat.le_refl _⟩ (cr_emits hw hT ht he h11 (by omega)) rfl ?_
                refine xg_goto 9 dX12_readCond_34 rfl ?_
                exact xg_weak _ (xle_s rfl xle_0) (ih k q2 p2 b2 _ (acc ++ cs2 ++ [(16, 0)]) _ hz2 hp2 ⟨by rw [List.length_append, List.length_append]; show _ = c + ((acc.length + cs2.length + 1 : Nat) : Int); omega, by rw [List.length_append, List.length_append]; show ((acc.length + cs2.length + 1 : Nat) : Int) ≤ _; omega, by omega, by omega⟩ ((hW1.app hW2 hc1.1).em2 (by rw [List.length_append]; omega) (by omega)) (w32_em hR2 (by omega) (by omega)) (hg.trans (gMore_s (show zK t e q1 = 18 by omega) hs2)) (by omega) (by omega))
              · exfalso; omega
      exact xg_weak _ (xle_s rfl xle_0) (loop9 1000 400 q0 p0 b0 c0 cs0 w0 hz0 hp0 ⟨hc0, by omega, by omega, by omega⟩ hW0 hR0 (gMany_s hs0) (by omega) (by omega))
    · exfalso; omega

