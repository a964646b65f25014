/-! the class reads a condition -/
/-- codes as the class lays them -/
def pCo (g g' : Int → Int) (u : Int) (cs : List (Int × Int)) : Prop := (∀ j : Int, j < u → g' j = g j) ∧ ∀ i : Nat, i < cs.length → g' (u + i) = cEnc (cs.getD i (0, 0)).1 (cs.getD i (0, 0)).2
section PCO
variable {g g1 g2 : Int → Int} {u v c n : Int} {a b : List (Int × Int)}
theorem pCo.nil : pCo g g u [] := ⟨fun _ _ => rfl, fun i hi => absurd hi (Nat.not_lt_zero i)⟩
theorem pCo.app {u1 : Int} (h1 : pCo g g1 u a) (h2 : pCo g1 g2 u1 b) (hc : u1 = u + a.length) : pCo g g2 u (a ++ b) := by
  subst hc
  refine ⟨fun j hj => (h2.1 j (by omega)).trans (h1.1 j hj), fun i hi => ?_⟩
  rw [getD_app]
  rw [List.length_append] at hi
  by_cases e : i < a.length
  · rw [if_pos e, h2.1 _ (by omega)]; exact h1.2 i e
  · rw [if_neg e]
    have h3 := h2.2 (i - a.length) (by omega)
    rw [show u + (a.length : Int) + ((i - a.length : Nat) : Int) = u + (i : Int) by omega] at h3
    exact h3
theorem pCo.em (hv : v = cEnc c n) : pCo g (wS g u v) u [(c, n)] := by
  refine ⟨fun j hj => by rw [wS_ne _ _ _ (by omega)], fun i hi => ?_⟩
  have : i = 0 := by simp only [List.length_cons, List.length_nil] at hi; omega
  subst this
  rw [show u + ((0 : Nat) : Int) = u by omega, wS_at]; exact hv
theorem pCo.em2 {u1 : Int} (h1 : pCo g g1 u a) (hc : u1 = u + a.length) (hv : v = cEnc c n) : pCo g (wS g1 u1 v) u (a ++ [(c, n)]) := h1.app (pCo.em hv) hc
theorem cEnc_f (h : c ≤ 9) : cEnc c 0 = -10 - c := if_pos h
theorem cEnc_n : cEnc 10 n = n := rfl
end PCO
def lRes (z : Nat) (T : Nat → Nat × Int) (F : Nat → Nat → Int) (I : Nat → Int → Int) (P : Nat → Nat → Option Nat) (Y : Nat → Int → Option Nat) (s r N : Nat) (t : Int → Int) (e u : Int) (g : Int → Int) : gRz → Option Value → xH → Prop
  | .inl f => fun v h' => v = some (J 0) ∧ ∃ (i : Nat) (u1 : Int) (g1 : Int → Int), i ≤ N ∧ h' = (z, T, fZ F s r i f u1, upA I (r + 4) g1, P, Y)
  | .inr (cs, q') => fun v h' => v = some (J 1) ∧ ∃ (i : Nat) (u1 : Int) (g1 : Int → Int), i ≤ N ∧ zB t e i = q' ∧ u1 = u + cs.length ∧ pCo g g1 u cs ∧ h' = (z, T, fZ F s r i (-1) u1, upA I (r + 4) g1, P, Y)
theorem lRes.cg {E : xE} {z s r N kk : Nat} {T : Nat → Nat × Int} {F : Nat → Nat → Int} {I : Nat → Int → Int} {P : Nat → Nat → Option Nat} {Y : Nat → Int → Option Nat} {t : Int → Int} {e u : Int} {g : Int → Int} {M : xM} {As : List Value} {hh : xH} {x y : gRz} (h : x = y) (ct : Ct E kk M 0 0 As hh (lRes z T F I P Y s r N t e u g x)) : Ct E kk M 0 0 As hh (lRes z T F I P Y s r N t e u g y) := h ▸ ct
/-- a part, then more -/
def gSm (t : Int → Int) (e : Int) (fu : Nat) (q : Int) (acc : List (Int × Int)) (b : Bool) : gRz := match gPt t e q with
  | .inl f => .inl f
  | .inr (cs, q2) => gTail t e fu q2 (acc ++ cs ++ (if b = true then [(11, 0)] else []))
theorem gSm_n {t : Int → Int} {e q f : Int} {fu : Nat} {acc : List (Int × Int)} {b : Bool} (h : gPt t e q = .inl f) : gSm t e fu q acc b = .inl f := by unfold gSm; rw [h]
theorem gSm_s {t : Int → Int} {e q q2 : Int} {fu : Nat} {acc cs : List (Int × Int)} {b : Bool} (h : gPt t e q = .inr (cs, q2)) : gSm t e fu q acc b = gTail t e fu q2 (acc ++ cs ++ (if b = true then [(11, 0)] else [])) := by unfold gSm; rw [h]
theorem gSm_0 {t : Int → Int} {e q : Int} : gSum t e q = gSm t e 400 q [] false := by
  unfold gSm
  cases h : gPt t e q with
  | inl f => exact gSum_n h
  | inr y =>
    obtain ⟨cs, q2⟩ := y
    rw [gSum_s h]
    show _ = gTail t e 400 q2 ([] ++ cs ++ [])
    rw [List.nil_append, List.append_nil]
theorem gTail_m {t : Int → Int} {e q : Int} {fu : Nat} {acc : List (Int × Int)} (h : zK t e q = 143) : gTail t e (fu + 1) q acc = gSm t e fu (zX t e q) acc true := by
  unfold gSm
  cases h2 : gPt t e (zX t e q) with
  | inl f => exact gTail_n h h2
  | inr y =>
    obtain ⟨cs, q2⟩ := y
    exact gTail_s h h2

theorem dX4_sum_0 : decode cX4_sum 0 = .ok (.iconst 0, 1) := by decide +kernel
theorem dX4_sum_1 : decode cX4_sum 1 = .ok (.istore_n 1, 1) := by decide +kernel
theorem dX4_sum_2 : decode cX4_sum 2 = .ok (.iload_n 1, 1) := by decide +kernel
theorem dX4_sum_3 : decode cX4_sum 3 = .ok (.sipush 400, 3) := by decide +kernel
theorem dX4_sum_6 : decode cX4_sum 6 = .ok (.if_icmp .ge 95, 3) := by decide +kernel
theorem dX4_sum_9 : decode cX4_sum 9 = .ok (.aload_n 0, 1) := by decide +kernel
theorem dX4_sum_10 : decode cX4_sum 10 = .ok (.getfield 9, 3) := by decide +kernel
theorem dX4_sum_13 : decode cX4_sum 13 = .ok (.iconst 0, 1) := by decide +kernel
theorem dX4_sum_14 : decode cX4_sum 14 = .ok (.bipush 6, 2) := by decide +kernel
theorem dX4_sum_16 : decode cX4_sum 16 = .ok (.invokevirtual 41, 3) := by decide +kernel
theorem dX4_sum_19 : decode cX4_sum 19 = .ok (.istore_n 2, 1) := by decide +kernel
theorem dX4_sum_20 : decode cX4_sum 20 = .ok (.iload_n 2, 1) := by decide +kernel
theorem dX4_sum_21 : decode cX4_sum 21 = .ok (.iconst (-1), 1) := by decide +kernel
theorem dX4_sum_22 : decode cX4_sum 22 = .ok (.if_icmp .eq 7, 3) := by decide +kernel
theorem dX4_sum_25 : decode cX4_sum 25 = .ok (.iconst (-1), 1) := by decide +kernel
theorem dX4_sum_26 : decode cX4_sum 26 = .ok (.goto 14, 3) := by decide +kernel
theorem dX4_sum_29 : decode cX4_sum 29 = .ok (.aload_n 0, 1) := by decide +kernel
theorem dX4_sum_30 : decode cX4_sum 30 = .ok (.getfield 9, 3) := by decide +kernel
theorem dX4_sum_33 : decode cX4_sum 33 = .ok (.iconst 0, 1) := by decide +kernel
theorem dX4_sum_34 : decode cX4_sum 34 = .ok (.sipush 999, 3) := by decide +kernel
theorem dX4_sum_37 : decode cX4_sum 37 = .ok (.invokevirtual 49, 3) := by decide +kernel
theorem dX4_sum_40 : decode cX4_sum 40 = .ok (.istore_n 3, 1) := by decide +kernel
theorem dX4_sum_41 : decode cX4_sum 41 = .ok (.iload_n 2, 1) := by decide +kernel
theorem dX4_sum_42 : decode cX4_sum 42 = .ok (.iconst (-1), 1) := by decide +kernel
theorem dX4_sum_43 : decode cX4_sum 43 = .ok (.if_icmp .ne 10, 3) := by decide +kernel
theorem dX4_sum_46 : decode cX4_sum 46 = .ok (.iload_n 3, 1) := by decide +kernel
theorem dX4_sum_47 : decode cX4_sum 47 = .ok (.iconst (-1), 1) := by decide +kernel
theorem dX4_sum_48 : decode cX4_sum 48 = .ok (.if_icmp .ne 5, 3) := by decide +kernel
theorem dX4_sum_51 : decode cX4_sum 51 = .ok (.iconst 0, 1) := by decide +kernel
theorem dX4_sum_52 : decode cX4_sum 52 = .ok (.ireturn, 1) := by decide +kernel
theorem dX4_sum_53 : decode cX4_sum 53 = .ok (.aload_n 0, 1) := by decide +kernel
theorem dX4_sum_54 : decode cX4_sum 54 = .ok (.iload_n 2, 1) := by decide +kernel
theorem dX4_sum_55 : decode cX4_sum 55 = .ok (.iconst (-1), 1) := by decide +kernel
theorem dX4_sum_56 : decode cX4_sum 56 = .ok (.if_icmp .eq 10, 3) := by decide +kernel
theorem dX4_sum_59 : decode cX4_sum 59 = .ok (.bipush (-10), 2) := by decide +kernel
theorem dX4_sum_61 : decode cX4_sum 61 = .ok (.iload_n 2, 1) := by decide +kernel
theorem dX4_sum_62 : decode cX4_sum 62 = .ok (.isub, 1) := by decide +kernel
theorem dX4_sum_63 : decode cX4_sum 63 = .ok (.goto 4, 3) := by decide +kernel
theorem dX4_sum_66 : decode cX4_sum 66 = .ok (.iload_n 3, 1) := by decide +kernel
theorem dX4_sum_67 : decode cX4_sum 67 = .ok (.invokevirtual 69, 3) := by decide +kernel
theorem dX4_sum_70 : decode cX4_sum 70 = .ok (.iload_n 1, 1) := by decide +kernel
theorem dX4_sum_71 : decode cX4_sum 71 = .ok (.ifCond .le 9, 3) := by decide +kernel
theorem dX4_sum_74 : decode cX4_sum 74 = .ok (.aload_n 0, 1) := by decide +kernel
theorem dX4_sum_75 : decode cX4_sum 75 = .ok (.bipush (-4), 2) := by decide +kernel
theorem dX4_sum_77 : decode cX4_sum 77 = .ok (.invokevirtual 69, 3) := by decide +kernel
theorem dX4_sum_80 : decode cX4_sum 80 = .ok (.aload_n 0, 1) := by decide +kernel
theorem dX4_sum_81 : decode cX4_sum 81 = .ok (.getfield 9, 3) := by decide +kernel
theorem dX4_sum_84 : decode cX4_sum 84 = .ok (.sipush 143, 3) := by decide +kernel
theorem dX4_sum_87 : decode cX4_sum 87 = .ok (.invokevirtual 52, 3) := by decide +kernel
theorem dX4_sum_90 : decode cX4_sum 90 = .ok (.ifCond .ne 5, 3) := by decide +kernel
theorem dX4_sum_93 : decode cX4_sum 93 = .ok (.iconst 1, 1) := by decide +kernel
theorem dX4_sum_94 : decode cX4_sum 94 = .ok (.ireturn, 1) := by decide +kernel
theorem dX4_sum_95 : decode cX4_sum 95 = .ok (.iinc 1 1, 3) := by decide +kernel
theorem dX4_sum_98 : decode cX4_sum 98 = .ok (.goto (-96), 3) := by decide +kernel
theorem dX4_sum_101 : decode cX4_sum 101 = .ok (.aload_n 0, 1) := by decide +kernel
theorem dX4_sum_102 : decode cX4_sum 102 = .ok (.getfield 9, 3) := by decide +kernel
theorem dX4_sum_105 : decode cX4_sum 105 = .ok (.invokevirtual 45, 3) := by decide +kernel
theorem dX4_sum_108 : decode cX4_sum 108 = .ok (.ireturn, 1) := by decide +kernel
theorem dX4_comparison_0 : decode cX4_comparison 0 = .ok (.aload_n 0, 1) := by decide +kernel
theorem dX4_comparison_1 : decode cX4_comparison 1 = .ok (.invokevirtual 79, 3) := by decide +kernel
theorem dX4_comparison_4 : decode cX4_comparison 4 = .ok (.ifCond .ne 5, 3) := by decide +kernel
theorem dX4_comparison_7 : decode cX4_comparison 7 = .ok (.iconst 0, 1) := by decide +kernel
theorem dX4_comparison_8 : decode cX4_comparison 8 = .ok (.ireturn, 1) := by decide +kernel
theorem dX4_comparison_9 : decode cX4_comparison 9 = .ok (.aload_n 0, 1) := by decide +kernel
theorem dX4_comparison_10 : decode cX4_comparison 10 = .ok (.getfield 9, 3) := by decide +kernel
theorem dX4_comparison_13 : decode cX4_comparison 13 = .ok (.sipush 160, 3) := by decide +kernel
theorem dX4_comparison_16 : decode cX4_comparison 16 = .ok (.invokevirtual 52, 3) := by decide +kernel
theorem dX4_comparison_19 : decode cX4_comparison 19 = .ok (.istore_n 1, 1) := by decide +kernel
theorem dX4_comparison_20 : decode cX4_comparison 20 = .ok (.iload_n 1, 1) := by decide +kernel
theorem dX4_comparison_21 : decode cX4_comparison 21 = .ok (.ifCond .ne 18, 3) := by decide +kernel
theorem dX4_comparison_24 : decode cX4_comparison 24 = .ok (.aload_n 0, 1) := by decide +kernel
theorem dX4_comparison_25 : decode cX4_comparison 25 = .ok (.getfield 9, 3) := by decide +kernel
theorem dX4_comparison_28 : decode cX4_comparison 28 = .ok (.sipush 162, 3) := by decide +kernel
theorem dX4_comparison_31 : decode cX4_comparison 31 = .ok (.invokevirtual 58, 3) := by decide +kernel
theorem dX4_comparison_34 : decode cX4_comparison 34 = .ok (.ifCond .ne 5, 3) := by decide +kernel
theorem dX4_comparison_37 : decode cX4_comparison 37 = .ok (.iconst 0, 1) := by decide +kernel
theorem dX4_comparison_38 : decode cX4_comparison 38 = .ok (.ireturn, 1) := by decide +kernel
theorem dX4_comparison_39 : decode cX4_comparison 39 = .ok (.aload_n 0, 1) := by decide +kernel
theorem dX4_comparison_40 : decode cX4_comparison 40 = .ok (.invokevirtual 79, 3) := by decide +kernel
theorem dX4_comparison_43 : decode cX4_comparison 43 = .ok (.ifCond .ne 5, 3) := by decide +kernel
theorem dX4_comparison_46 : decode cX4_comparison 46 = .ok (.iconst 0, 1) := by decide +kernel
theorem dX4_comparison_47 : decode cX4_comparison 47 = .ok (.ireturn, 1) := by decide +kernel
theorem dX4_comparison_48 : decode cX4_comparison 48 = .ok (.aload_n 0, 1) := by decide +kernel
theorem dX4_comparison_49 : decode cX4_comparison 49 = .ok (.iload_n 1, 1) := by decide +kernel
theorem dX4_comparison_50 : decode cX4_comparison 50 = .ok (.ifCond .eq 8, 3) := by decide +kernel
theorem dX4_comparison_53 : decode cX4_comparison 53 = .ok (.bipush (-5), 2) := by decide +kernel
theorem dX4_comparison_55 : decode cX4_comparison 55 = .ok (.goto 5, 3) := by decide +kernel
theorem dX4_comparison_58 : decode cX4_comparison 58 = .ok (.bipush (-6), 2) := by decide +kernel
theorem dX4_comparison_60 : decode cX4_comparison 60 = .ok (.invokevirtual 69, 3) := by decide +kernel
theorem dX4_comparison_63 : decode cX4_comparison 63 = .ok (.iconst 1, 1) := by decide +kernel
theorem dX4_comparison_64 : decode cX4_comparison 64 = .ok (.ireturn, 1) := by decide +kernel
theorem dX4_allOf_0 : decode cX4_allOf 0 = .ok (.aload_n 0, 1) := by decide +kernel
theorem dX4_allOf_1 : decode cX4_allOf 1 = .ok (.iload_n 1, 1) := by decide +kernel
theorem dX4_allOf_2 : decode cX4_allOf 2 = .ok (.invokevirtual 73, 3) := by decide +kernel
theorem dX4_allOf_5 : decode cX4_allOf 5 = .ok (.ifCond .ne 5, 3) := by decide +kernel
theorem dX4_allOf_8 : decode cX4_allOf 8 = .ok (.iconst 0, 1) := by decide +kernel
theorem dX4_allOf_9 : decode cX4_allOf 9 = .ok (.ireturn, 1) := by decide +kernel
theorem dX4_allOf_10 : decode cX4_allOf 10 = .ok (.iconst 0, 1) := by decide +kernel
theorem dX4_allOf_11 : decode cX4_allOf 11 = .ok (.istore_n 2, 1) := by decide +kernel
theorem dX4_allOf_12 : decode cX4_allOf 12 = .ok (.iload_n 2, 1) := by decide +kernel
theorem dX4_allOf_13 : decode cX4_allOf 13 = .ok (.sipush 400, 3) := by decide +kernel
theorem dX4_allOf_16 : decode cX4_allOf 16 = .ok (.if_icmp .ge 36, 3) := by decide +kernel
theorem dX4_allOf_19 : decode cX4_allOf 19 = .ok (.aload_n 0, 1) := by decide +kernel
theorem dX4_allOf_20 : decode cX4_allOf 20 = .ok (.getfield 9, 3) := by decide +kernel
theorem dX4_allOf_23 : decode cX4_allOf 23 = .ok (.bipush 19, 2) := by decide +kernel
theorem dX4_allOf_25 : decode cX4_allOf 25 = .ok (.invokevirtual 52, 3) := by decide +kernel
theorem dX4_allOf_28 : decode cX4_allOf 28 = .ok (.ifCond .eq 24, 3) := by decide +kernel
theorem dX4_allOf_31 : decode cX4_allOf 31 = .ok (.aload_n 0, 1) := by decide +kernel
theorem dX4_allOf_32 : decode cX4_allOf 32 = .ok (.iload_n 1, 1) := by decide +kernel
theorem dX4_allOf_33 : decode cX4_allOf 33 = .ok (.invokevirtual 73, 3) := by decide +kernel
theorem dX4_allOf_36 : decode cX4_allOf 36 = .ok (.ifCond .ne 5, 3) := by decide +kernel
theorem dX4_allOf_39 : decode cX4_allOf 39 = .ok (.iconst 0, 1) := by decide +kernel
theorem dX4_allOf_40 : decode cX4_allOf 40 = .ok (.ireturn, 1) := by decide +kernel
theorem dX4_allOf_41 : decode cX4_allOf 41 = .ok (.aload_n 0, 1) := by decide +kernel
theorem dX4_allOf_42 : decode cX4_allOf 42 = .ok (.iconst (-1), 1) := by decide +kernel
theorem dX4_allOf_43 : decode cX4_allOf 43 = .ok (.invokevirtual 69, 3) := by decide +kernel
theorem dX4_allOf_46 : decode cX4_allOf 46 = .ok (.iinc 2 1, 3) := by decide +kernel
theorem dX4_allOf_49 : decode cX4_allOf 49 = .ok (.goto (-37), 3) := by decide +kernel
theorem dX4_allOf_52 : decode cX4_allOf 52 = .ok (.iconst 1, 1) := by decide +kernel
theorem dX4_allOf_53 : decode cX4_allOf 53 = .ok (.ireturn, 1) := by decide +kernel
theorem dX4_anyOf_0 : decode cX4_anyOf 0 = .ok (.aload_n 0, 1) := by decide +kernel
theorem dX4_anyOf_1 : decode cX4_anyOf 1 = .ok (.iload_n 1, 1) := by decide +kernel
theorem dX4_anyOf_2 : decode cX4_anyOf 2 = .ok (.invokevirtual 66, 3) := by decide +kernel
theorem dX4_anyOf_5 : decode cX4_anyOf 5 = .ok (.ifCond .ne 5, 3) := by decide +kernel
theorem dX4_anyOf_8 : decode cX4_anyOf 8 = .ok (.iconst 0, 1) := by decide +kernel
theorem dX4_anyOf_9 : decode cX4_anyOf 9 = .ok (.ireturn, 1) := by decide +kernel
theorem dX4_anyOf_10 : decode cX4_anyOf 10 = .ok (.iconst 0, 1) := by decide +kernel
theorem dX4_anyOf_11 : decode cX4_anyOf 11 = .ok (.istore_n 2, 1) := by decide +kernel
theorem dX4_anyOf_12 : decode cX4_anyOf 12 = .ok (.iload_n 2, 1) := by decide +kernel
theorem dX4_anyOf_13 : decode cX4_anyOf 13 = .ok (.sipush 400, 3) := by decide +kernel
theorem dX4_anyOf_16 : decode cX4_anyOf 16 = .ok (.if_icmp .ge 37, 3) := by decide +kernel
theorem dX4_anyOf_19 : decode cX4_anyOf 19 = .ok (.aload_n 0, 1) := by decide +kernel
theorem dX4_anyOf_20 : decode cX4_anyOf 20 = .ok (.getfield 9, 3) := by decide +kernel
theorem dX4_anyOf_23 : decode cX4_anyOf 23 = .ok (.bipush 18, 2) := by decide +kernel
theorem dX4_anyOf_25 : decode cX4_anyOf 25 = .ok (.invokevirtual 52, 3) := by decide +kernel
theorem dX4_anyOf_28 : decode cX4_anyOf 28 = .ok (.ifCond .eq 25, 3) := by decide +kernel
theorem dX4_anyOf_31 : decode cX4_anyOf 31 = .ok (.aload_n 0, 1) := by decide +kernel
theorem dX4_anyOf_32 : decode cX4_anyOf 32 = .ok (.iload_n 1, 1) := by decide +kernel
theorem dX4_anyOf_33 : decode cX4_anyOf 33 = .ok (.invokevirtual 66, 3) := by decide +kernel
theorem dX4_anyOf_36 : decode cX4_anyOf 36 = .ok (.ifCond .ne 5, 3) := by decide +kernel
theorem dX4_anyOf_39 : decode cX4_anyOf 39 = .ok (.iconst 0, 1) := by decide +kernel
theorem dX4_anyOf_40 : decode cX4_anyOf 40 = .ok (.ireturn, 1) := by decide +kernel
theorem dX4_anyOf_41 : decode cX4_anyOf 41 = .ok (.aload_n 0, 1) := by decide +kernel
theorem dX4_anyOf_42 : decode cX4_anyOf 42 = .ok (.bipush (-2), 2) := by decide +kernel
theorem dX4_anyOf_44 : decode cX4_anyOf 44 = .ok (.invokevirtual 69, 3) := by decide +kernel
theorem dX4_anyOf_47 : decode cX4_anyOf 47 = .ok (.iinc 2 1, 3) := by decide +kernel
theorem dX4_anyOf_50 : decode cX4_anyOf 50 = .ok (.goto (-38), 3) := by decide +kernel
theorem dX4_anyOf_53 : decode cX4_anyOf 53 = .ok (.iconst 1, 1) := by decide +kernel
theorem dX4_anyOf_54 : decode cX4_anyOf 54 = .ok (.ireturn, 1) := by decide +kernel
theorem dX4_atom_0 : decode cX4_atom 0 = .ok (.aload_n 0, 1) := by decide +kernel
theorem dX4_atom_1 : decode cX4_atom 1 = .ok (.getfield 9, 3) := by decide +kernel
theorem dX4_atom_4 : decode cX4_atom 4 = .ok (.bipush 20, 2) := by decide +kernel
theorem dX4_atom_6 : decode cX4_atom 6 = .ok (.invokevirtual 35, 3) := by decide +kernel
theorem dX4_atom_9 : decode cX4_atom 9 = .ok (.ifCond .ne 16, 3) := by decide +kernel
theorem dX4_atom_12 : decode cX4_atom 12 = .ok (.aload_n 0, 1) := by decide +kernel
theorem dX4_atom_13 : decode cX4_atom 13 = .ok (.getfield 9, 3) := by decide +kernel
theorem dX4_atom_16 : decode cX4_atom 16 = .ok (.sipush 140, 3) := by decide +kernel
theorem dX4_atom_19 : decode cX4_atom 19 = .ok (.invokevirtual 35, 3) := by decide +kernel
theorem dX4_atom_22 : decode cX4_atom 22 = .ok (.ifCond .eq 7, 3) := by decide +kernel
theorem dX4_atom_25 : decode cX4_atom 25 = .ok (.iconst 1, 1) := by decide +kernel
theorem dX4_atom_26 : decode cX4_atom 26 = .ok (.goto 4, 3) := by decide +kernel
theorem dX4_atom_29 : decode cX4_atom 29 = .ok (.iconst 0, 1) := by decide +kernel
theorem dX4_atom_30 : decode cX4_atom 30 = .ok (.istore_n 2, 1) := by decide +kernel
theorem dX4_atom_31 : decode cX4_atom 31 = .ok (.iload_n 2, 1) := by decide +kernel
theorem dX4_atom_32 : decode cX4_atom 32 = .ok (.ifCond .eq 17, 3) := by decide +kernel
theorem dX4_atom_35 : decode cX4_atom 35 = .ok (.iload_n 1, 1) := by decide +kernel
theorem dX4_atom_36 : decode cX4_atom 36 = .ok (.bipush 6, 2) := by decide +kernel
theorem dX4_atom_38 : decode cX4_atom 38 = .ok (.if_icmp .lt 11, 3) := by decide +kernel
theorem dX4_atom_41 : decode cX4_atom 41 = .ok (.aload_n 0, 1) := by decide +kernel
theorem dX4_atom_42 : decode cX4_atom 42 = .ok (.getfield 9, 3) := by decide +kernel
theorem dX4_atom_45 : decode cX4_atom 45 = .ok (.invokevirtual 45, 3) := by decide +kernel
theorem dX4_atom_48 : decode cX4_atom 48 = .ok (.ireturn, 1) := by decide +kernel
theorem dX4_atom_49 : decode cX4_atom 49 = .ok (.aload_n 0, 1) := by decide +kernel
theorem dX4_atom_50 : decode cX4_atom 50 = .ok (.getfield 9, 3) := by decide +kernel
theorem dX4_atom_53 : decode cX4_atom 53 = .ok (.bipush 20, 2) := by decide +kernel
theorem dX4_atom_55 : decode cX4_atom 55 = .ok (.invokevirtual 52, 3) := by decide +kernel
theorem dX4_atom_58 : decode cX4_atom 58 = .ok (.ifCond .eq 23, 3) := by decide +kernel
theorem dX4_atom_61 : decode cX4_atom 61 = .ok (.aload_n 0, 1) := by decide +kernel
theorem dX4_atom_62 : decode cX4_atom 62 = .ok (.iload_n 1, 1) := by decide +kernel
theorem dX4_atom_63 : decode cX4_atom 63 = .ok (.iconst 1, 1) := by decide +kernel
theorem dX4_atom_64 : decode cX4_atom 64 = .ok (.iadd, 1) := by decide +kernel
theorem dX4_atom_65 : decode cX4_atom 65 = .ok (.invokevirtual 73, 3) := by decide +kernel
theorem dX4_atom_68 : decode cX4_atom 68 = .ok (.ifCond .ne 5, 3) := by decide +kernel
theorem dX4_atom_71 : decode cX4_atom 71 = .ok (.iconst 0, 1) := by decide +kernel
theorem dX4_atom_72 : decode cX4_atom 72 = .ok (.ireturn, 1) := by decide +kernel
theorem dX4_atom_73 : decode cX4_atom 73 = .ok (.aload_n 0, 1) := by decide +kernel
theorem dX4_atom_74 : decode cX4_atom 74 = .ok (.bipush (-3), 2) := by decide +kernel
theorem dX4_atom_76 : decode cX4_atom 76 = .ok (.invokevirtual 69, 3) := by decide +kernel
theorem dX4_atom_79 : decode cX4_atom 79 = .ok (.iconst 1, 1) := by decide +kernel
theorem dX4_atom_80 : decode cX4_atom 80 = .ok (.ireturn, 1) := by decide +kernel
theorem dX4_atom_81 : decode cX4_atom 81 = .ok (.aload_n 0, 1) := by decide +kernel
theorem dX4_atom_82 : decode cX4_atom 82 = .ok (.getfield 9, 3) := by decide +kernel
theorem dX4_atom_85 : decode cX4_atom 85 = .ok (.sipush 140, 3) := by decide +kernel
theorem dX4_atom_88 : decode cX4_atom 88 = .ok (.invokevirtual 52, 3) := by decide +kernel
theorem dX4_atom_91 : decode cX4_atom 91 = .ok (.ifCond .eq 32, 3) := by decide +kernel
theorem dX4_atom_94 : decode cX4_atom 94 = .ok (.aload_n 0, 1) := by decide +kernel
theorem dX4_atom_95 : decode cX4_atom 95 = .ok (.iload_n 1, 1) := by decide +kernel
theorem dX4_atom_96 : decode cX4_atom 96 = .ok (.iconst 1, 1) := by decide +kernel
theorem dX4_atom_97 : decode cX4_atom 97 = .ok (.iadd, 1) := by decide +kernel
theorem dX4_atom_98 : decode cX4_atom 98 = .ok (.invokevirtual 55, 3) := by decide +kernel
theorem dX4_atom_101 : decode cX4_atom 101 = .ok (.ifCond .eq 20, 3) := by decide +kernel
theorem dX4_atom_104 : decode cX4_atom 104 = .ok (.aload_n 0, 1) := by decide +kernel
theorem dX4_atom_105 : decode cX4_atom 105 = .ok (.getfield 9, 3) := by decide +kernel
theorem dX4_atom_108 : decode cX4_atom 108 = .ok (.sipush 141, 3) := by decide +kernel
theorem dX4_atom_111 : decode cX4_atom 111 = .ok (.invokevirtual 58, 3) := by decide +kernel
theorem dX4_atom_114 : decode cX4_atom 114 = .ok (.ifCond .eq 7, 3) := by decide +kernel
theorem dX4_atom_117 : decode cX4_atom 117 = .ok (.iconst 1, 1) := by decide +kernel
theorem dX4_atom_118 : decode cX4_atom 118 = .ok (.goto 4, 3) := by decide +kernel
theorem dX4_atom_121 : decode cX4_atom 121 = .ok (.iconst 0, 1) := by decide +kernel
theorem dX4_atom_122 : decode cX4_atom 122 = .ok (.ireturn, 1) := by decide +kernel
theorem dX4_atom_123 : decode cX4_atom 123 = .ok (.aload_n 0, 1) := by decide +kernel
theorem dX4_atom_124 : decode cX4_atom 124 = .ok (.getfield 9, 3) := by decide +kernel
theorem dX4_atom_127 : decode cX4_atom 127 = .ok (.bipush 7, 2) := by decide +kernel
theorem dX4_atom_129 : decode cX4_atom 129 = .ok (.bipush 9, 2) := by decide +kernel
theorem dX4_atom_131 : decode cX4_atom 131 = .ok (.invokevirtual 41, 3) := by decide +kernel
theorem dX4_atom_134 : decode cX4_atom 134 = .ok (.istore_n 3, 1) := by decide +kernel
theorem dX4_atom_135 : decode cX4_atom 135 = .ok (.iload_n 3, 1) := by decide +kernel
theorem dX4_atom_136 : decode cX4_atom 136 = .ok (.iconst (-1), 1) := by decide +kernel
theorem dX4_atom_137 : decode cX4_atom 137 = .ok (.if_icmp .eq 13, 3) := by decide +kernel
theorem dX4_atom_140 : decode cX4_atom 140 = .ok (.aload_n 0, 1) := by decide +kernel
theorem dX4_atom_141 : decode cX4_atom 141 = .ok (.bipush (-10), 2) := by decide +kernel
theorem dX4_atom_143 : decode cX4_atom 143 = .ok (.iload_n 3, 1) := by decide +kernel
theorem dX4_atom_144 : decode cX4_atom 144 = .ok (.isub, 1) := by decide +kernel
theorem dX4_atom_145 : decode cX4_atom 145 = .ok (.invokevirtual 69, 3) := by decide +kernel
theorem dX4_atom_148 : decode cX4_atom 148 = .ok (.iconst 1, 1) := by decide +kernel
theorem dX4_atom_149 : decode cX4_atom 149 = .ok (.ireturn, 1) := by decide +kernel
theorem dX4_atom_150 : decode cX4_atom 150 = .ok (.aload_n 0, 1) := by decide +kernel
theorem dX4_atom_151 : decode cX4_atom 151 = .ok (.invokevirtual 76, 3) := by decide +kernel
theorem dX4_atom_154 : decode cX4_atom 154 = .ok (.ireturn, 1) := by decide +kernel
set_option maxHeartbeats 4000000 in
set_option maxRecDepth 100000 in
theorem ct_X4_sum {E : xE} {z : Nat} {T : Nat → Nat × Int} {F : Nat → Nat → Int} {I : Nat → Int → Int} {P : Nat → Nat → Option Nat} {Y : Nat → Int → Option Nat} {s r N : Nat} {t : Int → Int} {e : Int} (hs : wScn T P s) (hk0 : zTok t e F I s N) (ht4 : ∀ j : Int, 0 ≤ j → j < 400 → 0 ≤ t j ∧ t j ≤ 255) (he : 0 ≤ e ∧ e ≤ 400) (hsr : s + 4 ≤ r) (hr : wLrd T P r s) {i : Nat} {u q : Int} {g : Int → Int} (hi : i ≤ N) (hq : zB t e i = q) (hu : 0 ≤ u ∧ u + 1 ≤ q) : Ct E 1 mX4_sum 0 0 [.ref r] (z, T, fZ F s r (i) (-1) (u), upA I (r + 4) (g), P, Y) (lRes z T F I P Y s r N t e u g (gSum t e q)) := by
  obtain ⟨r0, r1, -⟩ := id hr
  have s0 := hs.1
  have htb : ∀ j : Int, 0 ≤ j → j < e → 0 ≤ t j ∧ t j ≤ 255 := fun j a b => ht4 j a (by omega)
  have hqb := zB_b (t := t) he.1 i
  rw [hq] at hqb
  refine Ct.of [some (.ref r), none, none, none] kt_X4_sum rfl (Nat.le_of_ble_eq_true rfl) rfl (fun d hd => ?_)
  generalize hX : xN E _ _ _ = X
  refine xg_iconst 1 dX4_sum_0 rfl ?_
  refine xg_istoren 2 _ dX4_sum_1 rfl rfl rfl (by decide) (Or.inr rfl) ?_
  have loop2 : ∀ (mm : Nat) (k i2 fu : Nat) (qk u1 : Int) (acc : List (Int × Int)) (g1 : Int → Int), i2 ≤ N → zB t e i2 = qk → (u1 = u + (acc.length : Int) ∧ (acc.length : Int) ≤ qk - q ∧ q ≤ qk ∧ qk ≤ e ∧ (k : Int) ≤ qk - q) → pCo g g1 u acc → gSum t e q = gSm t e fu qk acc (decide (0 < k)) → e - qk ≤ (fu : Int) → 500 - (k : Int) < (mm : Int) → xG E mX4_sum (xR d 0 0) X 2 [some (.ref r), some (J (k : Int)), none, none] [] (z, T, fZ F s r (i2) (-1) (u1), upA I (r + 4) (g1), P, Y) 0 0 := by
    intro mm
    induction mm with
    | zero => intro k i2 fu qk u1 acc g1 hi9 hq9 hb9 hC hg hf hm; exfalso; omega
    | succ mm ih =>
      intro k i2 fu qk u1 acc g1 hi9 hq9 hb9 hC hg hf hm
      refine xg_iloadn 3 dX4_sum_2 rfl rfl rfl ?_
      refine xg_sipush 6 dX4_sum_3 rfl (by decide) ?_
      refine xg_icge 101 9 dX4_sum_6 rfl rfl (by omega) (fun hb6 => ?_) (fun hb6 => ?_)
      · exfalso; omega
      · skip
        refine xg_aloadn 10 dX4_sum_9 rfl rfl rfl ?_
        refine xg_getP 13 kf_RX4_9 dX4_sum_10 rfl (by assumption) r1 ?_
        refine xg_iconst 14 dX4_sum_13 rfl ?_
        refine xg_bipush 16 dX4_sum_14 rfl (by decide) ?_
        by_cases hA : 0 ≤ zK t e qk ∧ zK t e qk ≤ 6
        rotate_left
        by_cases hB : zK t e qk = 51 ∧ 0 ≤ zNm t e qk ∧ zNm t e qk ≤ 999
        rotate_left 2
        · have hlt := zK_lt (t := t) (e := e) (q := qk) (by omega)
          have hx := zX_b (t := t) hlt
          have hnx := hk0.nx hi9 (by rw [hq9]; exact hlt)
          rw [hq9] at hnx
          refine xg_callV 19 7 [_, _] _ kv_X7_takesFrom ⟨_, _, rfl⟩ kl_RX4_41 dX4_sum_16 rfl (by assumption) (by omega) rfl rfl (Nat.le_of_ble_eq_true rfl) (by omega) ⟨Nat.le_refl _, Nat.le_refl _⟩ (cs_takesFrom hs hk0 ht4 he hsr (i := i2) (q := qk) hi9 hq9 (by omega)) rfl ?_
          rw [if_pos hA, if_pos hA]
          refine xg_istoren 20 _ dX4_sum_19 rfl rfl rfl (by decide) (Or.inr rfl) ?_
          refine xg_iloadn 21 dX4_sum_20 rfl rfl rfl ?_
          refine xg_iconst 22 dX4_sum_21 rfl ?_
          refine xg_iceq 29 25 dX4_sum_22 rfl rfl (by omega) (fun hb22 => ?_) (fun hb22 => ?_)
          · exfalso; omega
          · first
            | (exfalso; omega)
            | skip
              refine xg_iconst 26 dX4_sum_25 rfl ?_
              refine xg_goto 40 dX4_sum_26 rfl ?_
              refine xg_istoren 41 _ dX4_sum_40 rfl rfl rfl (by decide) (Or.inr rfl) ?_
              refine xg_iloadn 42 dX4_sum_41 rfl rfl rfl ?_
              refine xg_iconst 43 dX4_sum_42 rfl ?_
              refine xg_icne 53 46 dX4_sum_43 rfl rfl (by omega) (fun hb43 => ?_) (fun hb43 => ?_)
              · first
                | (exfalso; omega)
                | skip
                  refine xg_aloadn 54 dX4_sum_53 rfl rfl rfl ?_
                  refine xg_iloadn 55 dX4_sum_54 rfl rfl rfl ?_
                  refine xg_iconst 56 dX4_sum_55 rfl ?_
                  refine xg_iceq 66 59 dX4_sum_56 rfl rfl (by omega) (fun hb56 => ?_) (fun hb56 => ?_)
                  · exfalso; omega
                  · first
                    | (exfalso; omega)
                    | skip
                      refine xg_bipush 61 dX4_sum_59 rfl (by decide) ?_
                      refine xg_iloadn 62 dX4_sum_61 rfl rfl rfl ?_
                      refine xg_isub 63 dX4_sum_62 rfl ?_
                      refine xg_goto 67 dX4_sum_63 rfl ?_
                      refine xg_callV 70 4 [_] _ kv_X4_emit ⟨_, _, rfl⟩ kl_RX4_69 dX4_sum_67 rfl (by assumption) (by omega) rfl rfl (Nat.le_of_ble_eq_true rfl) (by omega) ⟨Nat.le_refl _, Nat.le_refl _⟩ (cs_emit hr hsr (by omega)) rfl ?_
                      refine xg_iloadn 71 dX4_sum_70 rfl rfl rfl ?_
                      refine xg_ifle 80 74 dX4_sum_71 rfl rfl (by omega) (fun hb71 => ?_) (fun hb71 => ?_)
                      · have hg2 : gSum t e q = gTail t e fu (zX t e qk) (acc ++ [(zK t e qk, 0)]) := by rw [hg, gSm_s (gPt_w hA), decide_eq_false (by omega), if_neg (by decide), List.append_nil]
                        have hC2 := hC.em2 (v := (-10 - zK t e qk)) (c := zK t e qk) (n :=  0) hb9.1 ((cEnc_f (by omega)).symm)
                        have hl2 : u1 + 1 = u + ((acc ++ [(zK t e qk, 0)]).length : Int) := by rw [List.length_append]; show _ = u + ((acc.length + 1 : Nat) : Int); omega
                        refine xg_aloadn 81 dX4_sum_80 rfl rfl rfl ?_
                        refine xg_getP 84 kf_RX4_9 dX4_sum_81 rfl (by assumption) r1 ?_
                        refine xg_sipush 87 dX4_sum_84 rfl (by decide) ?_
                        refine xg_callV 90 7 [_] _ kv_X7_takes ⟨_, _, rfl⟩ kl_RX4_52 dX4_sum_87 rfl (by assumption) (by omega) rfl rfl (Nat.le_of_ble_eq_true rfl) (by omega) ⟨Nat.le_refl _, Nat.le_refl _⟩ (cs_takes hs hk0 ht4 he hsr (i := i2 + 1) (q := (zX t e qk)) hnx.1 hnx.2 (by omega)) rfl ?_
                        refine xg_dne 95 93 dX4_sum_90 rfl rfl (fun hb90 => ?_) (fun hb90 => ?_)
                        · rw [if_pos hb90]
                          refine xg_iinc 98 _ dX4_sum_95 rfl rfl rfl rfl (by decide) (Or.inr rfl) ?_
                          refine xg_goto 2 dX4_sum_98 rfl ?_
                          have hnx2 := hk0.nx hnx.1 (by rw [hnx.2]; exact zK_lt (t := t) (by omega))
                          rw [hnx.2] at hnx2
                          have hx2 := zX_b (t := t) (zK_lt (t := t) (e := e) (q := zX t e qk) (by omega))
                          obtain ⟨fu, rfl⟩ : ∃ f2, fu = f2 + 1 := ⟨fu - 1, by omega⟩
                          exact xg_weak _ (xle_s rfl (xle_s (by rw [show ((k + 1 : Nat) : Int) = (k : Int) + 1 by omega]) (xle_n (xle_n xle_0)))) (ih (k + 1) (i2 + 1 + 1) fu (zX t e (zX t e qk)) _ _ _ hnx2.1 hnx2.2 ⟨hl2, by have := hl2; omega, by omega, by omega, by omega⟩ hC2 (by rw [hg2, gTail_m (by omega), decide_eq_true (by omega)]) (by omega) (by omega))
                        · rw [if_neg hb90]
                          refine xg_iconst 94 dX4_sum_93 rfl ?_
                          subst hX
                          refine xg_zreturn dX4_sum_94 rfl (by first | exact bI_01 _ | omega) ⟨Nat.le_refl _, Nat.le_refl _⟩ ?_
                          rw [hg2, gTail_out hb90]
                          exact ⟨rfl, _, _, _, hnx.1, hnx.2, hl2, hC2, rfl⟩
                      · have hg2 : gSum t e q = gTail t e fu (zX t e qk) (acc ++ [(zK t e qk, 0)] ++ [(11, 0)]) := by rw [hg, gSm_s (gPt_w hA), decide_eq_true (by omega), if_pos rfl]
                        have hC1 := hC.em2 (v := (-10 - zK t e qk)) (c := zK t e qk) (n :=  0) hb9.1 ((cEnc_f (by omega)).symm)
                        have hl1 : u1 + 1 = u + ((acc ++ [(zK t e qk, 0)]).length : Int) := by rw [List.length_append]; show _ = u + ((acc.length + 1 : Nat) : Int); omega
                        have hC2 := hC1.em2 (v := -4) (c := 11) (n := 0) hl1 rfl
                        have hl2 : u1 + 1 + 1 = u + ((acc ++ [(zK t e qk, 0)] ++ [(11, 0)]).length : Int) := by rw [List.length_append]; show _ = u + (((acc ++ [(zK t e qk, 0)]).length + 1 : Nat) : Int); omega
                        refine xg_aloadn 75 dX4_sum_74 rfl rfl rfl ?_
                        refine xg_bipush 77 dX4_sum_75 rfl (by decide) ?_
                        refine xg_callV 80 4 [_] _ kv_X4_emit ⟨_, _, rfl⟩ kl_RX4_69 dX4_sum_77 rfl (by assumption) (by omega) rfl rfl (Nat.le_of_ble_eq_true rfl) (by omega) ⟨Nat.le_refl _, Nat.le_refl _⟩ (cs_emit hr hsr (by omega)) rfl ?_
                        refine xg_aloadn 81 dX4_sum_80 rfl rfl rfl ?_
                        refine xg_getP 84 kf_RX4_9 dX4_sum_81 rfl (by assumption) r1 ?_
                        refine xg_sipush 87 dX4_sum_84 rfl (by decide) ?_
                        refine xg_callV 90 7 [_] _ kv_X7_takes ⟨_, _, rfl⟩ kl_RX4_52 dX4_sum_87 rfl (by assumption) (by omega) rfl rfl (Nat.le_of_ble_eq_true rfl) (by omega) ⟨Nat.le_refl _, Nat.le_refl _⟩ (cs_takes hs hk0 ht4 he hsr (i := i2 + 1) (q := (zX t e qk)) hnx.1 hnx.2 (by omega)) rfl ?_
                        refine xg_dne 95 93 dX4_sum_90 rfl rfl (fun hb90 => ?_) (fun hb90 => ?_)
                        · rw [if_pos hb90]
                          refine xg_iinc 98 _ dX4_sum_95 rfl rfl rfl rfl (by decide) (Or.inr rfl) ?_
                          refine xg_goto 2 dX4_sum_98 rfl ?_
                          have hnx2 := hk0.nx hnx.1 (by rw [hnx.2]; exact zK_lt (t := t) (by omega))
                          rw [hnx.2] at hnx2
                          have hx2 := zX_b (t := t) (zK_lt (t := t) (e := e) (q := zX t e qk) (by omega))
                          obtain ⟨fu, rfl⟩ : ∃ f2, fu = f2 + 1 := ⟨fu - 1, by omega⟩
                          exact xg_weak _ (xle_s rfl (xle_s (by rw [show ((k + 1 : Nat) : Int) = (k : Int) + 1 by omega]) (xle_n (xle_n xle_0)))) (ih (k + 1) (i2 + 1 + 1) fu (zX t e (zX t e qk)) _ _ _ hnx2.1 hnx2.2 ⟨hl2, by have := hl2; omega, by omega, by omega, by omega⟩ hC2 (by rw [hg2, gTail_m (by omega), decide_eq_true (by omega)]) (by omega) (by omega))
                        · rw [if_neg hb90]
                          refine xg_iconst 94 dX4_sum_93 rfl ?_
                          subst hX
                          refine xg_zreturn dX4_sum_94 rfl (by first | exact bI_01 _ | omega) ⟨Nat.le_refl _, Nat.le_refl _⟩ ?_
                          rw [hg2, gTail_out hb90]
                          exact ⟨rfl, _, _, _, hnx.1, hnx.2, hl2, hC2, rfl⟩
              · exfalso; omega
        · have hlt := zK_lt (t := t) (e := e) (q := qk) (by omega)
          have hx := zX_b (t := t) hlt
          have hnx := hk0.nx hi9 (by rw [hq9]; exact hlt)
          rw [hq9] at hnx
          refine xg_callV 19 7 [_, _] _ kv_X7_takesFrom ⟨_, _, rfl⟩ kl_RX4_41 dX4_sum_16 rfl (by assumption) (by omega) rfl rfl (Nat.le_of_ble_eq_true rfl) (by omega) ⟨Nat.le_refl _, Nat.le_refl _⟩ (cs_takesFrom hs hk0 ht4 he hsr (i := i2) (q := qk) hi9 hq9 (by omega)) rfl ?_
          rw [if_neg hA, if_neg hA]
          refine xg_istoren 20 _ dX4_sum_19 rfl rfl rfl (by decide) (Or.inr rfl) ?_
          refine xg_iloadn 21 dX4_sum_20 rfl rfl rfl ?_
          refine xg_iconst 22 dX4_sum_21 rfl ?_
          refine xg_iceq 29 25 dX4_sum_22 rfl rfl (by omega) (fun hb22 => ?_) (fun hb22 => ?_)
          · first
            | (exfalso; omega)
            | skip
              refine xg_aloadn 30 dX4_sum_29 rfl rfl rfl ?_
              refine xg_getP 33 kf_RX4_9 dX4_sum_30 rfl (by assumption) r1 ?_
              refine xg_iconst 34 dX4_sum_33 rfl ?_
              refine xg_sipush 37 dX4_sum_34 rfl (by decide) ?_
              refine xg_callV 40 7 [_, _] _ kv_X7_needsNumber ⟨_, _, rfl⟩ kl_RX4_49 dX4_sum_37 rfl (by assumption) (by omega) rfl rfl (Nat.le_of_ble_eq_true rfl) (by omega) ⟨Nat.le_refl _, Nat.le_refl _⟩ (cs_needsNumber hs hk0 ht4 he hsr (i := i2) (q := qk) hi9 hq9 (by omega)) rfl ?_
              rw [if_pos hB, show zNb0 t e qk 0 999 = zNm t e qk from if_pos hB]
              refine xg_istoren 41 _ dX4_sum_40 rfl rfl rfl (by decide) (Or.inr rfl) ?_
              refine xg_iloadn 42 dX4_sum_41 rfl rfl rfl ?_
              refine xg_iconst 43 dX4_sum_42 rfl ?_
              refine xg_icne 53 46 dX4_sum_43 rfl rfl (by omega) (fun hb43 => ?_) (fun hb43 => ?_)
              · exfalso; omega
              · first
                | (exfalso; omega)
                | skip
                  refine xg_iloadn 47 dX4_sum_46 rfl rfl rfl ?_
                  refine xg_iconst 48 dX4_sum_47 rfl ?_
                  refine xg_icne 53 51 dX4_sum_48 rfl rfl (by omega) (fun hb48 => ?_) (fun hb48 => ?_)
                  · first
                    | (exfalso; omega)
                    | skip
                      refine xg_aloadn 54 dX4_sum_53 rfl rfl rfl ?_
                      refine xg_iloadn 55 dX4_sum_54 rfl rfl rfl ?_
                      refine xg_iconst 56 dX4_sum_55 rfl ?_
                      refine xg_iceq 66 59 dX4_sum_56 rfl rfl (by omega) (fun hb56 => ?_) (fun hb56 => ?_)
                      · first
                        | (exfalso; omega)
                        | skip
                          refine xg_iloadn 67 dX4_sum_66 rfl rfl rfl ?_
                          refine xg_callV 70 4 [_] _ kv_X4_emit ⟨_, _, rfl⟩ kl_RX4_69 dX4_sum_67 rfl (by assumption) (by omega) rfl rfl (Nat.le_of_ble_eq_true rfl) (by omega) ⟨Nat.le_refl _, Nat.le_refl _⟩ (cs_emit hr hsr (by omega)) rfl ?_
                          refine xg_iloadn 71 dX4_sum_70 rfl rfl rfl ?_
                          refine xg_ifle 80 74 dX4_sum_71 rfl rfl (by omega) (fun hb71 => ?_) (fun hb71 => ?_)
                          · have hg2 : gSum t e q = gTail t e fu (zX t e qk) (acc ++ [(10, zNm t e qk)]) := by rw [hg, gSm_s (gPt_n hB), decide_eq_false (by omega), if_neg (by decide), List.append_nil]
                            have hC2 := hC.em2 (v := (zNm t e qk)) (c := 10) (n :=  zNm t e qk) hb9.1 (cEnc_n.symm)
                            have hl2 : u1 + 1 = u + ((acc ++ [(10, zNm t e qk)]).length : Int) := by rw [List.length_append]; show _ = u + ((acc.length + 1 : Nat) : Int); omega
                            refine xg_aloadn 81 dX4_sum_80 rfl rfl rfl ?_
                            refine xg_getP 84 kf_RX4_9 dX4_sum_81 rfl (by assumption) r1 ?_
                            refine xg_sipush 87 dX4_sum_84 rfl (by decide) ?_
                            refine xg_callV 90 7 [_] _ kv_X7_takes ⟨_, _, rfl⟩ kl_RX4_52 dX4_sum_87 rfl (by assumption) (by omega) rfl rfl (Nat.le_of_ble_eq_true rfl) (by omega) ⟨Nat.le_refl _, Nat.le_refl _⟩ (cs_takes hs hk0 ht4 he hsr (i := i2 + 1) (q := (zX t e qk)) hnx.1 hnx.2 (by omega)) rfl ?_
                            refine xg_dne 95 93 dX4_sum_90 rfl rfl (fun hb90 => ?_) (fun hb90 => ?_)
                            · rw [if_pos hb90]
                              refine xg_iinc 98 _ dX4_sum_95 rfl rfl rfl rfl (by decide) (Or.inr rfl) ?_
                              refine xg_goto 2 dX4_sum_98 rfl ?_
                              have hnx2 := hk0.nx hnx.1 (by rw [hnx.2]; exact zK_lt (t := t) (by omega))
                              rw [hnx.2] at hnx2
                              have hx2 := zX_b (t := t) (zK_lt (t := t) (e := e) (q := zX t e qk) (by omega))
                              obtain ⟨fu, rfl⟩ : ∃ f2, fu = f2 + 1 := ⟨fu - 1, by omega⟩
                              exact xg_weak _ (xle_s rfl (xle_s (by rw [show ((k + 1 : Nat) : Int) = (k : Int) + 1 by omega]) (xle_n (xle_n xle_0)))) (ih (k + 1) (i2 + 1 + 1) fu (zX t e (zX t e qk)) _ _ _ hnx2.1 hnx2.2 ⟨hl2, by have := hl2; omega, by omega, by omega, by omega⟩ hC2 (by rw [hg2, gTail_m (by omega), decide_eq_true (by omega)]) (by omega) (by omega))
                            · rw [if_neg hb90]
                              refine xg_iconst 94 dX4_sum_93 rfl ?_
                              subst hX
                              refine xg_zreturn dX4_sum_94 rfl (by first | exact bI_01 _ | omega) ⟨Nat.le_refl _, Nat.le_refl _⟩ ?_
                              rw [hg2, gTail_out hb90]
                              exact ⟨rfl, _, _, _, hnx.1, hnx.2, hl2, hC2, rfl⟩
                          · have hg2 : gSum t e q = gTail t e fu (zX t e qk) (acc ++ [(10, zNm t e qk)] ++ [(11, 0)]) := by rw [hg, gSm_s (gPt_n hB), decide_eq_true (by omega), if_pos rfl]
                            have hC1 := hC.em2 (v := (zNm t e qk)) (c := 10) (n :=  zNm t e qk) hb9.1 (cEnc_n.symm)
                            have hl1 : u1 + 1 = u + ((acc ++ [(10, zNm t e qk)]).length : Int) := by rw [List.length_append]; show _ = u + ((acc.length + 1 : Nat) : Int); omega
                            have hC2 := hC1.em2 (v := -4) (c := 11) (n := 0) hl1 rfl
                            have hl2 : u1 + 1 + 1 = u + ((acc ++ [(10, zNm t e qk)] ++ [(11, 0)]).length : Int) := by rw [List.length_append]; show _ = u + (((acc ++ [(10, zNm t e qk)]).length + 1 : Nat) : Int); omega
                            refine xg_aloadn 75 dX4_sum_74 rfl rfl rfl ?_
                            refine xg_bipush 77 dX4_sum_75 rfl (by decide) ?_
                            refine xg_callV 80 4 [_] _ kv_X4_emit ⟨_, _, rfl⟩ kl_RX4_69 dX4_sum_77 rfl (by assumption) (by omega) rfl rfl (Nat.le_of_ble_eq_true rfl) (by omega) ⟨Nat.le_refl _, Nat.le_refl _⟩ (cs_emit hr hsr (by omega)) rfl ?_
                            refine xg_aloadn 81 dX4_sum_80 rfl rfl rfl ?_
                            refine xg_getP 84 kf_RX4_9 dX4_sum_81 rfl (by assumption) r1 ?_
                            refine xg_sipush 87 dX4_sum_84 rfl (by decide) ?_
                            refine xg_callV 90 7 [_] _ kv_X7_takes ⟨_, _, rfl⟩ kl_RX4_52 dX4_sum_87 rfl (by assumption) (by omega) rfl rfl (Nat.le_of_ble_eq_true rfl) (by omega) ⟨Nat.le_refl _, Nat.le_refl _⟩ (cs_takes hs hk0 ht4 he hsr (i := i2 + 1) (q := (zX t e qk)) hnx.1 hnx.2 (by omega)) rfl ?_
                            refine xg_dne 95 93 dX4_sum_90 rfl rfl (fun hb90 => ?_) (fun hb90 => ?_)
                            · rw [if_pos hb90]
                              refine xg_iinc 98 _ dX4_sum_95 rfl rfl rfl rfl (by decide) (Or.inr rfl) ?_
                              refine xg_goto 2 dX4_sum_98 rfl ?_
                              have hnx2 := hk0.nx hnx.1 (by rw [hnx.2]; exact zK_lt (t := t) (by omega))
                              rw [hnx.2] at hnx2
                              have hx2 := zX_b (t := t) (zK_lt (t := t) (e := e) (q := zX t e qk) (by omega))
                              obtain ⟨fu, rfl⟩ : ∃ f2, fu = f2 + 1 := ⟨fu - 1, by omega⟩
                              exact xg_weak _ (xle_s rfl (xle_s (by rw [show ((k + 1 : Nat) : Int) = (k : Int) + 1 by omega]) (xle_n (xle_n xle_0)))) (ih (k + 1) (i2 + 1 + 1) fu (zX t e (zX t e qk)) _ _ _ hnx2.1 hnx2.2 ⟨hl2, by have := hl2; omega, by omega, by omega, by omega⟩ hC2 (by rw [hg2, gTail_m (by omega), decide_eq_true (by omega)]) (by omega) (by omega))
                            · rw [if_neg hb90]
                              refine xg_iconst 94 dX4_sum_93 rfl ?_
                              subst hX
                              refine xg_zreturn dX4_sum_94 rfl (by first | exact bI_01 _ | omega) ⟨Nat.le_refl _, Nat.le_refl _⟩ ?_
                              rw [hg2, gTail_out hb90]
                              exact ⟨rfl, _, _, _, hnx.1, hnx.2, hl2, hC2, rfl⟩
                      · exfalso; omega
                  · exfalso; omega
          · exfalso; omega
        · skip
          refine xg_callV 19 7 [_, _] _ kv_X7_takesFrom ⟨_, _, rfl⟩ kl_RX4_41 dX4_sum_16 rfl (by assumption) (by omega) rfl rfl (Nat.le_of_ble_eq_true rfl) (by omega) ⟨Nat.le_refl _, Nat.le_refl _⟩ (cs_takesFrom hs hk0 ht4 he hsr (i := i2) (q := qk) hi9 hq9 (by omega)) rfl ?_
          rw [if_neg hA, if_neg hA]
          refine xg_istoren 20 _ dX4_sum_19 rfl rfl rfl (by decide) (Or.inr rfl) ?_
          refine xg_iloadn 21 dX4_sum_20 rfl rfl rfl ?_
          refine xg_iconst 22 dX4_sum_21 rfl ?_
          refine xg_iceq 29 25 dX4_sum_22 rfl rfl (by omega) (fun hb22 => ?_) (fun hb22 => ?_)
          · first
            | (exfalso; omega)
            | skip
              refine xg_aloadn 30 dX4_sum_29 rfl rfl rfl ?_
              refine xg_getP 33 kf_RX4_9 dX4_sum_30 rfl (by assumption) r1 ?_
              refine xg_iconst 34 dX4_sum_33 rfl ?_
              refine xg_sipush 37 dX4_sum_34 rfl (by decide) ?_
              refine xg_callV 40 7 [_, _] _ kv_X7_needsNumber ⟨_, _, rfl⟩ kl_RX4_49 dX4_sum_37 rfl (by assumption) (by omega) rfl rfl (Nat.le_of_ble_eq_true rfl) (by omega) ⟨Nat.le_refl _, Nat.le_refl _⟩ (cs_needsNumber hs hk0 ht4 he hsr (i := i2) (q := qk) hi9 hq9 (by omega)) rfl ?_
              rw [if_neg hB, show zNb0 t e qk 0 999 = -1 from if_neg hB]
              refine xg_istoren 41 _ dX4_sum_40 rfl rfl rfl (by decide) (Or.inr rfl) ?_
              refine xg_iloadn 42 dX4_sum_41 rfl rfl rfl ?_
              refine xg_iconst 43 dX4_sum_42 rfl ?_
              refine xg_icne 53 46 dX4_sum_43 rfl rfl (by omega) (fun hb43 => ?_) (fun hb43 => ?_)
              · exfalso; omega
              · first
                | (exfalso; omega)
                | skip
                  refine xg_iloadn 47 dX4_sum_46 rfl rfl rfl ?_
                  refine xg_iconst 48 dX4_sum_47 rfl ?_
                  refine xg_icne 53 51 dX4_sum_48 rfl rfl (by omega) (fun hb48 => ?_) (fun hb48 => ?_)
                  · exfalso; omega
                  · first
                    | (exfalso; omega)
                    | skip
                      refine xg_iconst 52 dX4_sum_51 rfl ?_
                      subst hX
                      refine xg_zreturn dX4_sum_52 rfl (by first | exact bI_01 _ | omega) ⟨Nat.le_refl _, Nat.le_refl _⟩ ?_
                      rw [hg, gSm_n (gPt_f hA hB)]
                      exact ⟨rfl, _, _, _, hi9, rfl⟩
          · exfalso; omega
  exact xg_weak _ (xle_s rfl (xle_s rfl (xle_n (xle_n xle_0)))) (loop2 600 0 i 400 q u [] g hi hq ⟨by show u = u + ((0 : Nat) : Int); omega, by show ((0 : Nat) : Int) ≤ _; omega, by omega, by omega, by omega⟩ pCo.nil gSm_0 (by omega) (by omega))

set_option maxHeartbeats 4000000 in
set_option maxRecDepth 100000 in
theorem ct_X4_comparison {E : xE} {z : Nat} {T : Nat → Nat × Int} {F : Nat → Nat → Int} {I : Nat → Int → Int} {P : Nat → Nat → Option Nat} {Y : Nat → Int → Option Nat} {s r N : Nat} {t : Int → Int} {e : Int} (hs : wScn T P s) (hk0 : zTok t e F I s N) (ht4 : ∀ j : Int, 0 ≤ j → j < 400 → 0 ≤ t j ∧ t j ≤ 255) (he : 0 ≤ e ∧ e ≤ 400) (hsr : s + 4 ≤ r) (hr : wLrd T P r s) {i : Nat} {u q : Int} {g : Int → Int} (hi : i ≤ N) (hq : zB t e i = q) (hu : 0 ≤ u ∧ u + 1 ≤ q) : Ct E 2 mX4_comparison 0 0 [.ref r] (z, T, fZ F s r (i) (-1) (u), upA I (r + 4) (g), P, Y) (lRes z T F I P Y s r N t e u g (gComp t e q)) := by
  obtain ⟨r0, r1, -⟩ := id hr
  have s0 := hs.1
  have htb : ∀ j : Int, 0 ≤ j → j < e → 0 ≤ t j ∧ t j ≤ 255 := fun j a b => ht4 j a (by omega)
  have hqb := zB_b (t := t) he.1 i
  rw [hq] at hqb
  refine Ct.of [some (.ref r), none] kt_X4_comparison rfl (Nat.le_of_ble_eq_true rfl) rfl (fun d hd => ?_)
  generalize hX : xN E _ _ _ = X
  refine xg_aloadn 1 dX4_comparison_0 rfl rfl rfl ?_
  have hok3 := gSum_ok (t := t) hqb.2.1
  rcases hs3 : gSum t e q with f3 | ⟨cs3, q3⟩
  · rw [hs3] at hok3
    have hok3a := hok3.1
    have hok3b := hok3.2
    refine xg_callVe 4 4 [] _ kv_X4_sum ⟨_, _, rfl⟩ kl_RX4_79 dX4_comparison_1 rfl (by assumption) (by omega) rfl rfl (Nat.le_of_ble_eq_true rfl) (by omega) ⟨Nat.le_refl _, Nat.le_refl _⟩ (lRes.cg hs3 (ct_X4_sum hs hk0 ht4 he hsr hr hi hq hu)) rfl (fun v9 h9 e9 => ?_)
    obtain ⟨rfl, i3, u3, g3, hi3, rfl⟩ := e9
    refine xg_ifne 9 7 dX4_comparison_4 rfl rfl (by omega) (fun hb4 => ?_) (fun hb4 => ?_)
    · exfalso; omega
    · skip
      refine xg_iconst 8 dX4_comparison_7 rfl ?_
      subst hX
      refine xg_zreturn dX4_comparison_8 rfl (by first | exact bI_01 _ | omega) ⟨Nat.le_refl _, Nat.le_refl _⟩ ?_
      rw [gComp_1 hs3]
      exact ⟨rfl, _, _, _, hi3, rfl⟩
  · rw [hs3] at hok3
    obtain ⟨ho3, hoe3, hol3, hoc3⟩ := hok3
    refine xg_callVe 4 4 [] _ kv_X4_sum ⟨_, _, rfl⟩ kl_RX4_79 dX4_comparison_1 rfl (by assumption) (by omega) rfl rfl (Nat.le_of_ble_eq_true rfl) (by omega) ⟨Nat.le_refl _, Nat.le_refl _⟩ (lRes.cg hs3 (ct_X4_sum hs hk0 ht4 he hsr hr hi hq hu)) rfl (fun v9 h9 e9 => ?_)
    obtain ⟨rfl, i3, u3, g3, hi3, hq3, hu3, hC3, rfl⟩ := e9
    refine xg_ifne 9 7 dX4_comparison_4 rfl rfl (by omega) (fun hb4 => ?_) (fun hb4 => ?_)
    · skip
      refine xg_aloadn 10 dX4_comparison_9 rfl rfl rfl ?_
      refine xg_getP 13 kf_RX4_9 dX4_comparison_10 rfl (by assumption) r1 ?_
      refine xg_sipush 16 dX4_comparison_13 rfl (by decide) ?_
      refine xg_callV 19 7 [_] _ kv_X7_takes ⟨_, _, rfl⟩ kl_RX4_52 dX4_comparison_16 rfl (by assumption) (by omega) rfl rfl (Nat.le_of_ble_eq_true rfl) (by omega) ⟨Nat.le_refl _, Nat.le_refl _⟩ (cs_takes hs hk0 ht4 he hsr (i := i3) (q := q3) hi3 hq3 (by omega)) rfl ?_
      refine xg_istoren 20 _ dX4_comparison_19 rfl rfl rfl (by decide) (Or.inr rfl) ?_
      refine xg_iloadn 21 dX4_comparison_20 rfl rfl rfl ?_
      refine xg_dne 39 24 dX4_comparison_21 rfl rfl (fun hb21 => ?_) (fun hb21 => ?_)
      · rw [if_pos hb21]
        have hltA := zK_lt (t := t) (e := e) (q := q3) (by omega)
        have hxA := zX_b (t := t) hltA
        have hnA := hk0.nx hi3 (by rw [hq3]; exact hltA)
        rw [hq3] at hnA
        refine xg_aloadn 40 dX4_comparison_39 rfl rfl rfl ?_
        have hok5 := gSum_ok (t := t) hxA.2
        rcases hs5 : gSum t e (zX t e q3) with f5 | ⟨cs5, q5⟩
        · rw [hs5] at hok5
          have hok5a := hok5.1
          have hok5b := hok5.2
          refine xg_callVe 43 4 [] _ kv_X4_sum ⟨_, _, rfl⟩ kl_RX4_79 dX4_comparison_40 rfl (by assumption) (by omega) rfl rfl (Nat.le_of_ble_eq_true rfl) (by omega) ⟨Nat.le_refl _, Nat.le_refl _⟩ (lRes.cg hs5 (ct_X4_sum hs hk0 ht4 he hsr hr (i := i3 + 1) (q := zX t e q3) hnA.1 hnA.2 (by omega))) rfl (fun v9 h9 e9 => ?_)
          obtain ⟨rfl, i5, u5, g5, hi5, rfl⟩ := e9
          refine xg_ifne 48 46 dX4_comparison_43 rfl rfl (by omega) (fun hb43 => ?_) (fun hb43 => ?_)
          · exfalso; omega
          · skip
            refine xg_iconst 47 dX4_comparison_46 rfl ?_
            subst hX
            refine xg_zreturn dX4_comparison_47 rfl (by first | exact bI_01 _ | omega) ⟨Nat.le_refl _, Nat.le_refl _⟩ ?_
            rw [gComp_3 hs3 (by omega) hs5]
            exact ⟨rfl, _, _, _, hi5, rfl⟩
        · rw [hs5] at hok5
          obtain ⟨ho5, hoe5, hol5, hoc5⟩ := hok5
          refine xg_callVe 43 4 [] _ kv_X4_sum ⟨_, _, rfl⟩ kl_RX4_79 dX4_comparison_40 rfl (by assumption) (by omega) rfl rfl (Nat.le_of_ble_eq_true rfl) (by omega) ⟨Nat.le_refl _, Nat.le_refl _⟩ (lRes.cg hs5 (ct_X4_sum hs hk0 ht4 he hsr hr (i := i3 + 1) (q := zX t e q3) hnA.1 hnA.2 (by omega))) rfl (fun v9 h9 e9 => ?_)
          obtain ⟨rfl, i5, u5, g5, hi5, hq5, hu5, hC5, rfl⟩ := e9
          refine xg_ifne 48 46 dX4_comparison_43 rfl rfl (by omega) (fun hb43 => ?_) (fun hb43 => ?_)
          · skip
            refine xg_aloadn 49 dX4_comparison_48 rfl rfl rfl ?_
            refine xg_iloadn 50 dX4_comparison_49 rfl rfl rfl ?_
            refine xg_deq 58 53 dX4_comparison_50 rfl rfl (fun hb50 => ?_) (fun hb50 => ?_)
            · skip
              refine xg_bipush 60 dX4_comparison_58 rfl (by decide) ?_
              refine xg_callV 63 4 [_] _ kv_X4_emit ⟨_, _, rfl⟩ kl_RX4_69 dX4_comparison_60 rfl (by assumption) (by omega) rfl rfl (Nat.le_of_ble_eq_true rfl) (by omega) ⟨Nat.le_refl _, Nat.le_refl _⟩ (cs_emit hr hsr (by omega)) rfl ?_
              refine xg_iconst 64 dX4_comparison_63 rfl ?_
              subst hX
              refine xg_zreturn dX4_comparison_64 rfl (by first | exact bI_01 _ | omega) ⟨Nat.le_refl _, Nat.le_refl _⟩ ?_
              exfalso; omega
            · skip
              refine xg_bipush 55 dX4_comparison_53 rfl (by decide) ?_
              refine xg_goto 60 dX4_comparison_55 rfl ?_
              refine xg_callV 63 4 [_] _ kv_X4_emit ⟨_, _, rfl⟩ kl_RX4_69 dX4_comparison_60 rfl (by assumption) (by omega) rfl rfl (Nat.le_of_ble_eq_true rfl) (by omega) ⟨Nat.le_refl _, Nat.le_refl _⟩ (cs_emit hr hsr (by omega)) rfl ?_
              refine xg_iconst 64 dX4_comparison_63 rfl ?_
              subst hX
              refine xg_zreturn dX4_comparison_64 rfl (by first | exact bI_01 _ | omega) ⟨Nat.le_refl _, Nat.le_refl _⟩ ?_
              rw [gComp_4 hs3 (o := 12) (by omega) hs5]
              exact ⟨rfl, i5, u5 + 1, wS g5 u5 (-5), hi5, hq5, by rw [List.length_append, List.length_append]; show u5 + 1 = u + ((cs3.length + cs5.length + 1 : Nat) : Int); omega, (hC3.app hC5 hu3).em2 (by rw [List.length_append]; omega) rfl, rfl⟩
          · exfalso; omega
      · rw [if_neg hb21]
        refine xg_aloadn 25 dX4_comparison_24 rfl rfl rfl ?_
        refine xg_getP 28 kf_RX4_9 dX4_comparison_25 rfl (by assumption) r1 ?_
        refine xg_sipush 31 dX4_comparison_28 rfl (by decide) ?_
        refine xg_callV 34 7 [_] _ kv_X7_needs ⟨_, _, rfl⟩ kl_RX4_58 dX4_comparison_31 rfl (by assumption) (by omega) rfl rfl (Nat.le_of_ble_eq_true rfl) (by omega) ⟨Nat.le_refl _, Nat.le_refl _⟩ (cs_needs hs hk0 ht4 he hsr (i := i3) (q := q3) hi3 hq3 (by omega)) rfl ?_
        refine xg_dne 39 37 dX4_comparison_34 rfl rfl (fun hb34 => ?_) (fun hb34 => ?_)
        · rw [if_pos hb34]
          have hltA := zK_lt (t := t) (e := e) (q := q3) (by omega)
          have hxA := zX_b (t := t) hltA
          have hnA := hk0.nx hi3 (by rw [hq3]; exact hltA)
          rw [hq3] at hnA
          refine xg_aloadn 40 dX4_comparison_39 rfl rfl rfl ?_
          have hok5 := gSum_ok (t := t) hxA.2
          rcases hs5 : gSum t e (zX t e q3) with f5 | ⟨cs5, q5⟩
          · rw [hs5] at hok5
            have hok5a := hok5.1
            have hok5b := hok5.2
            refine xg_callVe 43 4 [] _ kv_X4_sum ⟨_, _, rfl⟩ kl_RX4_79 dX4_comparison_40 rfl (by assumption) (by omega) rfl rfl (Nat.le_of_ble_eq_true rfl) (by omega) ⟨Nat.le_refl _, Nat.le_refl _⟩ (lRes.cg hs5 (ct_X4_sum hs hk0 ht4 he hsr hr (i := i3 + 1) (q := zX t e q3) hnA.1 hnA.2 (by omega))) rfl (fun v9 h9 e9 => ?_)
            obtain ⟨rfl, i5, u5, g5, hi5, rfl⟩ := e9
            refine xg_ifne 48 46 dX4_comparison_43 rfl rfl (by omega) (fun hb43 => ?_) (fun hb43 => ?_)
            · exfalso; omega
            · skip
              refine xg_iconst 47 dX4_comparison_46 rfl ?_
              subst hX
              refine xg_zreturn dX4_comparison_47 rfl (by first | exact bI_01 _ | omega) ⟨Nat.le_refl _, Nat.le_refl _⟩ ?_
              rw [gComp_3 hs3 (by omega) hs5]
              exact ⟨rfl, _, _, _, hi5, rfl⟩
          · rw [hs5] at hok5
            obtain ⟨ho5, hoe5, hol5, hoc5⟩ := hok5
            refine xg_callVe 43 4 [] _ kv_X4_sum ⟨_, _, rfl⟩ kl_RX4_79 dX4_comparison_40 rfl (by assumption) (by omega) rfl rfl (Nat.le_of_ble_eq_true rfl) (by omega) ⟨Nat.le_refl _, Nat.le_refl _⟩ (lRes.cg hs5 (ct_X4_sum hs hk0 ht4 he hsr hr (i := i3 + 1) (q := zX t e q3) hnA.1 hnA.2 (by omega))) rfl (fun v9 h9 e9 => ?_)
            obtain ⟨rfl, i5, u5, g5, hi5, hq5, hu5, hC5, rfl⟩ := e9
            refine xg_ifne 48 46 dX4_comparison_43 rfl rfl (by omega) (fun hb43 => ?_) (fun hb43 => ?_)
            · skip
              refine xg_aloadn 49 dX4_comparison_48 rfl rfl rfl ?_
              refine xg_iloadn 50 dX4_comparison_49 rfl rfl rfl ?_
              refine xg_deq 58 53 dX4_comparison_50 rfl rfl (fun hb50 => ?_) (fun hb50 => ?_)
              · skip
                refine xg_bipush 60 dX4_comparison_58 rfl (by decide) ?_
                refine xg_callV 63 4 [_] _ kv_X4_emit ⟨_, _, rfl⟩ kl_RX4_69 dX4_comparison_60 rfl (by assumption) (by omega) rfl rfl (Nat.le_of_ble_eq_true rfl) (by omega) ⟨Nat.le_refl _, Nat.le_refl _⟩ (cs_emit hr hsr (by omega)) rfl ?_
                refine xg_iconst 64 dX4_comparison_63 rfl ?_
                subst hX
                refine xg_zreturn dX4_comparison_64 rfl (by first | exact bI_01 _ | omega) ⟨Nat.le_refl _, Nat.le_refl _⟩ ?_
                rw [gComp_4 hs3 (o := 13) (by omega) hs5]
                exact ⟨rfl, i5, u5 + 1, wS g5 u5 (-6), hi5, hq5, by rw [List.length_append, List.length_append]; show u5 + 1 = u + ((cs3.length + cs5.length + 1 : Nat) : Int); omega, (hC3.app hC5 hu3).em2 (by rw [List.length_append]; omega) rfl, rfl⟩
              · skip
                refine xg_bipush 55 dX4_comparison_53 rfl (by decide) ?_
                refine xg_goto 60 dX4_comparison_55 rfl ?_
                refine xg_callV 63 4 [_] _ kv_X4_emit ⟨_, _, rfl⟩ kl_RX4_69 dX4_comparison_60 rfl (by assumption) (by omega) rfl rfl (Nat.le_of_ble_eq_true rfl) (by omega) ⟨Nat.le_refl _, Nat.le_refl _⟩ (cs_emit hr hsr (by omega)) rfl ?_
                refine xg_iconst 64 dX4_comparison_63 rfl ?_
                subst hX
                refine xg_zreturn dX4_comparison_64 rfl (by first | exact bI_01 _ | omega) ⟨Nat.le_refl _, Nat.le_refl _⟩ ?_
                exfalso; omega
            · exfalso; omega
        · rw [if_neg hb34]
          refine xg_iconst 38 dX4_comparison_37 rfl ?_
          subst hX
          refine xg_zreturn dX4_comparison_38 rfl (by first | exact bI_01 _ | omega) ⟨Nat.le_refl _, Nat.le_refl _⟩ ?_
          rw [gComp_2 hs3 (by omega)]
          exact ⟨rfl, _, _, _, hi3, rfl⟩
    · exfalso; omega

/-- the class reads an atom lv levels from the deepest -/
def AtL (E : xE) (z : Nat) (T : Nat → Nat × Int) (F : Nat → Nat → Int) (I : Nat → Int → Int) (P : Nat → Nat → Option Nat) (Y : Nat → Int → Option Nat) (s r N : Nat) (t : Int → Int) (e : Int) (lv : Nat) : Prop := ∀ (i : Nat) (u q : Int) (g : Int → Int), i ≤ N → zB t e i = q → (0 ≤ u ∧ u + 1 ≤ q) → Ct E (20 + 4 * lv) mX4_atom 0 0 [.ref r, J (6 - (lv : Int))] (z, T, fZ F s r (i) (-1) (u), upA I (r + 4) (g), P, Y) (lRes z T F I P Y s r N t e u g (gAtom t e lv q))
set_option maxHeartbeats 4000000 in
set_option maxRecDepth 100000 in
theorem ct_X4_allOf {E : xE} {z : Nat} {T : Nat → Nat × Int} {F : Nat → Nat → Int} {I : Nat → Int → Int} {P : Nat → Nat → Option Nat} {Y : Nat → Int → Option Nat} {s r N : Nat} {t : Int → Int} {e : Int} (hs : wScn T P s) (hk0 : zTok t e F I s N) (ht4 : ∀ j : Int, 0 ≤ j → j < 400 → 0 ≤ t j ∧ t j ≤ 255) (he : 0 ≤ e ∧ e ≤ 400) (hsr : s + 4 ≤ r) (hr : wLrd T P r s) {i : Nat} {u q : Int} {g : Int → Int} (hi : i ≤ N) (hq : zB t e i = q) (hu : 0 ≤ u ∧ u + 1 ≤ q) {lv : Nat} (hA : AtL E z T F I P Y s r N t e lv) : Ct E (21 + 4 * lv) mX4_allOf 0 0 [.ref r, J (6 - (lv : Int))] (z, T, fZ F s r (i) (-1) (u), upA I (r + 4) (g), P, Y) (lRes z T F I P Y s r N t e u g (gAll t e (gAtom t e lv) q)) := by
  obtain ⟨r0, r1, -⟩ := id hr
  have s0 := hs.1
  have htb : ∀ j : Int, 0 ≤ j → j < e → 0 ≤ t j ∧ t j ≤ 255 := fun j a b => ht4 j a (by omega)
  have hqb := zB_b (t := t) he.1 i
  rw [hq] at hqb
  refine Ct.of [some (.ref r), some (J (6 - (lv : Int))), none] kt_X4_allOf rfl (Nat.le_of_ble_eq_true rfl) rfl (fun d hd => ?_)
  generalize hX : xN E _ _ _ = X
  refine xg_aloadn 1 dX4_allOf_0 rfl rfl rfl ?_
  refine xg_iloadn 2 dX4_allOf_1 rfl rfl rfl ?_
  have hok0 := gAtom_ok (t := t) lv _ hqb.2.1
  rcases hs0 : gAtom t e lv q with f0 | ⟨cs0, q0⟩
  · rw [hs0] at hok0
    have hok0a := hok0.1
    have hok0b := hok0.2
    refine xg_callVe 5 4 [_] _ kv_X4_atom ⟨_, _, rfl⟩ kl_RX4_73 dX4_allOf_2 rfl (by assumption) (by omega) rfl rfl (Nat.le_of_ble_eq_true rfl) (by omega) ⟨Nat.le_refl _, Nat.le_refl _⟩ (lRes.cg hs0 (hA i _ q _ hi hq hu)) rfl (fun v9 h9 e9 => ?_)
    obtain ⟨rfl, i0, u0, g0, hi0, rfl⟩ := e9
    refine xg_ifne 10 8 dX4_allOf_5 rfl rfl (by omega) (fun hb5 => ?_) (fun hb5 => ?_)
    · exfalso; omega
    · skip
      refine xg_iconst 9 dX4_allOf_8 rfl ?_
      subst hX
      refine xg_zreturn dX4_allOf_9 rfl (by first | exact bI_01 _ | omega) ⟨Nat.le_refl _, Nat.le_refl _⟩ ?_
      rw [show gAll t e (gAtom t e lv) q = .inl f0 from gMany_n hs0]
      exact ⟨rfl, _, _, _, hi0, rfl⟩
  · rw [hs0] at hok0
    obtain ⟨ho0, hoe0, hol0, hoc0⟩ := hok0
    refine xg_callVe 5 4 [_] _ kv_X4_atom ⟨_, _, rfl⟩ kl_RX4_73 dX4_allOf_2 rfl (by assumption) (by omega) rfl rfl (Nat.le_of_ble_eq_true rfl) (by omega) ⟨Nat.le_refl _, Nat.le_refl _⟩ (lRes.cg hs0 (hA i _ q _ hi hq hu)) rfl (fun v9 h9 e9 => ?_)
    obtain ⟨rfl, i0, u0, g0, hi0, hq0, hu0, hC0, rfl⟩ := e9
    refine xg_ifne 10 8 dX4_allOf_5 rfl rfl (by omega) (fun hb5 => ?_) (fun hb5 => ?_)
    · skip
      refine xg_iconst 11 dX4_allOf_10 rfl ?_
      refine xg_istoren 12 _ dX4_allOf_11 rfl rfl rfl (by decide) (Or.inr rfl) ?_
      have loop12 : ∀ (mm : Nat) (k n i1 : Nat) (q1 u1 : Int) (acc : List (Int × Int)) (g1 : Int → Int), i1 ≤ N → zB t e i1 = q1 → (u1 = u + (acc.length : Int) ∧ (acc.length : Int) ≤ q1 - q ∧ q ≤ q1 ∧ q1 ≤ e ∧ (n : Int) ≤ q1 - q) → pCo g g1 u acc → gAll t e (gAtom t e lv) q = gMore t e 19 15 (gAtom t e lv) k q1 acc → e - q1 ≤ (k : Int) → 500 - (n : Int) < (mm : Int) → xG E mX4_allOf (xR d 0 0) X 12 [some (.ref r), some (J (6 - (lv : Int))), some (J (n : Int))] [] (z, T, fZ F s r (i1) (-1) (u1), upA I (r + 4) (g1), P, Y) 0 0 := by
        intro mm
        induction mm with
        | zero => intro k n i1 q1 u1 acc g1 hi1 hq1 hb9 hC hg hf hm; exfalso; omega
        | succ mm ih =>
          intro k n i1 q1 u1 acc g1 hi1 hq1 hb9 hC hg hf hm
          refine xg_iloadn 13 dX4_allOf_12 rfl rfl rfl ?_
          refine xg_sipush 16 dX4_allOf_13 rfl (by decide) ?_
          refine xg_icge 52 19 dX4_allOf_16 rfl rfl (by omega) (fun hb16 => ?_) (fun hb16 => ?_)
          · exfalso; omega
          · skip
            refine xg_aloadn 20 dX4_allOf_19 rfl rfl rfl ?_
            refine xg_getP 23 kf_RX4_9 dX4_allOf_20 rfl (by assumption) r1 ?_
            refine xg_bipush 25 dX4_allOf_23 rfl (by decide) ?_
            refine xg_callV 28 7 [_] _ kv_X7_takes ⟨_, _, rfl⟩ kl_RX4_52 dX4_allOf_25 rfl (by assumption) (by omega) rfl rfl (Nat.le_of_ble_eq_true rfl) (by omega) ⟨Nat.le_refl _, Nat.le_refl _⟩ (cs_takes hs hk0 ht4 he hsr (i := i1) (q := q1) hi1 hq1 (by omega)) rfl ?_
            refine xg_deq 52 31 dX4_allOf_28 rfl rfl (fun hb28 => ?_) (fun hb28 => ?_)
            · rw [if_neg hb28]
              refine xg_iconst 53 dX4_allOf_52 rfl ?_
              subst hX
              refine xg_zreturn dX4_allOf_53 rfl (by first | exact bI_01 _ | omega) ⟨Nat.le_refl _, Nat.le_refl _⟩ ?_
              rw [hg, gMore_out (show zK t e q1 ≠ 19 by omega)]
              exact ⟨rfl, _, _, _, hi1, hq1, hb9.1, hC, rfl⟩
            · rw [if_pos hb28]
              have hltB := zK_lt (t := t) (e := e) (q := q1) (by omega)
              have hxB := zX_b (t := t) hltB
              have hnB := hk0.nx hi1 (by rw [hq1]; exact hltB)
              rw [hq1] at hnB
              obtain ⟨k, rfl⟩ : ∃ k2, k = k2 + 1 := ⟨k - 1, by omega⟩
              refine xg_aloadn 32 dX4_allOf_31 rfl rfl rfl ?_
              refine xg_iloadn 33 dX4_allOf_32 rfl rfl rfl ?_
              have hok2 := gAtom_ok (t := t) lv _ hxB.2
              rcases hs2 : gAtom t e lv (zX t e q1) with f2 | ⟨cs2, q2⟩
              · rw [hs2] at hok2
                have hok2a := hok2.1
                have hok2b := hok2.2
                refine xg_callVe 36 4 [_] _ kv_X4_atom ⟨_, _, rfl⟩ kl_RX4_73 dX4_allOf_33 rfl (by assumption) (by omega) rfl rfl (Nat.le_of_ble_eq_true rfl) (by omega) ⟨Nat.le_refl _, Nat.le_refl _⟩ (lRes.cg hs2 (hA (i1 + 1) _ (zX t e q1) _ hnB.1 hnB.2 (by omega))) rfl (fun v9 h9 e9 => ?_)
                obtain ⟨rfl, i2, u2, g2, hi2, rfl⟩ := e9
                refine xg_ifne 41 39 dX4_allOf_36 rfl rfl (by omega) (fun hb36 => ?_) (fun hb36 => ?_)
                · exfalso; omega
                · skip
                  refine xg_iconst 40 dX4_allOf_39 rfl ?_
                  subst hX
                  refine xg_zreturn dX4_allOf_40 rfl (by first | exact bI_01 _ | omega) ⟨Nat.le_refl _, Nat.le_refl _⟩ ?_
                  rw [hg, gMore_n (show zK t e q1 = 19 by omega) hs2]
                  exact ⟨rfl, _, _, _, hi2, rfl⟩
              · rw [hs2] at hok2
                obtain ⟨ho2, hoe2, hol2, hoc2⟩ := hok2
                refine xg_callVe 36 4 [_] _ kv_X4_atom ⟨_, _, rfl⟩ kl_RX4_73 dX4_allOf_33 rfl (by assumption) (by omega) rfl rfl (Nat.le_of_ble_eq_true rfl) (by omega) ⟨Nat.le_refl _, Nat.le_refl _⟩ (lRes.cg hs2 (hA (i1 + 1) _ (zX t e q1) _ hnB.1 hnB.2 (by omega))) rfl (fun v9 h9 e9 => ?_)
                obtain ⟨rfl, i2, u2, g2, hi2, hq2, hu2, hC2, rfl⟩ := e9
                refine xg_ifne 41 39 dX4_allOf_36 rfl rfl (by omega) (fun hb36 => ?_) (fun hb36 => ?_)
                · skip
                  refine xg_aloadn 42 dX4_allOf_41 rfl rfl rfl ?_
                  refine xg_iconst 43 dX4_allOf_42 rfl ?_
                  refine xg_callV 46 4 [_] _ kv_X4_emit ⟨_, _, rfl⟩ kl_RX4_69 dX4_allOf_43 rfl (by assumption) (by omega) rfl rfl (Nat.le_of_ble_eq_true rfl) (by omega) ⟨Nat.le_refl _, Nat.le_refl _⟩ (cs_emit hr hsr (by omega)) rfl ?_
                  refine xg_iinc 49 _ dX4_allOf_46 rfl rfl rfl rfl (by decide) (Or.inr rfl) ?_
                  refine xg_goto 12 dX4_allOf_49 rfl ?_
                  exact xg_weak _ (xle_s rfl (xle_s rfl (xle_s (by rw [show ((n + 1 : Nat) : Int) = (n : Int) + 1 by omega]) xle_0))) (ih k (n + 1) i2 q2 _ (acc ++ cs2 ++ [(15, 0)]) _ hi2 hq2 ⟨by rw [List.length_append, List.length_append]; show _ = u + ((acc.length + cs2.length + 1 : Nat) : Int); omega, by rw [List.length_append, List.length_append]; show ((acc.length + cs2.length + 1 : Nat) : Int) ≤ _; omega, by omega, by omega, by omega⟩ ((hC.app hC2 hb9.1).em2 (by rw [List.length_append]; omega) rfl) (hg.trans (gMore_s (show zK t e q1 = 19 by omega) hs2)) (by omega) (by omega))
                · exfalso; omega
      exact xg_weak _ (xle_s rfl (xle_s rfl (xle_s rfl xle_0))) (loop12 600 400 0 i0 q0 _ cs0 _ hi0 hq0 ⟨hu0, by omega, by omega, by omega, by omega⟩ hC0 (gMany_s hs0) (by omega) (by omega))
    · exfalso; omega

set_option maxHeartbeats 4000000 in
set_option maxRecDepth 100000 in
theorem ct_X4_anyOf {E : xE} {z : Nat} {T : Nat → Nat × Int} {F : Nat → Nat → Int} {I : Nat → Int → Int} {P : Nat → Nat → Option Nat} {Y : Nat → Int → Option Nat} {s r N : Nat} {t : Int → Int} {e : Int} (hs : wScn T P s) (hk0 : zTok t e F I s N) (ht4 : ∀ j : Int, 0 ≤ j → j < 400 → 0 ≤ t j ∧ t j ≤ 255) (he : 0 ≤ e ∧ e ≤ 400) (hsr : s + 4 ≤ r) (hr : wLrd T P r s) {i : Nat} {u q : Int} {g : Int → Int} (hi : i ≤ N) (hq : zB t e i = q) (hu : 0 ≤ u ∧ u + 1 ≤ q) {lv : Nat} (hA : AtL E z T F I P Y s r N t e lv) : Ct E (22 + 4 * lv) mX4_anyOf 0 0 [.ref r, J (6 - (lv : Int))] (z, T, fZ F s r (i) (-1) (u), upA I (r + 4) (g), P, Y) (lRes z T F I P Y s r N t e u g (gAny t e (gAtom t e lv) q)) := by
  obtain ⟨r0, r1, -⟩ := id hr
  have s0 := hs.1
  have htb : ∀ j : Int, 0 ≤ j → j < e → 0 ≤ t j ∧ t j ≤ 255 := fun j a b => ht4 j a (by omega)
  have hqb := zB_b (t := t) he.1 i
  rw [hq] at hqb
  refine Ct.of [some (.ref r), some (J (6 - (lv : Int))), none] kt_X4_anyOf rfl (Nat.le_of_ble_eq_true rfl) rfl (fun d hd => ?_)
  generalize hX : xN E _ _ _ = X
  refine xg_aloadn 1 dX4_anyOf_0 rfl rfl rfl ?_
  refine xg_iloadn 2 dX4_anyOf_1 rfl rfl rfl ?_
  have hok0 := gAll_ok (t := t) (gAtom_ok (t := t) lv) hqb.2.1
  rcases hs0 : gAll t e (gAtom t e lv) q with f0 | ⟨cs0, q0⟩
  · rw [hs0] at hok0
    have hok0a := hok0.1
    have hok0b := hok0.2
    refine xg_callVe 5 4 [_] _ kv_X4_allOf ⟨_, _, rfl⟩ kl_RX4_66 dX4_anyOf_2 rfl (by assumption) (by omega) rfl rfl (Nat.le_of_ble_eq_true rfl) (by omega) ⟨Nat.le_refl _, Nat.le_refl _⟩ (lRes.cg hs0 (ct_X4_allOf hs hk0 ht4 he hsr hr (i := i) (q := q) hi hq hu hA)) rfl (fun v9 h9 e9 => ?_)
    obtain ⟨rfl, i0, u0, g0, hi0, rfl⟩ := e9
    refine xg_ifne 10 8 dX4_anyOf_5 rfl rfl (by omega) (fun hb5 => ?_) (fun hb5 => ?_)
    · exfalso; omega
    · skip
      refine xg_iconst 9 dX4_anyOf_8 rfl ?_
      subst hX
      refine xg_zreturn dX4_anyOf_9 rfl (by first | exact bI_01 _ | omega) ⟨Nat.le_refl _, Nat.le_refl _⟩ ?_
      rw [show gAny t e (gAtom t e lv) q = .inl f0 from gMany_n hs0]
      exact ⟨rfl, _, _, _, hi0, rfl⟩
  · rw [hs0] at hok0
    obtain ⟨ho0, hoe0, hol0, hoc0⟩ := hok0
    refine xg_callVe 5 4 [_] _ kv_X4_allOf ⟨_, _, rfl⟩ kl_RX4_66 dX4_anyOf_2 rfl (by assumption) (by omega) rfl rfl (Nat.le_of_ble_eq_true rfl) (by omega) ⟨Nat.le_refl _, Nat.le_refl _⟩ (lRes.cg hs0 (ct_X4_allOf hs hk0 ht4 he hsr hr (i := i) (q := q) hi hq hu hA)) rfl (fun v9 h9 e9 => ?_)
    obtain ⟨rfl, i0, u0, g0, hi0, hq0, hu0, hC0, rfl⟩ := e9
    refine xg_ifne 10 8 dX4_anyOf_5 rfl rfl (by omega) (fun hb5 => ?_) (fun hb5 => ?_)
    · skip
      refine xg_iconst 11 dX4_anyOf_10 rfl ?_
      refine xg_istoren 12 _ dX4_anyOf_11 rfl rfl rfl (by decide) (Or.inr rfl) ?_
      have loop12 : ∀ (mm : Nat) (k n i1 : Nat) (q1 u1 : Int) (acc : List (Int × Int)) (g1 : Int → Int), i1 ≤ N → zB t e i1 = q1 → (u1 = u + (acc.length : Int) ∧ (acc.length : Int) ≤ q1 - q ∧ q ≤ q1 ∧ q1 ≤ e ∧ (n : Int) ≤ q1 - q) → pCo g g1 u acc → gAny t e (gAtom t e lv) q = gMore t e 18 16 (gAll t e (gAtom t e lv)) k q1 acc → e - q1 ≤ (k : Int) → 500 - (n : Int) < (mm : Int) → xG E mX4_anyOf (xR d 0 0) X 12 [some (.ref r), some (J (6 - (lv : Int))), some (J (n : Int))] [] (z, T, fZ F s r (i1) (-1) (u1), upA I (r + 4) (g1), P, Y) 0 0 := by
        intro mm
        induction mm with
        | zero => intro k n i1 q1 u1 acc g1 hi1 hq1 hb9 hC hg hf hm; exfalso; omega
        | succ mm ih =>
          intro k n i1 q1 u1 acc g1 hi1 hq1 hb9 hC hg hf hm
          refine xg_iloadn 13 dX4_anyOf_12 rfl rfl rfl ?_
          refine xg_sipush 16 dX4_anyOf_13 rfl (by decide) ?_
          refine xg_icge 53 19 dX4_anyOf_16 rfl rfl (by omega) (fun hb16 => ?_) (fun hb16 => ?_)
          · exfalso; omega
          · skip
            refine xg_aloadn 20 dX4_anyOf_19 rfl rfl rfl ?_
            refine xg_getP 23 kf_RX4_9 dX4_anyOf_20 rfl (by assumption) r1 ?_
            refine xg_bipush 25 dX4_anyOf_23 rfl (by decide) ?_
            refine xg_callV 28 7 [_] _ kv_X7_takes ⟨_, _, rfl⟩ kl_RX4_52 dX4_anyOf_25 rfl (by assumption) (by omega) rfl rfl (Nat.le_of_ble_eq_true rfl) (by omega) ⟨Nat.le_refl _, Nat.le_refl _⟩ (cs_takes hs hk0 ht4 he hsr (i := i1) (q := q1) hi1 hq1 (by omega)) rfl ?_
            refine xg_deq 53 31 dX4_anyOf_28 rfl rfl (fun hb28 => ?_) (fun hb28 => ?_)
            · rw [if_neg hb28]
              refine xg_iconst 54 dX4_anyOf_53 rfl ?_
              subst hX
              refine xg_zreturn dX4_anyOf_54 rfl (by first | exact bI_01 _ | omega) ⟨Nat.le_refl _, Nat.le_refl _⟩ ?_
              rw [hg, gMore_out (show zK t e q1 ≠ 18 by omega)]
              exact ⟨rfl, _, _, _, hi1, hq1, hb9.1, hC, rfl⟩
            · rw [if_pos hb28]
              have hltB := zK_lt (t := t) (e := e) (q := q1) (by omega)
              have hxB := zX_b (t := t) hltB
              have hnB := hk0.nx hi1 (by rw [hq1]; exact hltB)
              rw [hq1] at hnB
              obtain ⟨k, rfl⟩ : ∃ k2, k = k2 + 1 := ⟨k - 1, by omega⟩
              refine xg_aloadn 32 dX4_anyOf_31 rfl rfl rfl ?_
              refine xg_iloadn 33 dX4_anyOf_32 rfl rfl rfl ?_
              have hok2 := gAll_ok (t := t) (gAtom_ok (t := t) lv) hxB.2
              rcases hs2 : gAll t e (gAtom t e lv) (zX t e q1) with f2 | ⟨cs2, q2⟩
              · rw [hs2] at hok2
                have hok2a := hok2.1
                have hok2b := hok2.2
                refine xg_callVe 36 4 [_] _ kv_X4_allOf ⟨_, _, rfl⟩ kl_RX4_66 dX4_anyOf_33 rfl (by assumption) (by omega) rfl rfl (Nat.le_of_ble_eq_true rfl) (by omega) ⟨Nat.le_refl _, Nat.le_refl _⟩ (lRes.cg hs2 (ct_X4_allOf hs hk0 ht4 he hsr hr (i := (i1 + 1)) (q := (zX t e q1)) hnB.1 hnB.2 (by omega) hA)) rfl (fun v9 h9 e9 => ?_)
                obtain ⟨rfl, i2, u2, g2, hi2, rfl⟩ := e9
                refine xg_ifne 41 39 dX4_anyOf_36 rfl rfl (by omega) (fun hb36 => ?_) (fun hb36 => ?_)
                · exfalso; omega
                · skip
                  refine xg_iconst 40 dX4_anyOf_39 rfl ?_
                  subst hX
                  refine xg_zreturn dX4_anyOf_40 rfl (by first | exact bI_01 _ | omega) ⟨Nat.le_refl _, Nat.le_refl _⟩ ?_
                  rw [hg, gMore_n (show zK t e q1 = 18 by omega) hs2]
                  exact ⟨rfl, _, _, _, hi2, rfl⟩
              · rw [hs2] at hok2
                obtain ⟨ho2, hoe2, hol2, hoc2⟩ := hok2
                refine xg_callVe 36 4 [_] _ kv_X4_allOf ⟨_, _, rfl⟩ kl_RX4_66 dX4_anyOf_33 rfl (by assumption) (by omega) rfl rfl (Nat.le_of_ble_eq_true rfl) (by omega) ⟨Nat.le_refl _, Nat.le_refl _⟩ (lRes.cg hs2 (ct_X4_allOf hs hk0 ht4 he hsr hr (i := (i1 + 1)) (q := (zX t e q1)) hnB.1 hnB.2 (by omega) hA)) rfl (fun v9 h9 e9 => ?_)
                obtain ⟨rfl, i2, u2, g2, hi2, hq2, hu2, hC2, rfl⟩ := e9
                refine xg_ifne 41 39 dX4_anyOf_36 rfl rfl (by omega) (fun hb36 => ?_) (fun hb36 => ?_)
                · skip
                  refine xg_aloadn 42 dX4_anyOf_41 rfl rfl rfl ?_
                  refine xg_bipush 44 dX4_anyOf_42 rfl (by decide) ?_
                  refine xg_callV 47 4 [_] _ kv_X4_emit ⟨_, _, rfl⟩ kl_RX4_69 dX4_anyOf_44 rfl (by assumption) (by omega) rfl rfl (Nat.le_of_ble_eq_true rfl) (by omega) ⟨Nat.le_refl _, Nat.le_refl _⟩ (cs_emit hr hsr (by omega)) rfl ?_
                  refine xg_iinc 50 _ dX4_anyOf_47 rfl rfl rfl rfl (by decide) (Or.inr rfl) ?_
                  refine xg_goto 12 dX4_anyOf_50 rfl ?_
                  exact xg_weak _ (xle_s rfl (xle_s rfl (xle_s (by rw [show ((n + 1 : Nat) : Int) = (n : Int) + 1 by omega]) xle_0))) (ih k (n + 1) i2 q2 _ (acc ++ cs2 ++ [(16, 0)]) _ hi2 hq2 ⟨by rw [List.length_append, List.length_append]; show _ = u + ((acc.length + cs2.length + 1 : Nat) : Int); omega, by rw [List.length_append, List.length_append]; show ((acc.length + cs2.length + 1 : Nat) : Int) ≤ _; omega, by omega, by omega, by omega⟩ ((hC.app hC2 hb9.1).em2 (by rw [List.length_append]; omega) rfl) (hg.trans (gMore_s (show zK t e q1 = 18 by omega) hs2)) (by omega) (by omega))
                · exfalso; omega
      exact xg_weak _ (xle_s rfl (xle_s rfl (xle_s rfl xle_0))) (loop12 600 400 0 i0 q0 _ cs0 _ hi0 hq0 ⟨hu0, by omega, by omega, by omega, by omega⟩ hC0 (gMany_s hs0) (by omega) (by omega))
    · exfalso; omega

