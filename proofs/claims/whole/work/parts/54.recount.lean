/-! the levels counted anew -/
def iL (I : Nat → Int → Int) (l : Nat) (f1 f2 f3 f4 : Int → Int) : Nat → Int → Int := fun x => if x = l + 1 then f1 else if x = l + 2 then f2 else if x = l + 3 then f3 else if x = l + 4 then f4 else I x
theorem iL_1 (I : Nat → Int → Int) (l : Nat) (f1 f2 f3 f4 : Int → Int) : iL I l f1 f2 f3 f4 (l + 1) = f1 := if_pos rfl
theorem iL_2 (I : Nat → Int → Int) (l : Nat) (f1 f2 f3 f4 : Int → Int) : iL I l f1 f2 f3 f4 (l + 2) = f2 := by unfold iL; rw [if_neg (by omega), if_pos rfl]
theorem iL_3 (I : Nat → Int → Int) (l : Nat) (f1 f2 f3 f4 : Int → Int) : iL I l f1 f2 f3 f4 (l + 3) = f3 := by unfold iL; rw [if_neg (by omega), if_neg (by omega), if_pos rfl]
theorem iL_4 (I : Nat → Int → Int) (l : Nat) (f1 f2 f3 f4 : Int → Int) : iL I l f1 f2 f3 f4 (l + 4) = f4 := by unfold iL; rw [if_neg (by omega), if_neg (by omega), if_neg (by omega), if_pos rfl]
theorem iL_na (I : Nat → Int → Int) (l : Nat) (f1 f2 f3 f4 : Int → Int) {x : Nat} (h : x < l + 1 ∨ l + 4 < x) : iL I l f1 f2 f3 f4 x = I x := by unfold iL; rw [if_neg (by omega), if_neg (by omega), if_neg (by omega), if_neg (by omega)]
theorem iL_id (I : Nat → Int → Int) (l : Nat) : iL I l (I (l + 1)) (I (l + 2)) (I (l + 3)) (I (l + 4)) = I := by
  funext x; unfold iL; (repeat' split) <;> simp_all
theorem iL_s1 (I : Nat → Int → Int) (l : Nat) (f1 f2 f3 f4 : Int → Int) (k v : Int) : upI (iL I l f1 f2 f3 f4) (l + 1) k v = iL I l (wS f1 k v) f2 f3 f4 := by
  funext x j; unfold upI iL wS; by_cases h : x = l + 1
  · subst h; simp
  · simp [h]
theorem iL_s2 (I : Nat → Int → Int) (l : Nat) (f1 f2 f3 f4 : Int → Int) (k v : Int) : upI (iL I l f1 f2 f3 f4) (l + 2) k v = iL I l f1 (wS f2 k v) f3 f4 := by
  funext x j; unfold upI iL wS; by_cases h : x = l + 2
  · subst h; simp
  · simp [h]
theorem iL_s3 (I : Nat → Int → Int) (l : Nat) (f1 f2 f3 f4 : Int → Int) (k v : Int) : upI (iL I l f1 f2 f3 f4) (l + 3) k v = iL I l f1 f2 (wS f3 k v) f4 := by
  funext x j; unfold upI iL wS; by_cases h : x = l + 3
  · subst h; simp
  · simp [h]
theorem iL_s4 (I : Nat → Int → Int) (l : Nat) (f1 f2 f3 f4 : Int → Int) (k v : Int) : upI (iL I l f1 f2 f3 f4) (l + 4) k v = iL I l f1 f2 f3 (wS f4 k v) := by
  funext x j; unfold upI iL wS; by_cases h : x = l + 4
  · subst h; simp
  · simp [h]
theorem xg_own4 {E : xE} {M : xM} {R : Room} {X : xX} {pc : Nat} {L : List (Option Value)} {st : List Value} {z : Nat} {T : Nat → Nat × Int} {F : Nat → Nat → Int} {I : Nat → Int → Int} {P : Nat → Nat → Option Nat} {Y : Nat → Int → Option Nat} {c n : Nat} (l : Nat) (kk : xG E M R X pc L st (z, T, F, iL I l (I (l + 1)) (I (l + 2)) (I (l + 3)) (I (l + 4)), P, Y) c n) : xG E M R X pc L st (z, T, F, I, P, Y) c n := by rw [iL_id] at kk; exact kk
def gP (u v : Int → Int) : Int → Int := fun j => if 0 ≤ j ∧ j < 4 then v j else u j
theorem gP_at (u v : Int → Int) {k : Int} (h : 0 ≤ k ∧ k < 4) : gP u v k = v k := if_pos h
theorem gP_S (u v v' : Int → Int) {k x : Int} (hk : 0 ≤ k ∧ k < 4) (h : ∀ j : Int, 0 ≤ j → j < 4 → v' j = if j = k then x else v j) : wS (gP u v) k x = gP u v' := by
  funext j
  unfold wS gP
  by_cases hj : 0 ≤ j ∧ j < 4
  · rw [if_pos hj, if_pos hj, h j hj.1 hj.2]
  · rw [if_neg hj, if_neg hj, if_neg (by omega)]
theorem gP_0 (u v : Int → Int) (h : ∀ j : Int, 0 ≤ j → j < 4 → v j = 0) : wV u 0 4 = gP u v := by
  funext j
  unfold wV gP
  by_cases hj : 0 ≤ j ∧ j < 4
  · rw [if_pos hj, if_pos hj, h j hj.1 hj.2]
  · rw [if_neg hj, if_neg hj]
def fL (F : Nat → Nat → Int) (l : Nat) (x y : Int) : Nat → Nat → Int := upF (upF F l 4 x) l 5 y
theorem fL_4 (F : Nat → Nat → Int) (l : Nat) (x y : Int) : fL F l x y l 4 = x := by unfold fL; rw [upF_nk _ _ _ _ (by omega), upF_at]
theorem fL_5 (F : Nat → Nat → Int) (l : Nat) (x y : Int) : fL F l x y l 5 = y := upF_at _ _ _ _
theorem fL_na (F : Nat → Nat → Int) (l : Nat) (x y : Int) {b : Nat} (h : b ≠ l) : fL F l x y b = F b := by unfold fL; rw [upF_na _ _ _ _ h, upF_na _ _ _ _ h]
theorem fL_s4 (F : Nat → Nat → Int) (l : Nat) (x y v : Int) : upF (fL F l x y) l 4 v = fL F l v y := by
  funext b j; unfold fL upF; by_cases h : b = l
  · subst h; by_cases h4 : j = 4
    · subst h4; simp
    · by_cases h5 : j = 5
      · subst h5; simp
      · simp [h4, h5]
  · simp [h]
theorem fL_s5 (F : Nat → Nat → Int) (l : Nat) (x y v : Int) : upF (fL F l x y) l 5 v = fL F l x v := by
  funext b j; unfold fL upF; by_cases h : b = l
  · subst h; by_cases h5 : j = 5
    · subst h5; simp
    · simp [h5]
  · simp [h]
def pRun (w : Int → Int) (r : Nat) (j : Int) : Int := (nSet (fun r => decide (w (199 + 122 * (r : Int)) = j)) r : Nat)
def pMny (w : Int → Int) (r : Nat) (j : Int) : Int := pSum (fun r => if w (199 + 122 * r) = j then 1 else 0) r
def pEn (w : Int → Int) (r : Nat) (j : Int) : Int := pSum (fun r => if w (199 + 122 * r) = j then sEnt w (201 + 122 * r) else 0) r
def pFr (w : Int → Int) (r : Nat) (j : Int) : Int := pSum (fun r => if w (199 + 122 * r) = j ∧ w (200 + 122 * r) ≠ 1 then sEnt w (201 + 122 * r) else 0) r
theorem sEntIn_en (w : Int → Int) (j : Int) : sEntIn w (sRuns w j) = pEn w (wN w) j := by
  unfold sEntIn pEn
  refine pSum_congr (fun r hr => ?_)
  unfold sRuns
  rw [Int.toNat_natCast, nSet_bit]
  simp [hr]
def sRk (w : Int → Int) : Nat → Int
  | 0 => w 5
  | k + 1 => sRk w k * w 4
theorem sRk_bd {w : Int → Int} (h4 : 2 ≤ w 4 ∧ w 4 ≤ 4) (h5 : 2 ≤ w 5 ∧ w 5 ≤ 6) {k : Nat} (hk : k ≤ 4) : 0 ≤ sRk w k ∧ sRk w k ≤ 1536 := by
  rcases (show k = 0 ∨ k = 1 ∨ k = 2 ∨ k = 3 ∨ k = 4 by omega) with rfl | rfl | rfl | rfl | rfl
  all_goals simp only [sRk]
  all_goals obtain h | h | h : w 4 = 2 ∨ w 4 = 3 ∨ w 4 = 4 := by omega
  all_goals (try rw [h])
  all_goals omega
theorem sDueB_k {w : Int → Int} {k : Nat} (hk : k < 4) : sDueB w (k : Int) = true ↔ ((k = 3 ∧ 2 ≤ sMany w (k : Int)) ∨ (k ≠ 3 ∧ (k = 0 ∨ w 3 = 0) ∧ w 4 ≤ sMany w (k : Int)) ∨ (k ≠ 3 ∧ k ≠ 0 ∧ w 3 ≠ 0 ∧ (1 < sMany w (k : Int) ∨ sRk w k < sEntIn w (sRuns w (k : Int))))) := by
  have e : sDueB w (k : Int) = true ↔ sDue w (k : Int) := by unfold sDueB; exact @decide_eq_true_iff _ (Classical.propDecidable _)
  rw [e]
  unfold sDue
  by_cases h3 : w 3 = 0
  · rw [if_pos h3]
    by_cases hk3 : (k : Int) = 3
    · rw [if_pos hk3]; omega
    · rw [if_neg hk3]; omega
  · rw [if_neg h3]
    by_cases hk0 : (k : Int) = 0
    · rw [if_pos hk0]; omega
    · rw [if_neg hk0]
      by_cases hk3 : (k : Int) = 3
      · rw [if_pos hk3]; omega
      · rw [if_neg hk3]
        rcases (show k = 1 ∨ k = 2 by omega) with rfl | rfl
        · rw [if_neg (by omega), Int.mul_one]; simp only [sRk]; omega
        · rw [if_pos (by omega)]; simp only [sRk]; omega
theorem pRun_s {w : Int → Int} {r v : Nat} {j : Int} (hv : (v : Int) = w (199 + 122 * (r : Int))) (hr : r < 30) : pRun w (r + 1) j = if j = (v : Int) then xor2 (pRun w r (v : Int)) (xshl 1 (r : Int)) else pRun w r j := by
  unfold pRun
  by_cases hj : j = (v : Int)
  · rw [if_pos hj, hj]; exact (nSet_t (decide_eq_true hv.symm) hr).symm
  · rw [if_neg hj]; exact (nSet_n (decide_eq_false (by omega))).symm
theorem pMny_s {w : Int → Int} {r v : Nat} {j : Int} (hv : (v : Int) = w (199 + 122 * (r : Int))) : pMny w (r + 1) j = if j = (v : Int) then pMny w r (v : Int) + 1 else pMny w r j := by
  unfold pMny
  rw [pSum_s, ← hv]
  by_cases hj : j = (v : Int)
  · rw [if_pos hj, if_pos hj.symm, hj]
  · rw [if_neg hj, if_neg (fun q => hj q.symm), Int.add_zero]
theorem pEn_s {w : Int → Int} {r v : Nat} {j : Int} (hv : (v : Int) = w (199 + 122 * (r : Int))) : pEn w (r + 1) j = if j = (v : Int) then pEn w r (v : Int) + sEnt w (201 + 122 * (r : Int)) else pEn w r j := by
  unfold pEn
  rw [pSum_s, ← hv]
  by_cases hj : j = (v : Int)
  · rw [if_pos hj, if_pos hj.symm, hj]
  · rw [if_neg hj, if_neg (fun q => hj q.symm), Int.add_zero]
theorem pFr_s {w : Int → Int} {r v : Nat} {j x : Int} (hv : (v : Int) = w (199 + 122 * (r : Int))) (hx : x = if w (200 + 122 * (r : Int)) = 0 then sEnt w (201 + 122 * (r : Int)) else 0) (h01 : w (200 + 122 * (r : Int)) = 0 ∨ w (200 + 122 * (r : Int)) = 1) : pFr w (r + 1) j = if j = (v : Int) then pFr w r (v : Int) + x else pFr w r j := by
  unfold pFr
  rw [pSum_s, ← hv, hx]
  by_cases hj : j = (v : Int)
  · rw [if_pos hj, hj]
    by_cases h : w (200 + 122 * (r : Int)) = 0
    · rw [if_pos h, if_pos ⟨rfl, by omega⟩]
    · rw [if_neg h, if_neg (fun q => q.2 (by omega))]
  · rw [if_neg hj, if_neg (fun q => hj q.1.symm), Int.add_zero]
theorem dX5_recount_0 : decode cX5_recount 0 = .ok (.iconst 0, 1) := by decide +kernel
theorem dX5_recount_1 : decode cX5_recount 1 = .ok (.istore_n 2, 1) := by decide +kernel
theorem dX5_recount_2 : decode cX5_recount 2 = .ok (.iload_n 2, 1) := by decide +kernel
theorem dX5_recount_3 : decode cX5_recount 3 = .ok (.iconst 4, 1) := by decide +kernel
theorem dX5_recount_4 : decode cX5_recount 4 = .ok (.if_icmp .ge 37, 3) := by decide +kernel
theorem dX5_recount_7 : decode cX5_recount 7 = .ok (.aload_n 0, 1) := by decide +kernel
theorem dX5_recount_8 : decode cX5_recount 8 = .ok (.getfield 9, 3) := by decide +kernel
theorem dX5_recount_11 : decode cX5_recount 11 = .ok (.iload_n 2, 1) := by decide +kernel
theorem dX5_recount_12 : decode cX5_recount 12 = .ok (.iconst 0, 1) := by decide +kernel
theorem dX5_recount_13 : decode cX5_recount 13 = .ok (.iastore, 1) := by decide +kernel
theorem dX5_recount_14 : decode cX5_recount 14 = .ok (.aload_n 0, 1) := by decide +kernel
theorem dX5_recount_15 : decode cX5_recount 15 = .ok (.getfield 15, 3) := by decide +kernel
theorem dX5_recount_18 : decode cX5_recount 18 = .ok (.iload_n 2, 1) := by decide +kernel
theorem dX5_recount_19 : decode cX5_recount 19 = .ok (.iconst 0, 1) := by decide +kernel
theorem dX5_recount_20 : decode cX5_recount 20 = .ok (.iastore, 1) := by decide +kernel
theorem dX5_recount_21 : decode cX5_recount 21 = .ok (.aload_n 0, 1) := by decide +kernel
theorem dX5_recount_22 : decode cX5_recount 22 = .ok (.getfield 18, 3) := by decide +kernel
theorem dX5_recount_25 : decode cX5_recount 25 = .ok (.iload_n 2, 1) := by decide +kernel
theorem dX5_recount_26 : decode cX5_recount 26 = .ok (.iconst 0, 1) := by decide +kernel
theorem dX5_recount_27 : decode cX5_recount 27 = .ok (.iastore, 1) := by decide +kernel
theorem dX5_recount_28 : decode cX5_recount 28 = .ok (.aload_n 0, 1) := by decide +kernel
theorem dX5_recount_29 : decode cX5_recount 29 = .ok (.getfield 21, 3) := by decide +kernel
theorem dX5_recount_32 : decode cX5_recount 32 = .ok (.iload_n 2, 1) := by decide +kernel
theorem dX5_recount_33 : decode cX5_recount 33 = .ok (.iconst 0, 1) := by decide +kernel
theorem dX5_recount_34 : decode cX5_recount 34 = .ok (.iastore, 1) := by decide +kernel
theorem dX5_recount_35 : decode cX5_recount 35 = .ok (.iinc 2 1, 3) := by decide +kernel
theorem dX5_recount_38 : decode cX5_recount 38 = .ok (.goto (-36), 3) := by decide +kernel
theorem dX5_recount_41 : decode cX5_recount 41 = .ok (.iconst 0, 1) := by decide +kernel
theorem dX5_recount_42 : decode cX5_recount 42 = .ok (.istore_n 2, 1) := by decide +kernel
theorem dX5_recount_43 : decode cX5_recount 43 = .ok (.iload_n 2, 1) := by decide +kernel
theorem dX5_recount_44 : decode cX5_recount 44 = .ok (.aload_n 1, 1) := by decide +kernel
theorem dX5_recount_45 : decode cX5_recount 45 = .ok (.getfield 24, 3) := by decide +kernel
theorem dX5_recount_48 : decode cX5_recount 48 = .ok (.if_icmp .ge 108, 3) := by decide +kernel
theorem dX5_recount_51 : decode cX5_recount 51 = .ok (.iload_n 2, 1) := by decide +kernel
theorem dX5_recount_52 : decode cX5_recount 52 = .ok (.bipush 12, 2) := by decide +kernel
theorem dX5_recount_54 : decode cX5_recount 54 = .ok (.if_icmp .ge 102, 3) := by decide +kernel
theorem dX5_recount_57 : decode cX5_recount 57 = .ok (.aload_n 1, 1) := by decide +kernel
theorem dX5_recount_58 : decode cX5_recount 58 = .ok (.getfield 30, 3) := by decide +kernel
theorem dX5_recount_61 : decode cX5_recount 61 = .ok (.iload_n 2, 1) := by decide +kernel
theorem dX5_recount_62 : decode cX5_recount 62 = .ok (.aaload, 1) := by decide +kernel
theorem dX5_recount_63 : decode cX5_recount 63 = .ok (.astore_n 3, 1) := by decide +kernel
theorem dX5_recount_64 : decode cX5_recount 64 = .ok (.aload_n 3, 1) := by decide +kernel
theorem dX5_recount_65 : decode cX5_recount 65 = .ok (.getfield 34, 3) := by decide +kernel
theorem dX5_recount_68 : decode cX5_recount 68 = .ok (.ifCond .lt 82, 3) := by decide +kernel
theorem dX5_recount_71 : decode cX5_recount 71 = .ok (.aload_n 3, 1) := by decide +kernel
theorem dX5_recount_72 : decode cX5_recount 72 = .ok (.getfield 34, 3) := by decide +kernel
theorem dX5_recount_75 : decode cX5_recount 75 = .ok (.iconst 4, 1) := by decide +kernel
theorem dX5_recount_76 : decode cX5_recount 76 = .ok (.if_icmp .ge 74, 3) := by decide +kernel
theorem dX5_recount_79 : decode cX5_recount 79 = .ok (.aload_n 0, 1) := by decide +kernel
theorem dX5_recount_80 : decode cX5_recount 80 = .ok (.getfield 9, 3) := by decide +kernel
theorem dX5_recount_83 : decode cX5_recount 83 = .ok (.aload_n 3, 1) := by decide +kernel
theorem dX5_recount_84 : decode cX5_recount 84 = .ok (.getfield 34, 3) := by decide +kernel
theorem dX5_recount_87 : decode cX5_recount 87 = .ok (.dup2, 1) := by decide +kernel
theorem dX5_recount_88 : decode cX5_recount 88 = .ok (.iaload, 1) := by decide +kernel
theorem dX5_recount_89 : decode cX5_recount 89 = .ok (.iconst 1, 1) := by decide +kernel
theorem dX5_recount_90 : decode cX5_recount 90 = .ok (.iload_n 2, 1) := by decide +kernel
theorem dX5_recount_91 : decode cX5_recount 91 = .ok (.ishl, 1) := by decide +kernel
theorem dX5_recount_92 : decode cX5_recount 92 = .ok (.ior, 1) := by decide +kernel
theorem dX5_recount_93 : decode cX5_recount 93 = .ok (.iastore, 1) := by decide +kernel
theorem dX5_recount_94 : decode cX5_recount 94 = .ok (.aload_n 0, 1) := by decide +kernel
theorem dX5_recount_95 : decode cX5_recount 95 = .ok (.getfield 15, 3) := by decide +kernel
theorem dX5_recount_98 : decode cX5_recount 98 = .ok (.aload_n 3, 1) := by decide +kernel
theorem dX5_recount_99 : decode cX5_recount 99 = .ok (.getfield 34, 3) := by decide +kernel
theorem dX5_recount_102 : decode cX5_recount 102 = .ok (.dup2, 1) := by decide +kernel
theorem dX5_recount_103 : decode cX5_recount 103 = .ok (.iaload, 1) := by decide +kernel
theorem dX5_recount_104 : decode cX5_recount 104 = .ok (.iconst 1, 1) := by decide +kernel
theorem dX5_recount_105 : decode cX5_recount 105 = .ok (.iadd, 1) := by decide +kernel
theorem dX5_recount_106 : decode cX5_recount 106 = .ok (.iastore, 1) := by decide +kernel
theorem dX5_recount_107 : decode cX5_recount 107 = .ok (.aload_n 0, 1) := by decide +kernel
theorem dX5_recount_108 : decode cX5_recount 108 = .ok (.getfield 18, 3) := by decide +kernel
theorem dX5_recount_111 : decode cX5_recount 111 = .ok (.aload_n 3, 1) := by decide +kernel
theorem dX5_recount_112 : decode cX5_recount 112 = .ok (.getfield 34, 3) := by decide +kernel
theorem dX5_recount_115 : decode cX5_recount 115 = .ok (.dup2, 1) := by decide +kernel
theorem dX5_recount_116 : decode cX5_recount 116 = .ok (.iaload, 1) := by decide +kernel
theorem dX5_recount_117 : decode cX5_recount 117 = .ok (.aload_n 3, 1) := by decide +kernel
theorem dX5_recount_118 : decode cX5_recount 118 = .ok (.getfield 39, 3) := by decide +kernel
theorem dX5_recount_121 : decode cX5_recount 121 = .ok (.iadd, 1) := by decide +kernel
theorem dX5_recount_122 : decode cX5_recount 122 = .ok (.iastore, 1) := by decide +kernel
theorem dX5_recount_123 : decode cX5_recount 123 = .ok (.aload_n 0, 1) := by decide +kernel
theorem dX5_recount_124 : decode cX5_recount 124 = .ok (.getfield 21, 3) := by decide +kernel
theorem dX5_recount_127 : decode cX5_recount 127 = .ok (.aload_n 3, 1) := by decide +kernel
theorem dX5_recount_128 : decode cX5_recount 128 = .ok (.getfield 34, 3) := by decide +kernel
theorem dX5_recount_131 : decode cX5_recount 131 = .ok (.dup2, 1) := by decide +kernel
theorem dX5_recount_132 : decode cX5_recount 132 = .ok (.iaload, 1) := by decide +kernel
theorem dX5_recount_133 : decode cX5_recount 133 = .ok (.aload_n 3, 1) := by decide +kernel
theorem dX5_recount_134 : decode cX5_recount 134 = .ok (.getfield 42, 3) := by decide +kernel
theorem dX5_recount_137 : decode cX5_recount 137 = .ok (.ifCond .eq 7, 3) := by decide +kernel
theorem dX5_recount_140 : decode cX5_recount 140 = .ok (.iconst 0, 1) := by decide +kernel
theorem dX5_recount_141 : decode cX5_recount 141 = .ok (.goto 7, 3) := by decide +kernel
theorem dX5_recount_144 : decode cX5_recount 144 = .ok (.aload_n 3, 1) := by decide +kernel
theorem dX5_recount_145 : decode cX5_recount 145 = .ok (.getfield 39, 3) := by decide +kernel
theorem dX5_recount_148 : decode cX5_recount 148 = .ok (.iadd, 1) := by decide +kernel
theorem dX5_recount_149 : decode cX5_recount 149 = .ok (.iastore, 1) := by decide +kernel
theorem dX5_recount_150 : decode cX5_recount 150 = .ok (.iinc 2 1, 3) := by decide +kernel
theorem dX5_recount_153 : decode cX5_recount 153 = .ok (.goto (-110), 3) := by decide +kernel
theorem dX5_recount_156 : decode cX5_recount 156 = .ok (.aload_n 0, 1) := by decide +kernel
theorem dX5_recount_157 : decode cX5_recount 157 = .ok (.iconst 0, 1) := by decide +kernel
theorem dX5_recount_158 : decode cX5_recount 158 = .ok (.putfield 46, 3) := by decide +kernel
theorem dX5_recount_161 : decode cX5_recount 161 = .ok (.aload_n 0, 1) := by decide +kernel
theorem dX5_recount_162 : decode cX5_recount 162 = .ok (.iconst 0, 1) := by decide +kernel
theorem dX5_recount_163 : decode cX5_recount 163 = .ok (.putfield 49, 3) := by decide +kernel
theorem dX5_recount_166 : decode cX5_recount 166 = .ok (.aload_n 1, 1) := by decide +kernel
theorem dX5_recount_167 : decode cX5_recount 167 = .ok (.getfield 52, 3) := by decide +kernel
theorem dX5_recount_170 : decode cX5_recount 170 = .ok (.istore_n 2, 1) := by decide +kernel
theorem dX5_recount_171 : decode cX5_recount 171 = .ok (.iconst 0, 1) := by decide +kernel
theorem dX5_recount_172 : decode cX5_recount 172 = .ok (.istore_n 3, 1) := by decide +kernel
theorem dX5_recount_173 : decode cX5_recount 173 = .ok (.iload_n 3, 1) := by decide +kernel
theorem dX5_recount_174 : decode cX5_recount 174 = .ok (.iconst 4, 1) := by decide +kernel
theorem dX5_recount_175 : decode cX5_recount 175 = .ok (.if_icmp .ge 134, 3) := by decide +kernel
theorem dX5_recount_178 : decode cX5_recount 178 = .ok (.iload_n 3, 1) := by decide +kernel
theorem dX5_recount_179 : decode cX5_recount 179 = .ok (.iconst 3, 1) := by decide +kernel
theorem dX5_recount_180 : decode cX5_recount 180 = .ok (.if_icmp .ne 23, 3) := by decide +kernel
theorem dX5_recount_183 : decode cX5_recount 183 = .ok (.aload_n 0, 1) := by decide +kernel
theorem dX5_recount_184 : decode cX5_recount 184 = .ok (.getfield 15, 3) := by decide +kernel
theorem dX5_recount_187 : decode cX5_recount 187 = .ok (.iload_n 3, 1) := by decide +kernel
theorem dX5_recount_188 : decode cX5_recount 188 = .ok (.iaload, 1) := by decide +kernel
theorem dX5_recount_189 : decode cX5_recount 189 = .ok (.iconst 2, 1) := by decide +kernel
theorem dX5_recount_190 : decode cX5_recount 190 = .ok (.if_icmp .lt 7, 3) := by decide +kernel
theorem dX5_recount_193 : decode cX5_recount 193 = .ok (.iconst 1, 1) := by decide +kernel
theorem dX5_recount_194 : decode cX5_recount 194 = .ok (.goto 4, 3) := by decide +kernel
theorem dX5_recount_197 : decode cX5_recount 197 = .ok (.iconst 0, 1) := by decide +kernel
theorem dX5_recount_198 : decode cX5_recount 198 = .ok (.istore 4, 2) := by decide +kernel
theorem dX5_recount_200 : decode cX5_recount 200 = .ok (.goto 64, 3) := by decide +kernel
theorem dX5_recount_203 : decode cX5_recount 203 = .ok (.iload_n 3, 1) := by decide +kernel
theorem dX5_recount_204 : decode cX5_recount 204 = .ok (.ifCond .eq 10, 3) := by decide +kernel
theorem dX5_recount_207 : decode cX5_recount 207 = .ok (.aload_n 1, 1) := by decide +kernel
theorem dX5_recount_208 : decode cX5_recount 208 = .ok (.getfield 55, 3) := by decide +kernel
theorem dX5_recount_211 : decode cX5_recount 211 = .ok (.ifCond .ne 26, 3) := by decide +kernel
theorem dX5_recount_214 : decode cX5_recount 214 = .ok (.aload_n 0, 1) := by decide +kernel
theorem dX5_recount_215 : decode cX5_recount 215 = .ok (.getfield 15, 3) := by decide +kernel
theorem dX5_recount_218 : decode cX5_recount 218 = .ok (.iload_n 3, 1) := by decide +kernel
theorem dX5_recount_219 : decode cX5_recount 219 = .ok (.iaload, 1) := by decide +kernel
theorem dX5_recount_220 : decode cX5_recount 220 = .ok (.aload_n 1, 1) := by decide +kernel
theorem dX5_recount_221 : decode cX5_recount 221 = .ok (.getfield 58, 3) := by decide +kernel
theorem dX5_recount_224 : decode cX5_recount 224 = .ok (.if_icmp .lt 7, 3) := by decide +kernel
theorem dX5_recount_227 : decode cX5_recount 227 = .ok (.iconst 1, 1) := by decide +kernel
theorem dX5_recount_228 : decode cX5_recount 228 = .ok (.goto 4, 3) := by decide +kernel
theorem dX5_recount_231 : decode cX5_recount 231 = .ok (.iconst 0, 1) := by decide +kernel
theorem dX5_recount_232 : decode cX5_recount 232 = .ok (.istore 4, 2) := by decide +kernel
theorem dX5_recount_234 : decode cX5_recount 234 = .ok (.goto 30, 3) := by decide +kernel
theorem dX5_recount_237 : decode cX5_recount 237 = .ok (.aload_n 0, 1) := by decide +kernel
theorem dX5_recount_238 : decode cX5_recount 238 = .ok (.getfield 15, 3) := by decide +kernel
theorem dX5_recount_241 : decode cX5_recount 241 = .ok (.iload_n 3, 1) := by decide +kernel
theorem dX5_recount_242 : decode cX5_recount 242 = .ok (.iaload, 1) := by decide +kernel
theorem dX5_recount_243 : decode cX5_recount 243 = .ok (.iconst 1, 1) := by decide +kernel
theorem dX5_recount_244 : decode cX5_recount 244 = .ok (.if_icmp .gt 13, 3) := by decide +kernel
theorem dX5_recount_247 : decode cX5_recount 247 = .ok (.aload_n 0, 1) := by decide +kernel
theorem dX5_recount_248 : decode cX5_recount 248 = .ok (.getfield 18, 3) := by decide +kernel
theorem dX5_recount_251 : decode cX5_recount 251 = .ok (.iload_n 3, 1) := by decide +kernel
theorem dX5_recount_252 : decode cX5_recount 252 = .ok (.iaload, 1) := by decide +kernel
theorem dX5_recount_253 : decode cX5_recount 253 = .ok (.iload_n 2, 1) := by decide +kernel
theorem dX5_recount_254 : decode cX5_recount 254 = .ok (.if_icmp .le 7, 3) := by decide +kernel
theorem dX5_recount_257 : decode cX5_recount 257 = .ok (.iconst 1, 1) := by decide +kernel
theorem dX5_recount_258 : decode cX5_recount 258 = .ok (.goto 4, 3) := by decide +kernel
theorem dX5_recount_261 : decode cX5_recount 261 = .ok (.iconst 0, 1) := by decide +kernel
theorem dX5_recount_262 : decode cX5_recount 262 = .ok (.istore 4, 2) := by decide +kernel
theorem dX5_recount_264 : decode cX5_recount 264 = .ok (.iload_n 2, 1) := by decide +kernel
theorem dX5_recount_265 : decode cX5_recount 265 = .ok (.aload_n 1, 1) := by decide +kernel
theorem dX5_recount_266 : decode cX5_recount 266 = .ok (.getfield 58, 3) := by decide +kernel
theorem dX5_recount_269 : decode cX5_recount 269 = .ok (.imul, 1) := by decide +kernel
theorem dX5_recount_270 : decode cX5_recount 270 = .ok (.istore_n 2, 1) := by decide +kernel
theorem dX5_recount_271 : decode cX5_recount 271 = .ok (.iload 4, 2) := by decide +kernel
theorem dX5_recount_273 : decode cX5_recount 273 = .ok (.ifCond .eq 30, 3) := by decide +kernel
theorem dX5_recount_276 : decode cX5_recount 276 = .ok (.aload_n 0, 1) := by decide +kernel
theorem dX5_recount_277 : decode cX5_recount 277 = .ok (.dup, 1) := by decide +kernel
theorem dX5_recount_278 : decode cX5_recount 278 = .ok (.getfield 46, 3) := by decide +kernel
theorem dX5_recount_281 : decode cX5_recount 281 = .ok (.iconst 1, 1) := by decide +kernel
theorem dX5_recount_282 : decode cX5_recount 282 = .ok (.iload_n 3, 1) := by decide +kernel
theorem dX5_recount_283 : decode cX5_recount 283 = .ok (.ishl, 1) := by decide +kernel
theorem dX5_recount_284 : decode cX5_recount 284 = .ok (.ior, 1) := by decide +kernel
theorem dX5_recount_285 : decode cX5_recount 285 = .ok (.putfield 46, 3) := by decide +kernel
theorem dX5_recount_288 : decode cX5_recount 288 = .ok (.aload_n 0, 1) := by decide +kernel
theorem dX5_recount_289 : decode cX5_recount 289 = .ok (.dup, 1) := by decide +kernel
theorem dX5_recount_290 : decode cX5_recount 290 = .ok (.getfield 49, 3) := by decide +kernel
theorem dX5_recount_293 : decode cX5_recount 293 = .ok (.aload_n 0, 1) := by decide +kernel
theorem dX5_recount_294 : decode cX5_recount 294 = .ok (.getfield 21, 3) := by decide +kernel
theorem dX5_recount_297 : decode cX5_recount 297 = .ok (.iload_n 3, 1) := by decide +kernel
theorem dX5_recount_298 : decode cX5_recount 298 = .ok (.iaload, 1) := by decide +kernel
theorem dX5_recount_299 : decode cX5_recount 299 = .ok (.iadd, 1) := by decide +kernel
theorem dX5_recount_300 : decode cX5_recount 300 = .ok (.putfield 49, 3) := by decide +kernel
theorem dX5_recount_303 : decode cX5_recount 303 = .ok (.iinc 3 1, 3) := by decide +kernel
theorem dX5_recount_306 : decode cX5_recount 306 = .ok (.goto (-133), 3) := by decide +kernel
theorem dX5_recount_309 : decode cX5_recount 309 = .ok (.return_, 1) := by decide +kernel
set_option maxHeartbeats 4000000 in
set_option maxRecDepth 100000 in
theorem ct_X5_recount {E : xE} {z : Nat} {T : Nat → Nat × Int} {F : Nat → Nat → Int} {I : Nat → Int → Int} {P : Nat → Nat → Option Nat} {Y : Nat → Int → Option Nat} {a : Nat} {w : Int → Int} {π : Nat → Nat} {l : Nat} (hB : RB T F I P Y a π w) (hO : wOk w) (hlv : ∀ r : Nat, (r : Int) < w 0 → (0 ≤ w (199 + 122 * (r : Int)) ∧ w (199 + 122 * (r : Int)) ≤ 3) ∧ (w (200 + 122 * (r : Int)) = 0 ∨ w (200 + 122 * (r : Int)) = 1)) (hl : wLev T P l) : Ct E 0 mX5_recount 0 0 [.ref l, .ref a] (z, T, F, I, P, Y) (xd none (z, T, fL F l (sDueN w : Nat) (sOwed w), iL I l (gP (I (l + 1)) (pRun w (wN w))) (gP (I (l + 2)) (pMny w (wN w))) (gP (I (l + 3)) (pEn w (wN w))) (gP (I (l + 4)) (pFr w (wN w))), P, Y)) := by
  obtain ⟨⟨⟨⟨s0, s1, s2, s3⟩, sR, -⟩, p1, p2, p3, p4, p5⟩, ⟨⟨c1, c9, c10, c11, c12, c13, c14, c15⟩, hTl, j0, j1, j2⟩, hRn, hTb, hOt, hJo⟩ := id hB
  obtain ⟨hR, o0, o1, o2, o3, o4, o5, o6, oc, o13, o14, o16, o17, o18, ov⟩ := id hO
  have hN := wN_i o0.1
  obtain ⟨l0, ⟨l1, l2, l3, l4⟩, ⟨m1, n1⟩, ⟨m2, n2⟩, ⟨m3, n3⟩, m4, n4⟩ := hl
  have hal : a ≠ l := fun e => by rw [e, l0] at s0; omega
  refine Ct.of [some (.ref l), some (.ref a), none, none, none] kt_X5_recount rfl (Nat.le_of_ble_eq_true rfl) rfl (fun d hd => ?_)
  generalize hX : xN E _ _ _ = X
  refine xg_iconst 1 dX5_recount_0 rfl ?_
  refine xg_istoren 2 _ dX5_recount_1 rfl rfl rfl (by decide) (Or.inr rfl) ?_
  have loop2 : ∀ (mm : Nat) (k : Nat), (k ≤ 4) → 4 - (k : Int) < (mm : Int) → xG E mX5_recount (xR d 0 0) X 2 [some (.ref l), some (.ref a), some (J (k : Int)), none, none] [] (z, T, F, iL I l (wV (I (l + 1)) 0 (k : Int)) (wV (I (l + 2)) 0 (k : Int)) (wV (I (l + 3)) 0 (k : Int)) (wV (I (l + 4)) 0 (k : Int)), P, Y) 0 0 := by
    intro mm
    induction mm with
    | zero => intro k hk hm; exfalso; omega
    | succ mm ih =>
      intro k hk hm
      refine xg_iloadn 3 dX5_recount_2 rfl rfl rfl ?_
      refine xg_iconst 4 dX5_recount_3 rfl ?_
      refine xg_icge 41 7 dX5_recount_4 rfl rfl (by omega) (fun hb4 => ?_) (fun hb4 => ?_)
      · skip
        refine xg_iconst 42 dX5_recount_41 rfl ?_
        refine xg_istoren 43 _ dX5_recount_42 rfl rfl rfl (by decide) (Or.inr rfl) ?_
        have loop43 : ∀ (mm : Nat) (r : Nat), ((r : Int) ≤ w 0) → w 0 - (r : Int) < (mm : Int) → xG E mX5_recount (xR d 0 0) X 43 [some (.ref l), some (.ref a), some (J (r : Int)), none, none] [] (z, T, F, iL I l (gP (I (l + 1)) (pRun w r)) (gP (I (l + 2)) (pMny w r)) (gP (I (l + 3)) (pEn w r)) (gP (I (l + 4)) (pFr w r)), P, Y) 0 0 := by
          intro mm
          induction mm with
          | zero => intro r hr hm; exfalso; omega
          | succ mm ih =>
            intro r hr hm
            refine xg_iloadn 44 dX5_recount_43 rfl rfl rfl ?_
            refine xg_aloadn 45 dX5_recount_44 rfl rfl rfl ?_
            refine xg_getI 48 kf_RX5_24 dX5_recount_45 rfl (by assumption) ?_
            refine xg_icge 156 51 dX5_recount_48 rfl rfl (by omega) (fun hb48 => ?_) (fun hb48 => ?_)
            · skip
              refine xg_aloadn 157 dX5_recount_156 rfl rfl rfl ?_
              refine xg_iconst 158 dX5_recount_157 rfl ?_
              refine xg_putI 161 kf_RX5_46 dX5_recount_158 rfl (by assumption) ?_
              refine xg_aloadn 162 dX5_recount_161 rfl rfl rfl ?_
              refine xg_iconst 163 dX5_recount_162 rfl ?_
              refine xg_putI 166 kf_RX5_49 dX5_recount_163 rfl (by assumption) ?_
              refine xg_aloadn 167 dX5_recount_166 rfl rfl rfl ?_
              refine xg_getI 170 kf_RX5_52 dX5_recount_167 rfl (by assumption) ?_
              refine xg_istoren 171 _ dX5_recount_170 rfl rfl rfl (by decide) (Or.inr rfl) ?_
              rw [show upF (upF F l 4 0) l 5 0 = fL F l ((nSet (fun l => sDueB w (l : Int)) 0 : Nat) : Int) (pSum (fun l => if sDueB w l = true then sFree w l else 0) 0) from rfl]
              refine xg_iconst 172 dX5_recount_171 rfl ?_
              refine xg_istoren 173 _ dX5_recount_172 rfl rfl rfl (by decide) (Or.inr rfl) ?_
              have loop173 : ∀ (mm : Nat) (k : Nat), (k ≤ 4) → 4 - (k : Int) < (mm : Int) → xG E mX5_recount (xR d 0 0) X 173 [some (.ref l), some (.ref a), some (J (sRk w k)), some (J (k : Int)), none] [] (z, T, fL F l (nSet (fun l => sDueB w (l : Int)) k : Nat) (pSum (fun l => if sDueB w l = true then sFree w l else 0) k), iL I l (gP (I (l + 1)) (pRun w (wN w))) (gP (I (l + 2)) (pMny w (wN w))) (gP (I (l + 3)) (pEn w (wN w))) (gP (I (l + 4)) (pFr w (wN w))), P, Y) 0 0 := by
                intro mm
                induction mm with
                | zero => intro k hk hm; exfalso; omega
                | succ mm ih =>
                  intro k hk hm
                  have hmb := sMany_bd w (k : Int)
                  have heb := sEntIn_bd (w := w) (sRuns w (k : Int)) o0.2
                  have hrb := sRk_bd o4 o5 hk
                  have hmn : pMny w (wN w) (k : Int) = sMany w (k : Int) := rfl
                  have hee := sEntIn_en w (k : Int)
                  have hFa := fL_na F l (nSet (fun l => sDueB w (l : Int)) k : Nat) (pSum (fun l => if sDueB w l = true then sFree w l else 0) k) hal
                  refine xg_iloadn 174 dX5_recount_173 rfl rfl rfl ?_
                  refine xg_iconst 175 dX5_recount_174 rfl ?_
                  refine xg_icge 309 178 dX5_recount_175 rfl rfl (by omega) (fun hb175 => ?_) (fun hb175 => ?_)
                  · skip
                    subst hX
                    exact xg_return dX5_recount_309 rfl ⟨Nat.le_refl _, Nat.le_refl _⟩ ⟨rfl, by rw [show k = 4 by omega]; rfl⟩
                  · skip
                    refine xg_iloadn 179 dX5_recount_178 rfl rfl rfl ?_
                    refine xg_iconst 180 dX5_recount_179 rfl ?_
                    refine xg_icne 203 183 dX5_recount_180 rfl rfl (by omega) (fun hb180 => ?_) (fun hb180 => ?_)
                    · skip
                      refine xg_iloadn 204 dX5_recount_203 rfl rfl rfl ?_
                      refine xg_ifeq 214 207 dX5_recount_204 rfl rfl (by omega) (fun hb204 => ?_) (fun hb204 => ?_)
                      · skip
                        refine xg_aloadn 215 dX5_recount_214 rfl rfl rfl ?_
                        refine xg_getP 218 kf_RX5_15 dX5_recount_215 rfl (by assumption) (by assumption) ?_
                        refine xg_iloadn 219 dX5_recount_218 rfl rfl rfl ?_
                        refine xg_iald 220 dX5_recount_219 rfl (by assumption) (by omega) ?_
                        rw [iL_2, gP_at _ _ (by omega), hmn]
                        refine xg_aloadn 221 dX5_recount_220 rfl rfl rfl ?_
                        refine xg_getI 224 kf_RX5_58 dX5_recount_221 rfl (by assumption) ?_
                        rw [hFa]
                        refine xg_iclt 231 227 dX5_recount_224 rfl rfl (by omega) (fun hb224 => ?_) (fun hb224 => ?_)
                        · skip
                          refine xg_iconst 232 dX5_recount_231 rfl ?_
                          refine xg_istore 234 _ dX5_recount_232 rfl rfl (by decide) (Or.inr rfl) ?_
                          refine xg_goto 264 dX5_recount_234 rfl ?_
                          refine xg_iloadn 265 dX5_recount_264 rfl rfl rfl ?_
                          refine xg_aloadn 266 dX5_recount_265 rfl rfl rfl ?_
                          refine xg_getI 269 kf_RX5_58 dX5_recount_266 rfl (by assumption) ?_
                          refine xg_imul 270 dX5_recount_269 rfl ?_
                          refine xg_istoren 271 _ dX5_recount_270 rfl rfl rfl (by decide) (Or.inr rfl) ?_
                          refine xg_iload 273 dX5_recount_271 rfl rfl ?_
                          refine xg_ifeq 303 276 dX5_recount_273 rfl rfl (by omega) (fun hb273 => ?_) (fun hb273 => ?_)
                          · have hdf : sDueB w (k : Int) = false := Bool.eq_false_iff.mpr (fun q => by have := (sDueB_k (by omega)).mp q; omega)
                            refine xg_iinc 306 _ dX5_recount_303 rfl rfl rfl rfl (by decide) (Or.inr rfl) ?_
                            refine xg_goto 173 dX5_recount_306 rfl ?_
                            rw [nSet_n (p := fun l : Nat => sDueB w (l : Int)) (r := k) hdf, show pSum (fun l => if sDueB w l = true then sFree w l else 0) k = pSum (fun l => if sDueB w l = true then sFree w l else 0) (k + 1) by rw [pSum_s, if_neg (by rw [hdf]; decide), Int.add_zero]]
                            exact xg_weak _ (xle_s rfl (xle_s rfl (xle_s (by rw [fL_na _ _ _ _ hal, c10]; first | done | rfl) (xle_s rfl (xle_n xle_0))))) (ih (k + 1) (by omega) (by omega))
                          · exfalso; omega
                        · skip
                          refine xg_iconst 228 dX5_recount_227 rfl ?_
                          refine xg_goto 232 dX5_recount_228 rfl ?_
                          refine xg_istore 234 _ dX5_recount_232 rfl rfl (by decide) (Or.inr rfl) ?_
                          refine xg_goto 264 dX5_recount_234 rfl ?_
                          refine xg_iloadn 265 dX5_recount_264 rfl rfl rfl ?_
                          refine xg_aloadn 266 dX5_recount_265 rfl rfl rfl ?_
                          refine xg_getI 269 kf_RX5_58 dX5_recount_266 rfl (by assumption) ?_
                          refine xg_imul 270 dX5_recount_269 rfl ?_
                          refine xg_istoren 271 _ dX5_recount_270 rfl rfl rfl (by decide) (Or.inr rfl) ?_
                          refine xg_iload 273 dX5_recount_271 rfl rfl ?_
                          refine xg_ifeq 303 276 dX5_recount_273 rfl rfl (by omega) (fun hb273 => ?_) (fun hb273 => ?_)
                          · exfalso; omega
                          · have hdt : sDueB w (k : Int) = true := (sDueB_k (by omega)).mpr (by omega)
                            refine xg_aloadn 277 dX5_recount_276 rfl rfl rfl ?_
                            refine xg_dup 278 dX5_recount_277 rfl rfl ?_
                            refine xg_getI 281 kf_RX5_46 dX5_recount_278 rfl (by assumption) ?_
                            rw [fL_4]
                            refine xg_iconst 282 dX5_recount_281 rfl ?_
                            refine xg_iloadn 283 dX5_recount_282 rfl rfl rfl ?_
                            refine xg_ishl 284 dX5_recount_283 rfl ?_
                            refine xg_ior 285 dX5_recount_284 rfl ?_
                            refine xg_putI 288 kf_RX5_46 dX5_recount_285 rfl (by assumption) ?_
                            rw [fL_s4]
                            refine xg_aloadn 289 dX5_recount_288 rfl rfl rfl ?_
                            refine xg_dup 290 dX5_recount_289 rfl rfl ?_
                            refine xg_getI 293 kf_RX5_49 dX5_recount_290 rfl (by assumption) ?_
                            rw [fL_5]
                            refine xg_aloadn 294 dX5_recount_293 rfl rfl rfl ?_
                            refine xg_getP 297 kf_RX5_21 dX5_recount_294 rfl (by assumption) (by assumption) ?_
                            refine xg_iloadn 298 dX5_recount_297 rfl rfl rfl ?_
                            refine xg_iald 299 dX5_recount_298 rfl (by assumption) (by omega) ?_
                            rw [iL_4, gP_at _ _ (by omega)]
                            refine xg_iadd 300 dX5_recount_299 rfl ?_
                            refine xg_putI 303 kf_RX5_49 dX5_recount_300 rfl (by assumption) ?_
                            refine xg_iinc 306 _ dX5_recount_303 rfl rfl rfl rfl (by decide) (Or.inr rfl) ?_
                            refine xg_goto 173 dX5_recount_306 rfl ?_
                            rw [fL_s5, nSet_t (p := fun l : Nat => sDueB w (l : Int)) (r := k) hdt (by omega), show pSum (fun l => if sDueB w l = true then sFree w l else 0) k + pFr w (wN w) (k : Int) = pSum (fun l => if sDueB w l = true then sFree w l else 0) (k + 1) by rw [pSum_s, if_pos hdt]; rfl]
                            exact xg_weak _ (xle_s rfl (xle_s rfl (xle_s (by rw [fL_na _ _ _ _ hal, c10]; first | done | rfl) (xle_s rfl (xle_n xle_0))))) (ih (k + 1) (by omega) (by omega))
                      · skip
                        refine xg_aloadn 208 dX5_recount_207 rfl rfl rfl ?_
                        refine xg_getI 211 kf_RX5_55 dX5_recount_208 rfl (by assumption) ?_
                        rw [hFa]
                        refine xg_ifne 237 214 dX5_recount_211 rfl rfl (by omega) (fun hb211 => ?_) (fun hb211 => ?_)
                        · skip
                          refine xg_aloadn 238 dX5_recount_237 rfl rfl rfl ?_
                          refine xg_getP 241 kf_RX5_15 dX5_recount_238 rfl (by assumption) (by assumption) ?_
                          refine xg_iloadn 242 dX5_recount_241 rfl rfl rfl ?_
                          refine xg_iald 243 dX5_recount_242 rfl (by assumption) (by omega) ?_
                          rw [iL_2, gP_at _ _ (by omega), hmn]
                          refine xg_iconst 244 dX5_recount_243 rfl ?_
                          refine xg_icgt 257 247 dX5_recount_244 rfl rfl (by omega) (fun hb244 => ?_) (fun hb244 => ?_)
                          · skip
                            refine xg_iconst 258 dX5_recount_257 rfl ?_
                            refine xg_goto 262 dX5_recount_258 rfl ?_
                            refine xg_istore 264 _ dX5_recount_262 rfl rfl (by decide) (Or.inr rfl) ?_
                            refine xg_iloadn 265 dX5_recount_264 rfl rfl rfl ?_
                            refine xg_aloadn 266 dX5_recount_265 rfl rfl rfl ?_
                            refine xg_getI 269 kf_RX5_58 dX5_recount_266 rfl (by assumption) ?_
                            refine xg_imul 270 dX5_recount_269 rfl ?_
                            refine xg_istoren 271 _ dX5_recount_270 rfl rfl rfl (by decide) (Or.inr rfl) ?_
                            refine xg_iload 273 dX5_recount_271 rfl rfl ?_
                            refine xg_ifeq 303 276 dX5_recount_273 rfl rfl (by omega) (fun hb273 => ?_) (fun hb273 => ?_)
                            · exfalso; omega
                            · have hdt : sDueB w (k : Int) = true := (sDueB_k (by omega)).mpr (by omega)
                              refine xg_aloadn 277 dX5_recount_276 rfl rfl rfl ?_
                              refine xg_dup 278 dX5_recount_277 rfl rfl ?_
                              refine xg_getI 281 kf_RX5_46 dX5_recount_278 rfl (by assumption) ?_
                              rw [fL_4]
                              refine xg_iconst 282 dX5_recount_281 rfl ?_
                              refine xg_iloadn 283 dX5_recount_282 rfl rfl rfl ?_
                              refine xg_ishl 284 dX5_recount_283 rfl ?_
                              refine xg_ior 285 dX5_recount_284 rfl ?_
                              refine xg_putI 288 kf_RX5_46 dX5_recount_285 rfl (by assumption) ?_
                              rw [fL_s4]
                              refine xg_aloadn 289 dX5_recount_288 rfl rfl rfl ?_
                              refine xg_dup 290 dX5_recount_289 rfl rfl ?_
                              refine xg_getI 293 kf_RX5_49 dX5_recount_290 rfl (by assumption) ?_
                              rw [fL_5]
                              refine xg_aloadn 294 dX5_recount_293 rfl rfl rfl ?_
                              refine xg_getP 297 kf_RX5_21 dX5_recount_294 rfl (by assumption) (by assumption) ?_
                              refine xg_iloadn 298 dX5_recount_297 rfl rfl rfl ?_
                              refine xg_iald 299 dX5_recount_298 rfl (by assumption) (by omega) ?_
                              rw [iL_4, gP_at _ _ (by omega)]
                              refine xg_iadd 300 dX5_recount_299 rfl ?_
                              refine xg_putI 303 kf_RX5_49 dX5_recount_300 rfl (by assumption) ?_
                              refine xg_iinc 306 _ dX5_recount_303 rfl rfl rfl rfl (by decide) (Or.inr rfl) ?_
                              refine xg_goto 173 dX5_recount_306 rfl ?_
                              rw [fL_s5, nSet_t (p := fun l : Nat => sDueB w (l : Int)) (r := k) hdt (by omega), show pSum (fun l => if sDueB w l = true then sFree w l else 0) k + pFr w (wN w) (k : Int) = pSum (fun l => if sDueB w l = true then sFree w l else 0) (k + 1) by rw [pSum_s, if_pos hdt]; rfl]
                              exact xg_weak _ (xle_s rfl (xle_s rfl (xle_s (by rw [fL_na _ _ _ _ hal, c10]; first | done | rfl) (xle_s rfl (xle_n xle_0))))) (ih (k + 1) (by omega) (by omega))
                          · skip
                            refine xg_aloadn 248 dX5_recount_247 rfl rfl rfl ?_
                            refine xg_getP 251 kf_RX5_18 dX5_recount_248 rfl (by assumption) (by assumption) ?_
                            refine xg_iloadn 252 dX5_recount_251 rfl rfl rfl ?_
                            refine xg_iald 253 dX5_recount_252 rfl (by assumption) (by omega) ?_
                            rw [iL_3, gP_at _ _ (by omega), ← hee]
                            refine xg_iloadn 254 dX5_recount_253 rfl rfl rfl ?_
                            refine xg_icle 261 257 dX5_recount_254 rfl rfl (by omega) (fun hb254 => ?_) (fun hb254 => ?_)
                            · skip
                              refine xg_iconst 262 dX5_recount_261 rfl ?_
                              refine xg_istore 264 _ dX5_recount_262 rfl rfl (by decide) (Or.inr rfl) ?_
                              refine xg_iloadn 265 dX5_recount_264 rfl rfl rfl ?_
                              refine xg_aloadn 266 dX5_recount_265 rfl rfl rfl ?_
                              refine xg_getI 269 kf_RX5_58 dX5_recount_266 rfl (by assumption) ?_
                              refine xg_imul 270 dX5_recount_269 rfl ?_
                              refine xg_istoren 271 _ dX5_recount_270 rfl rfl rfl (by decide) (Or.inr rfl) ?_
                              refine xg_iload 273 dX5_recount_271 rfl rfl ?_
                              refine xg_ifeq 303 276 dX5_recount_273 rfl rfl (by omega) (fun hb273 => ?_) (fun hb273 => ?_)
                              · have hdf : sDueB w (k : Int) = false := Bool.eq_false_iff.mpr (fun q => by have := (sDueB_k (by omega)).mp q; omega)
                                refine xg_iinc 306 _ dX5_recount_303 rfl rfl rfl rfl (by decide) (Or.inr rfl) ?_
                                refine xg_goto 173 dX5_recount_306 rfl ?_
                                rw [nSet_n (p := fun l : Nat => sDueB w (l : Int)) (r := k) hdf, show pSum (fun l => if sDueB w l = true then sFree w l else 0) k = pSum (fun l => if sDueB w l = true then sFree w l else 0) (k + 1) by rw [pSum_s, if_neg (by rw [hdf]; decide), Int.add_zero]]
                                exact xg_weak _ (xle_s rfl (xle_s rfl (xle_s (by rw [fL_na _ _ _ _ hal, c10]; first | done | rfl) (xle_s rfl (xle_n xle_0))))) (ih (k + 1) (by omega) (by omega))
                              · exfalso; omega
                            · skip
                              refine xg_iconst 258 dX5_recount_257 rfl ?_
                              refine xg_goto 262 dX5_recount_258 rfl ?_
                              refine xg_istore 264 _ dX5_recount_262 rfl rfl (by decide) (Or.inr rfl) ?_
                              refine xg_iloadn 265 dX5_recount_264 rfl rfl rfl ?_
                              refine xg_aloadn 266 dX5_recount_265 rfl rfl rfl ?_
                              refine xg_getI 269 kf_RX5_58 dX5_recount_266 rfl (by assumption) ?_
                              refine xg_imul 270 dX5_recount_269 rfl ?_
                              refine xg_istoren 271 _ dX5_recount_270 rfl rfl rfl (by decide) (Or.inr rfl) ?_
                              refine xg_iload 273 dX5_recount_271 rfl rfl ?_
                              refine xg_ifeq 303 276 dX5_recount_273 rfl rfl (by omega) (fun hb273 => ?_) (fun hb273 => ?_)
                              · exfalso; omega
                              · have hdt : sDueB w (k : Int) = true := (sDueB_k (by omega)).mpr (by omega)
                                refine xg_aloadn 277 dX5_recount_276 rfl rfl rfl ?_
                                refine xg_dup 278 dX5_recount_277 rfl rfl ?_
                                refine xg_getI 281 kf_RX5_46 dX5_recount_278 rfl (by assumption) ?_
                                rw [fL_4]
                                refine xg_iconst 282 dX5_recount_281 rfl ?_
                                refine xg_iloadn 283 dX5_recount_282 rfl rfl rfl ?_
                                refine xg_ishl 284 dX5_recount_283 rfl ?_
                                refine xg_ior 285 dX5_recount_284 rfl ?_
                                refine xg_putI 288 kf_RX5_46 dX5_recount_285 rfl (by assumption) ?_
                                rw [fL_s4]
                                refine xg_aloadn 289 dX5_recount_288 rfl rfl rfl ?_
                                refine xg_dup 290 dX5_recount_289 rfl rfl ?_
                                refine xg_getI 293 kf_RX5_49 dX5_recount_290 rfl (by assumption) ?_
                                rw [fL_5]
                                refine xg_aloadn 294 dX5_recount_293 rfl rfl rfl ?_
                                refine xg_getP 297 kf_RX5_21 dX5_recount_294 rfl (by assumption) (by assumption) ?_
                                refine xg_iloadn 298 dX5_recount_297 rfl rfl rfl ?_
                                refine xg_iald 299 dX5_recount_298 rfl (by assumption) (by omega) ?_
                                rw [iL_4, gP_at _ _ (by omega)]
                                refine xg_iadd 300 dX5_recount_299 rfl ?_
                                refine xg_putI 303 kf_RX5_49 dX5_recount_300 rfl (by assumption) ?_
                                refine xg_iinc 306 _ dX5_recount_303 rfl rfl rfl rfl (by decide) (Or.inr rfl) ?_
                                refine xg_goto 173 dX5_recount_306 rfl ?_
                                rw [fL_s5, nSet_t (p := fun l : Nat => sDueB w (l : Int)) (r := k) hdt (by omega), show pSum (fun l => if sDueB w l = true then sFree w l else 0) k + pFr w (wN w) (k : Int) = pSum (fun l => if sDueB w l = true then sFree w l else 0) (k + 1) by rw [pSum_s, if_pos hdt]; rfl]
                                exact xg_weak _ (xle_s rfl (xle_s rfl (xle_s (by rw [fL_na _ _ _ _ hal, c10]; first | done | rfl) (xle_s rfl (xle_n xle_0))))) (ih (k + 1) (by omega) (by omega))
                        · skip
                          refine xg_aloadn 215 dX5_recount_214 rfl rfl rfl ?_
                          refine xg_getP 218 kf_RX5_15 dX5_recount_215 rfl (by assumption) (by assumption) ?_
                          refine xg_iloadn 219 dX5_recount_218 rfl rfl rfl ?_
                          refine xg_iald 220 dX5_recount_219 rfl (by assumption) (by omega) ?_
                          rw [iL_2, gP_at _ _ (by omega), hmn]
                          refine xg_aloadn 221 dX5_recount_220 rfl rfl rfl ?_
                          refine xg_getI 224 kf_RX5_58 dX5_recount_221 rfl (by assumption) ?_
                          rw [hFa]
                          refine xg_iclt 231 227 dX5_recount_224 rfl rfl (by omega) (fun hb224 => ?_) (fun hb224 => ?_)
                          · skip
                            refine xg_iconst 232 dX5_recount_231 rfl ?_
                            refine xg_istore 234 _ dX5_recount_232 rfl rfl (by decide) (Or.inr rfl) ?_
                            refine xg_goto 264 dX5_recount_234 rfl ?_
                            refine xg_iloadn 265 dX5_recount_264 rfl rfl rfl ?_
                            refine xg_aloadn 266 dX5_recount_265 rfl rfl rfl ?_
                            refine xg_getI 269 kf_RX5_58 dX5_recount_266 rfl (by assumption) ?_
                            refine xg_imul 270 dX5_recount_269 rfl ?_
                            refine xg_istoren 271 _ dX5_recount_270 rfl rfl rfl (by decide) (Or.inr rfl) ?_
                            refine xg_iload 273 dX5_recount_271 rfl rfl ?_
                            refine xg_ifeq 303 276 dX5_recount_273 rfl rfl (by omega) (fun hb273 => ?_) (fun hb273 => ?_)
                            · have hdf : sDueB w (k : Int) = false := Bool.eq_false_iff.mpr (fun q => by have := (sDueB_k (by omega)).mp q; omega)
                              refine xg_iinc 306 _ dX5_recount_303 rfl rfl rfl rfl (by decide) (Or.inr rfl) ?_
                              refine xg_goto 173 dX5_recount_306 rfl ?_
                              rw [nSet_n (p := fun l : Nat => sDueB w (l : Int)) (r := k) hdf, show pSum (fun l => if sDueB w l = true then sFree w l else 0) k = pSum (fun l => if sDueB w l = true then sFree w l else 0) (k + 1) by rw [pSum_s, if_neg (by rw [hdf]; decide), Int.add_zero]]
                              exact xg_weak _ (xle_s rfl (xle_s rfl (xle_s (by rw [fL_na _ _ _ _ hal, c10]; first | done | rfl) (xle_s rfl (xle_n xle_0))))) (ih (k + 1) (by omega) (by omega))
                            · exfalso; omega
                          · skip
                            refine xg_iconst 228 dX5_recount_227 rfl ?_
                            refine xg_goto 232 dX5_recount_228 rfl ?_
                            refine xg_istore 234 _ dX5_recount_232 rfl rfl (by decide) (Or.inr rfl) ?_
                            refine xg_goto 264 dX5_recount_234 rfl ?_
                            refine xg_iloadn 265 dX5_recount_264 rfl rfl rfl ?_
                            refine xg_aloadn 266 dX5_recount_265 rfl rfl rfl ?_
                            refine xg_getI 269 kf_RX5_58 dX5_recount_266 rfl (by assumption) ?_
                            refine xg_imul 270 dX5_recount_269 rfl ?_
                            refine xg_istoren 271 _ dX5_recount_270 rfl rfl rfl (by decide) (Or.inr rfl) ?_
                            refine xg_iload 273 dX5_recount_271 rfl rfl ?_
                            refine xg_ifeq 303 276 dX5_recount_273 rfl rfl (by omega) (fun hb273 => ?_) (fun hb273 => ?_)
                            · exfalso; omega
                            · have hdt : sDueB w (k : Int) = true := (sDueB_k (by omega)).mpr (by omega)
                              refine xg_aloadn 277 dX5_recount_276 rfl rfl rfl ?_
                              refine xg_dup 278 dX5_recount_277 rfl rfl ?_
                              refine xg_getI 281 kf_RX5_46 dX5_recount_278 rfl (by assumption) ?_
                              rw [fL_4]
                              refine xg_iconst 282 dX5_recount_281 rfl ?_
                              refine xg_iloadn 283 dX5_recount_282 rfl rfl rfl ?_
                              refine xg_ishl 284 dX5_recount_283 rfl ?_
                              refine xg_ior 285 dX5_recount_284 rfl ?_
                              refine xg_putI 288 kf_RX5_46 dX5_recount_285 rfl (by assumption) ?_
                              rw [fL_s4]
                              refine xg_aloadn 289 dX5_recount_288 rfl rfl rfl ?_
                              refine xg_dup 290 dX5_recount_289 rfl rfl ?_
                              refine xg_getI 293 kf_RX5_49 dX5_recount_290 rfl (by assumption) ?_
                              rw [fL_5]
                              refine xg_aloadn 294 dX5_recount_293 rfl rfl rfl ?_
                              refine xg_getP 297 kf_RX5_21 dX5_recount_294 rfl (by assumption) (by assumption) ?_
                              refine xg_iloadn 298 dX5_recount_297 rfl rfl rfl ?_
                              refine xg_iald 299 dX5_recount_298 rfl (by assumption) (by omega) ?_
                              rw [iL_4, gP_at _ _ (by omega)]
                              refine xg_iadd 300 dX5_recount_299 rfl ?_
                              refine xg_putI 303 kf_RX5_49 dX5_recount_300 rfl (by assumption) ?_
                              refine xg_iinc 306 _ dX5_recount_303 rfl rfl rfl rfl (by decide) (Or.inr rfl) ?_
                              refine xg_goto 173 dX5_recount_306 rfl ?_
                              rw [fL_s5, nSet_t (p := fun l : Nat => sDueB w (l : Int)) (r := k) hdt (by omega), show pSum (fun l => if sDueB w l = true then sFree w l else 0) k + pFr w (wN w) (k : Int) = pSum (fun l => if sDueB w l = true then sFree w l else 0) (k + 1) by rw [pSum_s, if_pos hdt]; rfl]
                              exact xg_weak _ (xle_s rfl (xle_s rfl (xle_s (by rw [fL_na _ _ _ _ hal, c10]; first | done | rfl) (xle_s rfl (xle_n xle_0))))) (ih (k + 1) (by omega) (by omega))
                    · skip
                      refine xg_aloadn 184 dX5_recount_183 rfl rfl rfl ?_
                      refine xg_getP 187 kf_RX5_15 dX5_recount_184 rfl (by assumption) (by assumption) ?_
                      refine xg_iloadn 188 dX5_recount_187 rfl rfl rfl ?_
                      refine xg_iald 189 dX5_recount_188 rfl (by assumption) (by omega) ?_
                      rw [iL_2, gP_at _ _ (by omega), hmn]
                      refine xg_iconst 190 dX5_recount_189 rfl ?_
                      refine xg_iclt 197 193 dX5_recount_190 rfl rfl (by omega) (fun hb190 => ?_) (fun hb190 => ?_)
                      · skip
                        refine xg_iconst 198 dX5_recount_197 rfl ?_
                        refine xg_istore 200 _ dX5_recount_198 rfl rfl (by decide) (Or.inr rfl) ?_
                        refine xg_goto 264 dX5_recount_200 rfl ?_
                        refine xg_iloadn 265 dX5_recount_264 rfl rfl rfl ?_
                        refine xg_aloadn 266 dX5_recount_265 rfl rfl rfl ?_
                        refine xg_getI 269 kf_RX5_58 dX5_recount_266 rfl (by assumption) ?_
                        refine xg_imul 270 dX5_recount_269 rfl ?_
                        refine xg_istoren 271 _ dX5_recount_270 rfl rfl rfl (by decide) (Or.inr rfl) ?_
                        refine xg_iload 273 dX5_recount_271 rfl rfl ?_
                        refine xg_ifeq 303 276 dX5_recount_273 rfl rfl (by omega) (fun hb273 => ?_) (fun hb273 => ?_)
                        · have hdf : sDueB w (k : Int) = false := Bool.eq_false_iff.mpr (fun q => by have := (sDueB_k (by omega)).mp q; omega)
                          refine xg_iinc 306 _ dX5_recount_303 rfl rfl rfl rfl (by decide) (Or.inr rfl) ?_
                          refine xg_goto 173 dX5_recount_306 rfl ?_
                          rw [nSet_n (p := fun l : Nat => sDueB w (l : Int)) (r := k) hdf, show pSum (fun l => if sDueB w l = true then sFree w l else 0) k = pSum (fun l => if sDueB w l = true then sFree w l else 0) (k + 1) by rw [pSum_s, if_neg (by rw [hdf]; decide), Int.add_zero]]
                          exact xg_weak _ (xle_s rfl (xle_s rfl (xle_s (by rw [fL_na _ _ _ _ hal, c10]; first | done | rfl) (xle_s rfl (xle_n xle_0))))) (ih (k + 1) (by omega) (by omega))
                        · exfalso; omega
                      · skip
                        refine xg_iconst 194 dX5_recount_193 rfl ?_
                        refine xg_goto 198 dX5_recount_194 rfl ?_
                        refine xg_istore 200 _ dX5_recount_198 rfl rfl (by decide) (Or.inr rfl) ?_
                        refine xg_goto 264 dX5_recount_200 rfl ?_
                        refine xg_iloadn 265 dX5_recount_264 rfl rfl rfl ?_
                        refine xg_aloadn 266 dX5_recount_265 rfl rfl rfl ?_
                        refine xg_getI 269 kf_RX5_58 dX5_recount_266 rfl (by assumption) ?_
                        refine xg_imul 270 dX5_recount_269 rfl ?_
                        refine xg_istoren 271 _ dX5_recount_270 rfl rfl rfl (by decide) (Or.inr rfl) ?_
                        refine xg_iload 273 dX5_recount_271 rfl rfl ?_
                        refine xg_ifeq 303 276 dX5_recount_273 rfl rfl (by omega) (fun hb273 => ?_) (fun hb273 => ?_)
                        · exfalso; omega
                        · have hdt : sDueB w (k : Int) = true := (sDueB_k (by omega)).mpr (by omega)
                          refine xg_aloadn 277 dX5_recount_276 rfl rfl rfl ?_
                          refine xg_dup 278 dX5_recount_277 rfl rfl ?_
                          refine xg_getI 281 kf_RX5_46 dX5_recount_278 rfl (by assumption) ?_
                          rw [fL_4]
                          refine xg_iconst 282 dX5_recount_281 rfl ?_
                          refine xg_iloadn 283 dX5_recount_282 rfl rfl rfl ?_
                          refine xg_ishl 284 dX5_recount_283 rfl ?_
                          refine xg_ior 285 dX5_recount_284 rfl ?_
                          refine xg_putI 288 kf_RX5_46 dX5_recount_285 rfl (by assumption) ?_
                          rw [fL_s4]
                          refine xg_aloadn 289 dX5_recount_288 rfl rfl rfl ?_
                          refine xg_dup 290 dX5_recount_289 rfl rfl ?_
                          refine xg_getI 293 kf_RX5_49 dX5_recount_290 rfl (by assumption) ?_
                          rw [fL_5]
                          refine xg_aloadn 294 dX5_recount_293 rfl rfl rfl ?_
                          refine xg_getP 297 kf_RX5_21 dX5_recount_294 rfl (by assumption) (by assumption) ?_
                          refine xg_iloadn 298 dX5_recount_297 rfl rfl rfl ?_
                          refine xg_iald 299 dX5_recount_298 rfl (by assumption) (by omega) ?_
                          rw [iL_4, gP_at _ _ (by omega)]
                          refine xg_iadd 300 dX5_recount_299 rfl ?_
                          refine xg_putI 303 kf_RX5_49 dX5_recount_300 rfl (by assumption) ?_
                          refine xg_iinc 306 _ dX5_recount_303 rfl rfl rfl rfl (by decide) (Or.inr rfl) ?_
                          refine xg_goto 173 dX5_recount_306 rfl ?_
                          rw [fL_s5, nSet_t (p := fun l : Nat => sDueB w (l : Int)) (r := k) hdt (by omega), show pSum (fun l => if sDueB w l = true then sFree w l else 0) k + pFr w (wN w) (k : Int) = pSum (fun l => if sDueB w l = true then sFree w l else 0) (k + 1) by rw [pSum_s, if_pos hdt]; rfl]
                          exact xg_weak _ (xle_s rfl (xle_s rfl (xle_s (by rw [fL_na _ _ _ _ hal, c10]; first | done | rfl) (xle_s rfl (xle_n xle_0))))) (ih (k + 1) (by omega) (by omega))
              rw [show r = wN w by omega]
              exact xg_weak _ (xle_s rfl (xle_s rfl (xle_s (by rw [fL_na _ _ _ _ hal, c11]; first | done | rfl) (xle_s rfl (xle_n xle_0))))) (loop173 61 0 (by omega) (by omega))
            · skip
              refine xg_iloadn 52 dX5_recount_51 rfl rfl rfl ?_
              refine xg_bipush 54 dX5_recount_52 rfl (by decide) ?_
              refine xg_icge 156 57 dX5_recount_54 rfl rfl (by omega) (fun hb54 => ?_) (fun hb54 => ?_)
              · exfalso; omega
              · skip
                refine xg_aloadn 58 dX5_recount_57 rfl rfl rfl ?_
                refine xg_getP 61 kf_RX5_30 dX5_recount_58 rfl (by assumption) (by assumption) ?_
                refine xg_iloadn 62 dX5_recount_61 rfl rfl rfl ?_
                have hr12 : r < 12 := by omega
                have hq := p4 r (by omega)
                have hb := sR (π r) hq
                have hb0 := hb.1
                have hrn := hRn r (by omega)
                have hlr := hlv r (by omega)
                have e3 := hrn.1
                have e4 := hrn.2.1
                have e2 := hrn.n
                have hen := sEnt_bd w (201 + 122 * (r : Int))
                obtain ⟨v, hv⟩ : ∃ v : Nat, (v : Int) = w (199 + 122 * (r : Int)) := ⟨(w (199 + 122 * (r : Int))).toNat, by omega⟩
                rw [← hv] at e3
                refine xg_rald 63 dX5_recount_62 rfl (by assumption) (by omega) (p1 r (by omega)) ?_
                refine xg_astoren 64 _ dX5_recount_63 rfl rfl rfl (by decide) (Or.inr rfl) ?_
                refine xg_aloadn 65 dX5_recount_64 rfl rfl rfl ?_
                refine xg_getI 68 kf_RX5_34 dX5_recount_65 rfl (by assumption) ?_
                refine xg_iflt 150 71 dX5_recount_68 rfl rfl (by omega) (fun hb68 => ?_) (fun hb68 => ?_)
                · exfalso; omega
                · skip
                  refine xg_aloadn 72 dX5_recount_71 rfl rfl rfl ?_
                  refine xg_getI 75 kf_RX5_34 dX5_recount_72 rfl (by assumption) ?_
                  refine xg_iconst 76 dX5_recount_75 rfl ?_
                  refine xg_icge 150 79 dX5_recount_76 rfl rfl (by omega) (fun hb76 => ?_) (fun hb76 => ?_)
                  · exfalso; omega
                  · skip
                    refine xg_aloadn 80 dX5_recount_79 rfl rfl rfl ?_
                    refine xg_getP 83 kf_RX5_9 dX5_recount_80 rfl (by assumption) (by assumption) ?_
                    refine xg_aloadn 84 dX5_recount_83 rfl rfl rfl ?_
                    refine xg_getI 87 kf_RX5_34 dX5_recount_84 rfl (by assumption) ?_
                    rw [e3]
                    refine xg_dup2 88 dX5_recount_87 rfl rfl rfl ?_
                    refine xg_iald 89 dX5_recount_88 rfl (by assumption) (by omega) ?_
                    rw [iL_1, gP_at _ _ (by omega)]
                    refine xg_iconst 90 dX5_recount_89 rfl ?_
                    refine xg_iloadn 91 dX5_recount_90 rfl rfl rfl ?_
                    refine xg_ishl 92 dX5_recount_91 rfl ?_
                    refine xg_ior 93 dX5_recount_92 rfl ?_
                    refine xg_iast 94 dX5_recount_93 rfl (by assumption) (by omega) ?_
                    rw [iL_s1]
                    refine xg_aloadn 95 dX5_recount_94 rfl rfl rfl ?_
                    refine xg_getP 98 kf_RX5_15 dX5_recount_95 rfl (by assumption) (by assumption) ?_
                    refine xg_aloadn 99 dX5_recount_98 rfl rfl rfl ?_
                    refine xg_getI 102 kf_RX5_34 dX5_recount_99 rfl (by assumption) ?_
                    rw [e3]
                    refine xg_dup2 103 dX5_recount_102 rfl rfl rfl ?_
                    refine xg_iald 104 dX5_recount_103 rfl (by assumption) (by omega) ?_
                    rw [iL_2, gP_at _ _ (by omega)]
                    refine xg_iconst 105 dX5_recount_104 rfl ?_
                    refine xg_iadd 106 dX5_recount_105 rfl ?_
                    refine xg_iast 107 dX5_recount_106 rfl (by assumption) (by omega) ?_
                    rw [iL_s2]
                    refine xg_aloadn 108 dX5_recount_107 rfl rfl rfl ?_
                    refine xg_getP 111 kf_RX5_18 dX5_recount_108 rfl (by assumption) (by assumption) ?_
                    refine xg_aloadn 112 dX5_recount_111 rfl rfl rfl ?_
                    refine xg_getI 115 kf_RX5_34 dX5_recount_112 rfl (by assumption) ?_
                    rw [e3]
                    refine xg_dup2 116 dX5_recount_115 rfl rfl rfl ?_
                    refine xg_iald 117 dX5_recount_116 rfl (by assumption) (by omega) ?_
                    rw [iL_3, gP_at _ _ (by omega)]
                    refine xg_aloadn 118 dX5_recount_117 rfl rfl rfl ?_
                    refine xg_getI 121 kf_RX5_39 dX5_recount_118 rfl (by assumption) ?_
                    refine xg_iadd 122 dX5_recount_121 rfl ?_
                    refine xg_iast 123 dX5_recount_122 rfl (by assumption) (by omega) ?_
                    rw [iL_s3]
                    refine xg_aloadn 124 dX5_recount_123 rfl rfl rfl ?_
                    refine xg_getP 127 kf_RX5_21 dX5_recount_124 rfl (by assumption) (by assumption) ?_
                    refine xg_aloadn 128 dX5_recount_127 rfl rfl rfl ?_
                    refine xg_getI 131 kf_RX5_34 dX5_recount_128 rfl (by assumption) ?_
                    rw [e3]
                    refine xg_dup2 132 dX5_recount_131 rfl rfl rfl ?_
                    refine xg_iald 133 dX5_recount_132 rfl (by assumption) (by omega) ?_
                    rw [iL_4, gP_at _ _ (by omega)]
                    refine xg_aloadn 134 dX5_recount_133 rfl rfl rfl ?_
                    refine xg_getI 137 kf_RX5_42 dX5_recount_134 rfl (by assumption) ?_
                    refine xg_ifeq 144 140 dX5_recount_137 rfl rfl (by omega) (fun hb137 => ?_) (fun hb137 => ?_)
                    · skip
                      refine xg_aloadn 145 dX5_recount_144 rfl rfl rfl ?_
                      refine xg_getI 148 kf_RX5_39 dX5_recount_145 rfl (by assumption) ?_
                      refine xg_iadd 149 dX5_recount_148 rfl ?_
                      refine xg_iast 150 dX5_recount_149 rfl (by assumption) (by omega) ?_
                      rw [iL_s4]
                      refine xg_iinc 153 _ dX5_recount_150 rfl rfl rfl rfl (by decide) (Or.inr rfl) ?_
                      refine xg_goto 43 dX5_recount_153 rfl ?_
                      rw [gP_S _ _ (pRun w (r + 1)) (by omega) (fun j _ _ => pRun_s hv (by omega)), gP_S _ _ (pMny w (r + 1)) (by omega) (fun j _ _ => pMny_s hv), gP_S _ _ (pEn w (r + 1)) (by omega) (fun j _ _ => by rw [e2]; exact pEn_s hv), gP_S _ _ (pFr w (r + 1)) (by omega) (fun j _ _ => pFr_s hv (by rw [e4] at hb137; first | (rw [if_pos hb137, e2]) | (rw [if_neg hb137])) (by omega))]
                      exact xg_weak _ (xle_s rfl (xle_s rfl (xle_s rfl (xle_n (xle_n xle_0))))) (ih (r + 1) (by omega) (by omega))
                    · skip
                      refine xg_iconst 141 dX5_recount_140 rfl ?_
                      refine xg_goto 148 dX5_recount_141 rfl ?_
                      refine xg_iadd 149 dX5_recount_148 rfl ?_
                      refine xg_iast 150 dX5_recount_149 rfl (by assumption) (by omega) ?_
                      rw [iL_s4]
                      refine xg_iinc 153 _ dX5_recount_150 rfl rfl rfl rfl (by decide) (Or.inr rfl) ?_
                      refine xg_goto 43 dX5_recount_153 rfl ?_
                      rw [gP_S _ _ (pRun w (r + 1)) (by omega) (fun j _ _ => pRun_s hv (by omega)), gP_S _ _ (pMny w (r + 1)) (by omega) (fun j _ _ => pMny_s hv), gP_S _ _ (pEn w (r + 1)) (by omega) (fun j _ _ => by rw [e2]; exact pEn_s hv), gP_S _ _ (pFr w (r + 1)) (by omega) (fun j _ _ => pFr_s hv (by rw [e4] at hb137; first | (rw [if_pos hb137, e2]) | (rw [if_neg hb137])) (by omega))]
                      exact xg_weak _ (xle_s rfl (xle_s rfl (xle_s rfl (xle_n (xle_n xle_0))))) (ih (r + 1) (by omega) (by omega))
        rw [show k = 4 by omega, show ((4 : Nat) : Int) = 4 from rfl, gP_0 _ (pRun w 0) (fun _ _ _ => rfl), gP_0 _ (pMny w 0) (fun _ _ _ => rfl), gP_0 _ (pEn w 0) (fun _ _ _ => rfl), gP_0 _ (pFr w 0) (fun _ _ _ => rfl)]
        exact xg_weak _ (xle_s rfl (xle_s rfl (xle_s rfl (xle_n (xle_n xle_0))))) (loop43 61 0 (by omega) (by omega))
      · skip
        refine xg_aloadn 8 dX5_recount_7 rfl rfl rfl ?_
        refine xg_getP 11 kf_RX5_9 dX5_recount_8 rfl (by assumption) (by assumption) ?_
        refine xg_iloadn 12 dX5_recount_11 rfl rfl rfl ?_
        refine xg_iconst 13 dX5_recount_12 rfl ?_
        refine xg_iast 14 dX5_recount_13 rfl (by assumption) (by omega) ?_
        rw [iL_s1]
        refine xg_aloadn 15 dX5_recount_14 rfl rfl rfl ?_
        refine xg_getP 18 kf_RX5_15 dX5_recount_15 rfl (by assumption) (by assumption) ?_
        refine xg_iloadn 19 dX5_recount_18 rfl rfl rfl ?_
        refine xg_iconst 20 dX5_recount_19 rfl ?_
        refine xg_iast 21 dX5_recount_20 rfl (by assumption) (by omega) ?_
        rw [iL_s2]
        refine xg_aloadn 22 dX5_recount_21 rfl rfl rfl ?_
        refine xg_getP 25 kf_RX5_18 dX5_recount_22 rfl (by assumption) (by assumption) ?_
        refine xg_iloadn 26 dX5_recount_25 rfl rfl rfl ?_
        refine xg_iconst 27 dX5_recount_26 rfl ?_
        refine xg_iast 28 dX5_recount_27 rfl (by assumption) (by omega) ?_
        rw [iL_s3]
        refine xg_aloadn 29 dX5_recount_28 rfl rfl rfl ?_
        refine xg_getP 32 kf_RX5_21 dX5_recount_29 rfl (by assumption) (by assumption) ?_
        refine xg_iloadn 33 dX5_recount_32 rfl rfl rfl ?_
        refine xg_iconst 34 dX5_recount_33 rfl ?_
        refine xg_iast 35 dX5_recount_34 rfl (by assumption) (by omega) ?_
        rw [iL_s4]
        refine xg_iinc 38 _ dX5_recount_35 rfl rfl rfl rfl (by decide) (Or.inr rfl) ?_
        refine xg_goto 2 dX5_recount_38 rfl ?_
        rw [wV_s, wV_s, wV_s, wV_s]
        exact xg_weak _ (xle_s rfl (xle_s rfl (xle_s rfl (xle_n (xle_n xle_0))))) (ih (k + 1) (by omega) (by omega))
  have l0 := loop2 61 0 (by omega) (by omega)
  rw [show ((0 : Nat) : Int) = 0 from rfl, wV_0, wV_0, wV_0, wV_0] at l0
  refine xg_own4 l ?_
  exact xg_weak _ (xle_s rfl (xle_s rfl (xle_s rfl (xle_n (xle_n xle_0))))) l0

theorem rLv_rec {F : Nat → Nat → Int} {I : Nat → Int → Int} {a : Nat} {w : Int → Int} : rLv (fL F (a + 45) (sDueN w : Nat) (sOwed w)) (iL I (a + 45) (gP (I (a + 45 + 1)) (pRun w (wN w))) (gP (I (a + 45 + 2)) (pMny w (wN w))) (gP (I (a + 45 + 3)) (pEn w (wN w))) (gP (I (a + 45 + 4)) (pFr w (wN w)))) a w := by
  refine ⟨fun l hl => ⟨?_, ?_, ?_, ?_⟩, fL_4 _ _ _ _, fL_5 _ _ _ _⟩
  · rw [show a + 46 = a + 45 + 1 by omega, iL_1, gP_at _ _ (by omega)]; rfl
  · rw [show a + 47 = a + 45 + 2 by omega, iL_2, gP_at _ _ (by omega)]; rfl
  · rw [show a + 48 = a + 45 + 3 by omega, iL_3, gP_at _ _ (by omega), sEntIn_en]
  · rw [show a + 49 = a + 45 + 4 by omega, iL_4, gP_at _ _ (by omega)]; rfl
