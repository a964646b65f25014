theorem rRun.v {F : Nat → Nat → Int} {I : Nat → Int → Int} {b : Nat} {w : Int → Int} {r k : Int} (h : rRun F I b w r) (hk : 0 ≤ k ∧ k < 60) : (if 0 ≤ k ∧ k < 60 then I (b + 1) k else -1) = w (201 + 122 * r + k) := by rw [if_pos hk]; exact (h.2.2.2 k hk.1 hk.2).1
theorem rRun.v2 {F : Nat → Nat → Int} {I : Nat → Int → Int} {b : Nat} {w : Int → Int} {r k : Int} (h : rRun F I b w r) (hk : 0 ≤ k ∧ k < 60) : I (b + 1) k = w (201 + 122 * r + k) := (h.2.2.2 k hk.1 hk.2).1
theorem rRun.g {F : Nat → Nat → Int} {I : Nat → Int → Int} {b : Nat} {w : Int → Int} {r k : Int} (h : rRun F I b w r) (hk : 0 ≤ k ∧ k < 60) (hv : w (201 + 122 * r + k) ≠ -1) : (if 0 ≤ k ∧ k < 60 then I (b + 2) k else -1) = w (261 + 122 * r + k) := by rw [if_pos hk]; exact (h.2.2.2 k hk.1 hk.2).2 hv
theorem rRun.n {F : Nat → Nat → Int} {I : Nat → Int → Int} {b : Nat} {w : Int → Int} {r : Int} (h : rRun F I b w r) : F b 2 = sEnt w (201 + 122 * r) := h.2.2.1
theorem rTab.v {F : Nat → Nat → Int} {I : Nat → Int → Int} {b : Nat} {w : Int → Int} {k : Int} (h : rTab F I b w) (hk : 0 ≤ k ∧ k < 60) : (if 0 ≤ k ∧ k < 60 then I (b + 1) k else -1) = w (19 + k) := by rw [if_pos hk]; exact (h.2.2.2 k hk.1 hk.2).1
theorem rTab.v2 {F : Nat → Nat → Int} {I : Nat → Int → Int} {b : Nat} {w : Int → Int} {k : Int} (h : rTab F I b w) (hk : 0 ≤ k ∧ k < 60) : I (b + 1) k = w (19 + k) := (h.2.2.2 k hk.1 hk.2).1
theorem rTab.n {F : Nat → Nat → Int} {I : Nat → Int → Int} {b : Nat} {w : Int → Int} (h : rTab F I b w) : F b 2 = sEnt w 19 := h.2.2.1
theorem rOut.v2 {F : Nat → Nat → Int} {I : Nat → Int → Int} {b : Nat} {w : Int → Int} {k : Int} (h : rOut F I b w) (hk : 0 ≤ k ∧ k < 60) : I (b + 1) k = w (79 + k) := (h.2.2 k hk.1 hk.2).1
theorem rOut.n {F : Nat → Nat → Int} {I : Nat → Int → Int} {b : Nat} {w : Int → Int} (h : rOut F I b w) : F b 2 = sEnt w 79 := h.2.1
/-- what is found of a key: of the newest that has it, from the run lo on -/
def sFv (w : Int → Int) (key : Int) : Nat → Nat → Int → Int
  | 0, _, v => v
  | k + 1, lo, v => if v ≠ -1 then v else sFv w key k (lo + 1) (w (201 + 122 * (lo : Int) + key))
theorem sFv_stop (w : Int → Int) (key : Int) {k lo : Nat} {v : Int} (h : k = 0 ∨ v ≠ -1) : sFv w key k lo v = v := by
  cases k with
  | zero => rfl
  | succ k => rw [sFv, if_pos (by omega)]
theorem sFv_find (w : Int → Int) (key : Int) : ∀ (k lo : Nat), sFv w key k lo (-1) = if sFind (fun r => wHas w key r) k lo = lo + k then -1 else w (201 + 122 * ((sFind (fun r => wHas w key r) k lo : Nat) : Int) + key)
  | 0, lo => by rw [sFv, sFind, if_pos (by omega)]
  | k + 1, lo => by
    rw [sFv, if_neg (by omega), sFind]
    by_cases h : wHas w key lo = true
    · rw [if_pos h, if_neg (by omega)]
      exact sFv_stop w key (Or.inr (of_decide_eq_true h))
    · rw [if_neg h]
      have h2 : w (201 + 122 * (lo : Int) + key) = -1 := by
        have := of_decide_eq_false (Bool.eq_false_iff.mpr h); omega
      rw [h2, sFv_find w key k (lo + 1), show lo + 1 + k = lo + (k + 1) by omega]
theorem sFnd_v (w : Int → Int) (key : Int) : sFnd w key = if sFv w key (wN w) 0 (w (19 + key)) = 100 then -1 else sFv w key (wN w) 0 (w (19 + key)) := by
  have h1 := sFind_ge (fun r => wHas w key r) (wN w) 0
  by_cases h : w (19 + key) = -1
  · by_cases h2 : sFind (fun r => wHas w key r) (wN w) 0 = wN w
    · have e : sNewO w key = -1 := by unfold sNewO sNewR; rw [if_neg (by omega), if_pos h2]
      rw [h, sFv_find, if_pos (show _ = 0 + wN w by omega)]
      simp only [sFnd, e]; rfl
    · have e : sNewO w key = ((sFind (fun r => wHas w key r) (wN w) 0 : Nat) : Int) + 1 := by unfold sNewO sNewR; rw [if_neg (by omega), if_neg h2]
      rw [h, sFv_find, if_neg (show ¬ _ = 0 + wN w by omega)]
      simp only [sFnd, e]
      generalize sFind (fun r => wHas w key r) (wN w) 0 = s at h1 h2
      rw [if_neg (show ¬ (s : Int) + 1 = -1 by omega), if_neg (show ¬ (s : Int) + 1 = 0 by omega), show (s : Int) + 1 - 1 = (s : Int) by omega]
  · have e : sNewO w key = 0 := by unfold sNewO; rw [if_pos h]
    rw [sFv_stop w key (Or.inr h)]
    simp only [sFnd, e]; rfl
/-- in how many rows one looks for a key, from the run lo on -/
def sTv (w : Int → Int) (key : Int) : Nat → Nat → Int → Int
  | 0, _, n => n
  | k + 1, lo, n => if wHas w key lo = true then n + 1 else sTv w key k (lo + 1) (n + 1)
theorem sTv_find (w : Int → Int) (key : Int) : ∀ (k lo : Nat) (n : Int), sTv w key k lo n = if sFind (fun r => wHas w key r) k lo = lo + k then n + k else n + ((sFind (fun r => wHas w key r) k lo : Nat) : Int) - lo + 1
  | 0, lo, n => by rw [sTv, sFind, if_pos (by omega)]; simp
  | k + 1, lo, n => by
    rw [sTv, sFind]
    by_cases h : wHas w key lo = true
    · rw [if_pos h, if_pos h, if_neg (by omega)]; omega
    · rw [if_neg h, if_neg h, sTv_find w key k (lo + 1) (n + 1)]
      by_cases h2 : sFind (fun r => wHas w key r) k (lo + 1) = lo + 1 + k
      · rw [if_pos h2, if_pos (by omega)]; omega
      · rw [if_neg h2, if_neg (by omega)]; omega
theorem sTook_v {w : Int → Int} (key : Int) (hN : 0 ≤ w 0) : sTook w key = if w (19 + key) ≠ -1 then (if 0 < sEnt w 19 then 1 else 0) else sTv w key (wN w) 0 (if 0 < sEnt w 19 then 1 else 0) := by
  have h1 := sFind_ge (fun r => wHas w key r) (wN w) 0
  have h3 := wN_i hN
  unfold sTook
  by_cases h : w (19 + key) = -1
  · rw [if_neg (show ¬ w (19 + key) ≠ -1 by omega), sTv_find]
    by_cases h2 : sFind (fun r => wHas w key r) (wN w) 0 = wN w
    · have e : sNewO w key = -1 := by unfold sNewO sNewR; rw [if_neg (by omega), if_pos h2]
      rw [e, if_pos (show (-1 : Int) = -1 from rfl), if_pos (show _ = 0 + wN w by omega)]; omega
    · have e : sNewO w key = ((sFind (fun r => wHas w key r) (wN w) 0 : Nat) : Int) + 1 := by unfold sNewO sNewR; rw [if_neg (by omega), if_neg h2]
      rw [e, if_neg (show ¬ _ = 0 + wN w by omega)]
      generalize sFind (fun r => wHas w key r) (wN w) 0 = s at h1 h2
      rw [if_neg (show ¬ (s : Int) + 1 = -1 by omega), if_neg (show ¬ (s : Int) + 1 = 0 by omega)]; omega
  · have e : sNewO w key = 0 := by unfold sNewO; rw [if_pos h]
    rw [e, if_pos h, if_neg (show ¬ (0 : Int) = -1 by omega), if_pos (show (0 : Int) = 0 from rfl)]; omega
theorem sEnt_pos {w : Int → Int} {row key : Int} (hk : 0 ≤ key ∧ key < 60) (hv : w (row + key) ≠ -1) : 0 < sEnt w row := by
  have h1 := pSum_one (f := fun k => if (fun j => if j = key then -1 else w (row + j)) k = -1 then 0 else 1) (g := fun k => if w (row + k) = -1 then 0 else 1) (k := key.toNat) (fun j hj => by
    show (if w (row + (j : Int)) = -1 then (0 : Int) else 1) = if (if (j : Int) = key then (-1 : Int) else w (row + (j : Int))) = -1 then 0 else 1
    rw [if_neg (show ¬ (j : Int) = key by omega)]) 60
  have h2 := pSum_bd (f := fun k => if (fun j => if j = key then -1 else w (row + j)) k = -1 then 0 else 1) (b := 1) (k := 60) (fun j _ => by show 0 ≤ (if (if (j : Int) = key then (-1 : Int) else w (row + (j : Int))) = -1 then (0 : Int) else 1) ∧ (if (if (j : Int) = key then (-1 : Int) else w (row + (j : Int))) = -1 then (0 : Int) else 1) ≤ 1; split <;> omega)
  rw [if_pos (by omega), show ((key.toNat : Nat) : Int) = key by omega] at h1
  rw [if_neg hv, if_pos (show (if key = key then (-1 : Int) else w (row + key)) = -1 from if_pos rfl)] at h1
  unfold sEnt; omega
/-- whether a run from lo on has the key -/
def sBh (w : Int → Int) (key : Int) : Nat → Nat → Bool
  | 0, _ => false
  | k + 1, lo => wHas w key lo || sBh w key k (lo + 1)
theorem sFind_eq {p : Nat → Bool} {k lo : Nat} (h : p lo = true) : sFind p (k + 1) lo = lo := by rw [sFind, if_pos h]
theorem sFind_ne {p : Nat → Bool} {k lo : Nat} (h : p lo = false) : sFind p (k + 1) lo = sFind p k (lo + 1) := by rw [sFind, if_neg (by rw [h]; decide)]
theorem sFv_bd {w : Int → Int} (hO : wOk w) {key : Int} (hk : 0 ≤ key ∧ key < 60) : ∀ (k lo : Nat) (v : Int), (-1 ≤ v ∧ v ≤ 100) → lo + k ≤ 12 → -1 ≤ sFv w key k lo v ∧ sFv w key k lo v ≤ 100
  | 0, _, _, hv, _ => hv
  | k + 1, lo, v, hv, h => by
    rw [sFv]
    split
    · exact hv
    · exact sFv_bd hO hk k (lo + 1) _ (hO.2.2.2.2.2.2.2.2.2.2.2.2.2.2 _ (by omega) (by omega)) (by omega)
theorem sFnd_b2 {w : Int → Int} (hO : wOk w) {key : Int} (hk : 0 ≤ key ∧ key < 60) : -1 ≤ sFnd w key ∧ sFnd w key ≤ 100 := by
  have h := sFv_bd hO hk (wN w) 0 _ (hO.2.2.2.2.2.2.2.2.2.2.2.2.2.2 (19 + key) (by omega) (by omega)) (by have := hO.2.1; unfold wN; omega)
  rw [sFnd_v]
  split <;> omega
theorem nSet_n {p : Nat → Bool} {r : Nat} (h : p r = false) : ((nSet p r : Nat) : Int) = (nSet p (r + 1) : Nat) := by rw [nSet, h]; simp
theorem wOk_lv {w : Int → Int} (h : w32 w) (i : Int) : -2147483648 ≤ w i ∧ w i < 2147483648 := h i
theorem dX8_rowNamed_0 : decode cX8_rowNamed 0 = .ok (.iload_n 1, 1) := by decide +kernel
theorem dX8_rowNamed_1 : decode cX8_rowNamed 1 = .ok (.iconst (-1), 1) := by decide +kernel
theorem dX8_rowNamed_2 : decode cX8_rowNamed 2 = .ok (.if_icmp .ne 8, 3) := by decide +kernel
theorem dX8_rowNamed_5 : decode cX8_rowNamed 5 = .ok (.aload_n 0, 1) := by decide +kernel
theorem dX8_rowNamed_6 : decode cX8_rowNamed 6 = .ok (.getfield 18, 3) := by decide +kernel
theorem dX8_rowNamed_9 : decode cX8_rowNamed 9 = .ok (.areturn, 1) := by decide +kernel
theorem dX8_rowNamed_10 : decode cX8_rowNamed 10 = .ok (.aload_n 0, 1) := by decide +kernel
theorem dX8_rowNamed_11 : decode cX8_rowNamed 11 = .ok (.iload_n 1, 1) := by decide +kernel
theorem dX8_rowNamed_12 : decode cX8_rowNamed 12 = .ok (.invokevirtual 103, 3) := by decide +kernel
theorem dX8_rowNamed_15 : decode cX8_rowNamed 15 = .ok (.ifCond .eq 12, 3) := by decide +kernel
theorem dX8_rowNamed_18 : decode cX8_rowNamed 18 = .ok (.aload_n 0, 1) := by decide +kernel
theorem dX8_rowNamed_19 : decode cX8_rowNamed 19 = .ok (.getfield 11, 3) := by decide +kernel
theorem dX8_rowNamed_22 : decode cX8_rowNamed 22 = .ok (.iload_n 1, 1) := by decide +kernel
theorem dX8_rowNamed_23 : decode cX8_rowNamed 23 = .ok (.aaload, 1) := by decide +kernel
theorem dX8_rowNamed_24 : decode cX8_rowNamed 24 = .ok (.goto 7, 3) := by decide +kernel
theorem dX8_rowNamed_27 : decode cX8_rowNamed 27 = .ok (.aload_n 0, 1) := by decide +kernel
theorem dX8_rowNamed_28 : decode cX8_rowNamed 28 = .ok (.getfield 22, 3) := by decide +kernel
theorem dX8_rowNamed_31 : decode cX8_rowNamed 31 = .ok (.areturn, 1) := by decide +kernel
theorem dX8_entriesOfRuns_0 : decode cX8_entriesOfRuns 0 = .ok (.iconst 0, 1) := by decide +kernel
theorem dX8_entriesOfRuns_1 : decode cX8_entriesOfRuns 1 = .ok (.istore_n 1, 1) := by decide +kernel
theorem dX8_entriesOfRuns_2 : decode cX8_entriesOfRuns 2 = .ok (.iconst 0, 1) := by decide +kernel
theorem dX8_entriesOfRuns_3 : decode cX8_entriesOfRuns 3 = .ok (.istore_n 2, 1) := by decide +kernel
theorem dX8_entriesOfRuns_4 : decode cX8_entriesOfRuns 4 = .ok (.iload_n 2, 1) := by decide +kernel
theorem dX8_entriesOfRuns_5 : decode cX8_entriesOfRuns 5 = .ok (.iconst 4, 1) := by decide +kernel
theorem dX8_entriesOfRuns_6 : decode cX8_entriesOfRuns 6 = .ok (.if_icmp .ge 21, 3) := by decide +kernel
theorem dX8_entriesOfRuns_9 : decode cX8_entriesOfRuns 9 = .ok (.iload_n 1, 1) := by decide +kernel
theorem dX8_entriesOfRuns_10 : decode cX8_entriesOfRuns 10 = .ok (.aload_n 0, 1) := by decide +kernel
theorem dX8_entriesOfRuns_11 : decode cX8_entriesOfRuns 11 = .ok (.getfield 35, 3) := by decide +kernel
theorem dX8_entriesOfRuns_14 : decode cX8_entriesOfRuns 14 = .ok (.getfield 107, 3) := by decide +kernel
theorem dX8_entriesOfRuns_17 : decode cX8_entriesOfRuns 17 = .ok (.iload_n 2, 1) := by decide +kernel
theorem dX8_entriesOfRuns_18 : decode cX8_entriesOfRuns 18 = .ok (.iaload, 1) := by decide +kernel
theorem dX8_entriesOfRuns_19 : decode cX8_entriesOfRuns 19 = .ok (.iadd, 1) := by decide +kernel
theorem dX8_entriesOfRuns_20 : decode cX8_entriesOfRuns 20 = .ok (.istore_n 1, 1) := by decide +kernel
theorem dX8_entriesOfRuns_21 : decode cX8_entriesOfRuns 21 = .ok (.iinc 2 1, 3) := by decide +kernel
theorem dX8_entriesOfRuns_24 : decode cX8_entriesOfRuns 24 = .ok (.goto (-20), 3) := by decide +kernel
theorem dX8_entriesOfRuns_27 : decode cX8_entriesOfRuns 27 = .ok (.iload_n 1, 1) := by decide +kernel
theorem dX8_entriesOfRuns_28 : decode cX8_entriesOfRuns 28 = .ok (.ireturn, 1) := by decide +kernel
theorem dX8_inputBits_0 : decode cX8_inputBits 0 = .ok (.iconst 0, 1) := by decide +kernel
theorem dX8_inputBits_1 : decode cX8_inputBits 1 = .ok (.istore_n 1, 1) := by decide +kernel
theorem dX8_inputBits_2 : decode cX8_inputBits 2 = .ok (.iconst 0, 1) := by decide +kernel
theorem dX8_inputBits_3 : decode cX8_inputBits 3 = .ok (.istore_n 2, 1) := by decide +kernel
theorem dX8_inputBits_4 : decode cX8_inputBits 4 = .ok (.iload_n 2, 1) := by decide +kernel
theorem dX8_inputBits_5 : decode cX8_inputBits 5 = .ok (.aload_n 0, 1) := by decide +kernel
theorem dX8_inputBits_6 : decode cX8_inputBits 6 = .ok (.getfield 70, 3) := by decide +kernel
theorem dX8_inputBits_9 : decode cX8_inputBits 9 = .ok (.if_icmp .ge 33, 3) := by decide +kernel
theorem dX8_inputBits_12 : decode cX8_inputBits 12 = .ok (.iload_n 2, 1) := by decide +kernel
theorem dX8_inputBits_13 : decode cX8_inputBits 13 = .ok (.bipush 12, 2) := by decide +kernel
theorem dX8_inputBits_15 : decode cX8_inputBits 15 = .ok (.if_icmp .ge 27, 3) := by decide +kernel
theorem dX8_inputBits_18 : decode cX8_inputBits 18 = .ok (.aload_n 0, 1) := by decide +kernel
theorem dX8_inputBits_19 : decode cX8_inputBits 19 = .ok (.getfield 11, 3) := by decide +kernel
theorem dX8_inputBits_22 : decode cX8_inputBits 22 = .ok (.iload_n 2, 1) := by decide +kernel
theorem dX8_inputBits_23 : decode cX8_inputBits 23 = .ok (.aaload, 1) := by decide +kernel
theorem dX8_inputBits_24 : decode cX8_inputBits 24 = .ok (.getfield 110, 3) := by decide +kernel
theorem dX8_inputBits_27 : decode cX8_inputBits 27 = .ok (.ifCond .eq 9, 3) := by decide +kernel
theorem dX8_inputBits_30 : decode cX8_inputBits 30 = .ok (.iload_n 1, 1) := by decide +kernel
theorem dX8_inputBits_31 : decode cX8_inputBits 31 = .ok (.iconst 1, 1) := by decide +kernel
theorem dX8_inputBits_32 : decode cX8_inputBits 32 = .ok (.iload_n 2, 1) := by decide +kernel
theorem dX8_inputBits_33 : decode cX8_inputBits 33 = .ok (.ishl, 1) := by decide +kernel
theorem dX8_inputBits_34 : decode cX8_inputBits 34 = .ok (.ior, 1) := by decide +kernel
theorem dX8_inputBits_35 : decode cX8_inputBits 35 = .ok (.istore_n 1, 1) := by decide +kernel
theorem dX8_inputBits_36 : decode cX8_inputBits 36 = .ok (.iinc 2 1, 3) := by decide +kernel
theorem dX8_inputBits_39 : decode cX8_inputBits 39 = .ok (.goto (-35), 3) := by decide +kernel
theorem dX8_inputBits_42 : decode cX8_inputBits 42 = .ok (.iload_n 1, 1) := by decide +kernel
theorem dX8_inputBits_43 : decode cX8_inputBits 43 = .ok (.ireturn, 1) := by decide +kernel
theorem dX8_found_0 : decode cX8_found 0 = .ok (.aload_n 0, 1) := by decide +kernel
theorem dX8_found_1 : decode cX8_found 1 = .ok (.getfield 18, 3) := by decide +kernel
theorem dX8_found_4 : decode cX8_found 4 = .ok (.iload_n 1, 1) := by decide +kernel
theorem dX8_found_5 : decode cX8_found 5 = .ok (.invokevirtual 113, 3) := by decide +kernel
theorem dX8_found_8 : decode cX8_found 8 = .ok (.istore_n 2, 1) := by decide +kernel
theorem dX8_found_9 : decode cX8_found 9 = .ok (.iconst 0, 1) := by decide +kernel
theorem dX8_found_10 : decode cX8_found 10 = .ok (.istore_n 3, 1) := by decide +kernel
theorem dX8_found_11 : decode cX8_found 11 = .ok (.iload_n 3, 1) := by decide +kernel
theorem dX8_found_12 : decode cX8_found 12 = .ok (.aload_n 0, 1) := by decide +kernel
theorem dX8_found_13 : decode cX8_found 13 = .ok (.getfield 70, 3) := by decide +kernel
theorem dX8_found_16 : decode cX8_found 16 = .ok (.if_icmp .ge 31, 3) := by decide +kernel
theorem dX8_found_19 : decode cX8_found 19 = .ok (.iload_n 3, 1) := by decide +kernel
theorem dX8_found_20 : decode cX8_found 20 = .ok (.bipush 12, 2) := by decide +kernel
theorem dX8_found_22 : decode cX8_found 22 = .ok (.if_icmp .ge 25, 3) := by decide +kernel
theorem dX8_found_25 : decode cX8_found 25 = .ok (.iload_n 2, 1) := by decide +kernel
theorem dX8_found_26 : decode cX8_found 26 = .ok (.iconst (-1), 1) := by decide +kernel
theorem dX8_found_27 : decode cX8_found 27 = .ok (.if_icmp .ne 20, 3) := by decide +kernel
theorem dX8_found_30 : decode cX8_found 30 = .ok (.aload_n 0, 1) := by decide +kernel
theorem dX8_found_31 : decode cX8_found 31 = .ok (.getfield 11, 3) := by decide +kernel
theorem dX8_found_34 : decode cX8_found 34 = .ok (.iload_n 3, 1) := by decide +kernel
theorem dX8_found_35 : decode cX8_found 35 = .ok (.aaload, 1) := by decide +kernel
theorem dX8_found_36 : decode cX8_found 36 = .ok (.iload_n 1, 1) := by decide +kernel
theorem dX8_found_37 : decode cX8_found 37 = .ok (.invokevirtual 113, 3) := by decide +kernel
theorem dX8_found_40 : decode cX8_found 40 = .ok (.istore_n 2, 1) := by decide +kernel
theorem dX8_found_41 : decode cX8_found 41 = .ok (.iinc 3 1, 3) := by decide +kernel
theorem dX8_found_44 : decode cX8_found 44 = .ok (.goto (-33), 3) := by decide +kernel
theorem dX8_found_47 : decode cX8_found 47 = .ok (.iload_n 2, 1) := by decide +kernel
theorem dX8_found_48 : decode cX8_found 48 = .ok (.bipush 100, 2) := by decide +kernel
theorem dX8_found_50 : decode cX8_found 50 = .ok (.if_icmp .ne 7, 3) := by decide +kernel
theorem dX8_found_53 : decode cX8_found 53 = .ok (.iconst (-1), 1) := by decide +kernel
theorem dX8_found_54 : decode cX8_found 54 = .ok (.goto 4, 3) := by decide +kernel
theorem dX8_found_57 : decode cX8_found 57 = .ok (.iload_n 2, 1) := by decide +kernel
theorem dX8_found_58 : decode cX8_found 58 = .ok (.ireturn, 1) := by decide +kernel
theorem dX8_took_0 : decode cX8_took 0 = .ok (.aload_n 0, 1) := by decide +kernel
theorem dX8_took_1 : decode cX8_took 1 = .ok (.getfield 18, 3) := by decide +kernel
theorem dX8_took_4 : decode cX8_took 4 = .ok (.iload_n 1, 1) := by decide +kernel
theorem dX8_took_5 : decode cX8_took 5 = .ok (.invokevirtual 113, 3) := by decide +kernel
theorem dX8_took_8 : decode cX8_took 8 = .ok (.iconst (-1), 1) := by decide +kernel
theorem dX8_took_9 : decode cX8_took 9 = .ok (.if_icmp .eq 5, 3) := by decide +kernel
theorem dX8_took_12 : decode cX8_took 12 = .ok (.iconst 1, 1) := by decide +kernel
theorem dX8_took_13 : decode cX8_took 13 = .ok (.ireturn, 1) := by decide +kernel
theorem dX8_took_14 : decode cX8_took 14 = .ok (.aload_n 0, 1) := by decide +kernel
theorem dX8_took_15 : decode cX8_took 15 = .ok (.getfield 18, 3) := by decide +kernel
theorem dX8_took_18 : decode cX8_took 18 = .ok (.getfield 117, 3) := by decide +kernel
theorem dX8_took_21 : decode cX8_took 21 = .ok (.ifCond .le 7, 3) := by decide +kernel
theorem dX8_took_24 : decode cX8_took 24 = .ok (.iconst 1, 1) := by decide +kernel
theorem dX8_took_25 : decode cX8_took 25 = .ok (.goto 4, 3) := by decide +kernel
theorem dX8_took_28 : decode cX8_took 28 = .ok (.iconst 0, 1) := by decide +kernel
theorem dX8_took_29 : decode cX8_took 29 = .ok (.istore_n 2, 1) := by decide +kernel
theorem dX8_took_30 : decode cX8_took 30 = .ok (.iconst 0, 1) := by decide +kernel
theorem dX8_took_31 : decode cX8_took 31 = .ok (.istore_n 3, 1) := by decide +kernel
theorem dX8_took_32 : decode cX8_took 32 = .ok (.iload_n 3, 1) := by decide +kernel
theorem dX8_took_33 : decode cX8_took 33 = .ok (.aload_n 0, 1) := by decide +kernel
theorem dX8_took_34 : decode cX8_took 34 = .ok (.getfield 70, 3) := by decide +kernel
theorem dX8_took_37 : decode cX8_took 37 = .ok (.if_icmp .ge 34, 3) := by decide +kernel
theorem dX8_took_40 : decode cX8_took 40 = .ok (.iload_n 3, 1) := by decide +kernel
theorem dX8_took_41 : decode cX8_took 41 = .ok (.bipush 12, 2) := by decide +kernel
theorem dX8_took_43 : decode cX8_took 43 = .ok (.if_icmp .ge 28, 3) := by decide +kernel
theorem dX8_took_46 : decode cX8_took 46 = .ok (.iinc 2 1, 3) := by decide +kernel
theorem dX8_took_49 : decode cX8_took 49 = .ok (.aload_n 0, 1) := by decide +kernel
theorem dX8_took_50 : decode cX8_took 50 = .ok (.getfield 11, 3) := by decide +kernel
theorem dX8_took_53 : decode cX8_took 53 = .ok (.iload_n 3, 1) := by decide +kernel
theorem dX8_took_54 : decode cX8_took 54 = .ok (.aaload, 1) := by decide +kernel
theorem dX8_took_55 : decode cX8_took 55 = .ok (.iload_n 1, 1) := by decide +kernel
theorem dX8_took_56 : decode cX8_took 56 = .ok (.invokevirtual 113, 3) := by decide +kernel
theorem dX8_took_59 : decode cX8_took 59 = .ok (.iconst (-1), 1) := by decide +kernel
theorem dX8_took_60 : decode cX8_took 60 = .ok (.if_icmp .eq 5, 3) := by decide +kernel
theorem dX8_took_63 : decode cX8_took 63 = .ok (.iload_n 2, 1) := by decide +kernel
theorem dX8_took_64 : decode cX8_took 64 = .ok (.ireturn, 1) := by decide +kernel
theorem dX8_took_65 : decode cX8_took 65 = .ok (.iinc 3 1, 3) := by decide +kernel
theorem dX8_took_68 : decode cX8_took 68 = .ok (.goto (-36), 3) := by decide +kernel
theorem dX8_took_71 : decode cX8_took 71 = .ok (.iload_n 2, 1) := by decide +kernel
theorem dX8_took_72 : decode cX8_took 72 = .ok (.ireturn, 1) := by decide +kernel
theorem dX8_foundKeys_0 : decode cX8_foundKeys 0 = .ok (.iconst 0, 1) := by decide +kernel
theorem dX8_foundKeys_1 : decode cX8_foundKeys 1 = .ok (.istore_n 1, 1) := by decide +kernel
theorem dX8_foundKeys_2 : decode cX8_foundKeys 2 = .ok (.iconst 0, 1) := by decide +kernel
theorem dX8_foundKeys_3 : decode cX8_foundKeys 3 = .ok (.istore_n 2, 1) := by decide +kernel
theorem dX8_foundKeys_4 : decode cX8_foundKeys 4 = .ok (.iload_n 2, 1) := by decide +kernel
theorem dX8_foundKeys_5 : decode cX8_foundKeys 5 = .ok (.bipush 60, 2) := by decide +kernel
theorem dX8_foundKeys_7 : decode cX8_foundKeys 7 = .ok (.if_icmp .ge 21, 3) := by decide +kernel
theorem dX8_foundKeys_10 : decode cX8_foundKeys 10 = .ok (.aload_n 0, 1) := by decide +kernel
theorem dX8_foundKeys_11 : decode cX8_foundKeys 11 = .ok (.iload_n 2, 1) := by decide +kernel
theorem dX8_foundKeys_12 : decode cX8_foundKeys 12 = .ok (.invokevirtual 120, 3) := by decide +kernel
theorem dX8_foundKeys_15 : decode cX8_foundKeys 15 = .ok (.iconst (-1), 1) := by decide +kernel
theorem dX8_foundKeys_16 : decode cX8_foundKeys 16 = .ok (.if_icmp .eq 6, 3) := by decide +kernel
theorem dX8_foundKeys_19 : decode cX8_foundKeys 19 = .ok (.iinc 1 1, 3) := by decide +kernel
theorem dX8_foundKeys_22 : decode cX8_foundKeys 22 = .ok (.iinc 2 1, 3) := by decide +kernel
theorem dX8_foundKeys_25 : decode cX8_foundKeys 25 = .ok (.goto (-21), 3) := by decide +kernel
theorem dX8_foundKeys_28 : decode cX8_foundKeys 28 = .ok (.iload_n 1, 1) := by decide +kernel
theorem dX8_foundKeys_29 : decode cX8_foundKeys 29 = .ok (.ireturn, 1) := by decide +kernel
theorem dX8_debtNow_0 : decode cX8_debtNow 0 = .ok (.aload_n 0, 1) := by decide +kernel
theorem dX8_debtNow_1 : decode cX8_debtNow 1 = .ok (.getfield 28, 3) := by decide +kernel
theorem dX8_debtNow_4 : decode cX8_debtNow 4 = .ok (.getfield 123, 3) := by decide +kernel
theorem dX8_debtNow_7 : decode cX8_debtNow 7 = .ok (.aload_n 0, 1) := by decide +kernel
theorem dX8_debtNow_8 : decode cX8_debtNow 8 = .ok (.getfield 35, 3) := by decide +kernel
theorem dX8_debtNow_11 : decode cX8_debtNow 11 = .ok (.getfield 126, 3) := by decide +kernel
theorem dX8_debtNow_14 : decode cX8_debtNow 14 = .ok (.iadd, 1) := by decide +kernel
theorem dX8_debtNow_15 : decode cX8_debtNow 15 = .ok (.ireturn, 1) := by decide +kernel
theorem dX8_oldestLevel_0 : decode cX8_oldestLevel 0 = .ok (.aload_n 0, 1) := by decide +kernel
theorem dX8_oldestLevel_1 : decode cX8_oldestLevel 1 = .ok (.aload_n 0, 1) := by decide +kernel
theorem dX8_oldestLevel_2 : decode cX8_oldestLevel 2 = .ok (.getfield 70, 3) := by decide +kernel
theorem dX8_oldestLevel_5 : decode cX8_oldestLevel 5 = .ok (.iconst 1, 1) := by decide +kernel
theorem dX8_oldestLevel_6 : decode cX8_oldestLevel 6 = .ok (.isub, 1) := by decide +kernel
theorem dX8_oldestLevel_7 : decode cX8_oldestLevel 7 = .ok (.invokevirtual 103, 3) := by decide +kernel
theorem dX8_oldestLevel_10 : decode cX8_oldestLevel 10 = .ok (.ifCond .eq 20, 3) := by decide +kernel
theorem dX8_oldestLevel_13 : decode cX8_oldestLevel 13 = .ok (.aload_n 0, 1) := by decide +kernel
theorem dX8_oldestLevel_14 : decode cX8_oldestLevel 14 = .ok (.getfield 11, 3) := by decide +kernel
theorem dX8_oldestLevel_17 : decode cX8_oldestLevel 17 = .ok (.aload_n 0, 1) := by decide +kernel
theorem dX8_oldestLevel_18 : decode cX8_oldestLevel 18 = .ok (.getfield 70, 3) := by decide +kernel
theorem dX8_oldestLevel_21 : decode cX8_oldestLevel 21 = .ok (.iconst 1, 1) := by decide +kernel
theorem dX8_oldestLevel_22 : decode cX8_oldestLevel 22 = .ok (.isub, 1) := by decide +kernel
theorem dX8_oldestLevel_23 : decode cX8_oldestLevel 23 = .ok (.aaload, 1) := by decide +kernel
theorem dX8_oldestLevel_24 : decode cX8_oldestLevel 24 = .ok (.getfield 167, 3) := by decide +kernel
theorem dX8_oldestLevel_27 : decode cX8_oldestLevel 27 = .ok (.goto 4, 3) := by decide +kernel
theorem dX8_oldestLevel_30 : decode cX8_oldestLevel 30 = .ok (.iconst 0, 1) := by decide +kernel
theorem dX8_oldestLevel_31 : decode cX8_oldestLevel 31 = .ok (.ireturn, 1) := by decide +kernel
theorem dX8_nextKey_0 : decode cX8_nextKey 0 = .ok (.aload_n 0, 1) := by decide +kernel
theorem dX8_nextKey_1 : decode cX8_nextKey 1 = .ok (.getfield 28, 3) := by decide +kernel
theorem dX8_nextKey_4 : decode cX8_nextKey 4 = .ok (.getfield 173, 3) := by decide +kernel
theorem dX8_nextKey_7 : decode cX8_nextKey 7 = .ok (.istore_n 1, 1) := by decide +kernel
theorem dX8_nextKey_8 : decode cX8_nextKey 8 = .ok (.iload_n 1, 1) := by decide +kernel
theorem dX8_nextKey_9 : decode cX8_nextKey 9 = .ok (.bipush 60, 2) := by decide +kernel
theorem dX8_nextKey_11 : decode cX8_nextKey 11 = .ok (.if_icmp .ge 59, 3) := by decide +kernel
theorem dX8_nextKey_14 : decode cX8_nextKey 14 = .ok (.iconst 0, 1) := by decide +kernel
theorem dX8_nextKey_15 : decode cX8_nextKey 15 = .ok (.istore_n 2, 1) := by decide +kernel
theorem dX8_nextKey_16 : decode cX8_nextKey 16 = .ok (.iload_n 2, 1) := by decide +kernel
theorem dX8_nextKey_17 : decode cX8_nextKey 17 = .ok (.aload_n 0, 1) := by decide +kernel
theorem dX8_nextKey_18 : decode cX8_nextKey 18 = .ok (.getfield 70, 3) := by decide +kernel
theorem dX8_nextKey_21 : decode cX8_nextKey 21 = .ok (.if_icmp .ge 43, 3) := by decide +kernel
theorem dX8_nextKey_24 : decode cX8_nextKey 24 = .ok (.iload_n 2, 1) := by decide +kernel
theorem dX8_nextKey_25 : decode cX8_nextKey 25 = .ok (.bipush 12, 2) := by decide +kernel
theorem dX8_nextKey_27 : decode cX8_nextKey 27 = .ok (.if_icmp .ge 37, 3) := by decide +kernel
theorem dX8_nextKey_30 : decode cX8_nextKey 30 = .ok (.aload_n 0, 1) := by decide +kernel
theorem dX8_nextKey_31 : decode cX8_nextKey 31 = .ok (.getfield 11, 3) := by decide +kernel
theorem dX8_nextKey_34 : decode cX8_nextKey 34 = .ok (.iload_n 2, 1) := by decide +kernel
theorem dX8_nextKey_35 : decode cX8_nextKey 35 = .ok (.aaload, 1) := by decide +kernel
theorem dX8_nextKey_36 : decode cX8_nextKey 36 = .ok (.getfield 110, 3) := by decide +kernel
theorem dX8_nextKey_39 : decode cX8_nextKey 39 = .ok (.ifCond .eq 19, 3) := by decide +kernel
theorem dX8_nextKey_42 : decode cX8_nextKey 42 = .ok (.aload_n 0, 1) := by decide +kernel
theorem dX8_nextKey_43 : decode cX8_nextKey 43 = .ok (.getfield 11, 3) := by decide +kernel
theorem dX8_nextKey_46 : decode cX8_nextKey 46 = .ok (.iload_n 2, 1) := by decide +kernel
theorem dX8_nextKey_47 : decode cX8_nextKey 47 = .ok (.aaload, 1) := by decide +kernel
theorem dX8_nextKey_48 : decode cX8_nextKey 48 = .ok (.iload_n 1, 1) := by decide +kernel
theorem dX8_nextKey_49 : decode cX8_nextKey 49 = .ok (.invokevirtual 113, 3) := by decide +kernel
theorem dX8_nextKey_52 : decode cX8_nextKey 52 = .ok (.iconst (-1), 1) := by decide +kernel
theorem dX8_nextKey_53 : decode cX8_nextKey 53 = .ok (.if_icmp .eq 5, 3) := by decide +kernel
theorem dX8_nextKey_56 : decode cX8_nextKey 56 = .ok (.iload_n 1, 1) := by decide +kernel
theorem dX8_nextKey_57 : decode cX8_nextKey 57 = .ok (.ireturn, 1) := by decide +kernel
theorem dX8_nextKey_58 : decode cX8_nextKey 58 = .ok (.iinc 2 1, 3) := by decide +kernel
theorem dX8_nextKey_61 : decode cX8_nextKey 61 = .ok (.goto (-45), 3) := by decide +kernel
theorem dX8_nextKey_64 : decode cX8_nextKey 64 = .ok (.iinc 1 1, 3) := by decide +kernel
theorem dX8_nextKey_67 : decode cX8_nextKey 67 = .ok (.goto (-59), 3) := by decide +kernel
theorem dX8_nextKey_70 : decode cX8_nextKey 70 = .ok (.bipush 60, 2) := by decide +kernel
theorem dX8_nextKey_72 : decode cX8_nextKey 72 = .ok (.ireturn, 1) := by decide +kernel
theorem dX8_isBehind_0 : decode cX8_isBehind 0 = .ok (.iload_n 1, 1) := by decide +kernel
theorem dX8_isBehind_1 : decode cX8_isBehind 1 = .ok (.iconst 1, 1) := by decide +kernel
theorem dX8_isBehind_2 : decode cX8_isBehind 2 = .ok (.iadd, 1) := by decide +kernel
theorem dX8_isBehind_3 : decode cX8_isBehind 3 = .ok (.istore_n 3, 1) := by decide +kernel
theorem dX8_isBehind_4 : decode cX8_isBehind 4 = .ok (.iload_n 3, 1) := by decide +kernel
theorem dX8_isBehind_5 : decode cX8_isBehind 5 = .ok (.aload_n 0, 1) := by decide +kernel
theorem dX8_isBehind_6 : decode cX8_isBehind 6 = .ok (.getfield 70, 3) := by decide +kernel
theorem dX8_isBehind_9 : decode cX8_isBehind 9 = .ok (.if_icmp .ge 31, 3) := by decide +kernel
theorem dX8_isBehind_12 : decode cX8_isBehind 12 = .ok (.iload_n 3, 1) := by decide +kernel
theorem dX8_isBehind_13 : decode cX8_isBehind 13 = .ok (.bipush 12, 2) := by decide +kernel
theorem dX8_isBehind_15 : decode cX8_isBehind 15 = .ok (.if_icmp .ge 25, 3) := by decide +kernel
theorem dX8_isBehind_18 : decode cX8_isBehind 18 = .ok (.aload_n 0, 1) := by decide +kernel
theorem dX8_isBehind_19 : decode cX8_isBehind 19 = .ok (.getfield 11, 3) := by decide +kernel
theorem dX8_isBehind_22 : decode cX8_isBehind 22 = .ok (.iload_n 3, 1) := by decide +kernel
theorem dX8_isBehind_23 : decode cX8_isBehind 23 = .ok (.aaload, 1) := by decide +kernel
theorem dX8_isBehind_24 : decode cX8_isBehind 24 = .ok (.iload_n 2, 1) := by decide +kernel
theorem dX8_isBehind_25 : decode cX8_isBehind 25 = .ok (.invokevirtual 113, 3) := by decide +kernel
theorem dX8_isBehind_28 : decode cX8_isBehind 28 = .ok (.iconst (-1), 1) := by decide +kernel
theorem dX8_isBehind_29 : decode cX8_isBehind 29 = .ok (.if_icmp .eq 5, 3) := by decide +kernel
theorem dX8_isBehind_32 : decode cX8_isBehind 32 = .ok (.iconst 1, 1) := by decide +kernel
theorem dX8_isBehind_33 : decode cX8_isBehind 33 = .ok (.ireturn, 1) := by decide +kernel
theorem dX8_isBehind_34 : decode cX8_isBehind 34 = .ok (.iinc 3 1, 3) := by decide +kernel
theorem dX8_isBehind_37 : decode cX8_isBehind 37 = .ok (.goto (-33), 3) := by decide +kernel
theorem dX8_isBehind_40 : decode cX8_isBehind 40 = .ok (.iconst 0, 1) := by decide +kernel
theorem dX8_isBehind_41 : decode cX8_isBehind 41 = .ok (.ireturn, 1) := by decide +kernel
set_option maxHeartbeats 4000000 in
set_option maxRecDepth 100000 in
theorem ct_X8_entriesOfRuns {E : xE} {z : Nat} {T : Nat → Nat × Int} {F : Nat → Nat → Int} {I : Nat → Int → Int} {P : Nat → Nat → Option Nat} {Y : Nat → Int → Option Nat} {a : Nat} {w : Int → Int} (hS : SR T F I P Y a w)  : Ct E 0 mX8_entriesOfRuns 0 0 [.ref a] (z, T, F, I, P, Y) (xd (some (J (pSum (fun l => sEntIn w (sRuns w l)) 4))) (z, T, F, I, P, Y)) := by
  obtain ⟨⟨hO, hL, hTy⟩, hLw, ⟨π, hB⟩, hV, hLf⟩ := id hS
  obtain ⟨⟨⟨⟨s0, s1, s2, s3⟩, sR, ⟨s4, s5⟩, ⟨s6, sLv⟩, ⟨s7, s8⟩, ⟨s9, sJo⟩, s10, s11, s12⟩, p1, p2, p3, p4, p5⟩, ⟨⟨c1, c9, c10, c11, c12, c13, c14, c15⟩, hTl, j0, j1, j2⟩, hRn, hTb, hOt, hJo⟩ := id hB
  obtain ⟨hR, o0, o1, o2, o3, o4, o5, o6, oc, o13, o14, o16, o17, o18, ov⟩ := id hO
  have hN := wN_i o0.1
  obtain ⟨l0, ⟨l1, l2, l3, l4⟩, ⟨m1, n1⟩, ⟨m2, n2⟩, ⟨m3, n3⟩, m4, n4⟩ := sLv
  refine Ct.of [some (.ref a), none, none] kt_X8_entriesOfRuns rfl (Nat.le_of_ble_eq_true rfl) rfl (fun d hd => ?_)
  generalize hX : xN E _ _ _ = X
  refine xg_iconst 1 dX8_entriesOfRuns_0 rfl ?_
  refine xg_istoren 2 _ dX8_entriesOfRuns_1 rfl rfl rfl (by decide) (Or.inr rfl) ?_
  refine xg_iconst 3 dX8_entriesOfRuns_2 rfl ?_
  refine xg_istoren 4 _ dX8_entriesOfRuns_3 rfl rfl rfl (by decide) (Or.inr rfl) ?_
  have loop4 : ∀ (mm : Nat) (k : Nat) (n : Int), (k ≤ 4) → n = pSum (fun l => sEntIn w (sRuns w l)) k → 4 - (k : Int) < (mm : Int) → xG E mX8_entriesOfRuns (xR d 0 0) X 4 [some (.ref a), some (J n), some (J (k : Int))] [] (z, T, F, I, P, Y) 0 0 := by
    intro mm
    induction mm with
    | zero => intro k n hk hn hm; exfalso; omega
    | succ mm ih =>
      intro k n hk hn hm
      refine xg_iloadn 5 dX8_entriesOfRuns_4 rfl rfl rfl ?_
      refine xg_iconst 6 dX8_entriesOfRuns_5 rfl ?_
      refine xg_icge 27 9 dX8_entriesOfRuns_6 rfl rfl (by omega) (fun hb6 => ?_) (fun hb6 => ?_)
      · skip
        refine xg_iloadn 28 dX8_entriesOfRuns_27 rfl rfl rfl ?_
        subst hX
        exact xg_ireturn dX8_entriesOfRuns_28 rfl ⟨Nat.le_refl _, Nat.le_refl _⟩ ⟨by rw [hn, show k = 4 by omega], rfl⟩
      · skip
        refine xg_iloadn 10 dX8_entriesOfRuns_9 rfl rfl rfl ?_
        refine xg_aloadn 11 dX8_entriesOfRuns_10 rfl rfl rfl ?_
        refine xg_getP 14 kf_RX8_35 dX8_entriesOfRuns_11 rfl (by assumption) (by assumption) ?_
        refine xg_getP 17 kf_RX8_107 dX8_entriesOfRuns_14 rfl (by assumption) (by assumption) ?_
        refine xg_iloadn 18 dX8_entriesOfRuns_17 rfl rfl rfl ?_
        refine xg_iald 19 dX8_entriesOfRuns_18 rfl (by assumption) (by omega) ?_
        refine xg_iadd 20 dX8_entriesOfRuns_19 rfl ?_
        refine xg_istoren 21 _ dX8_entriesOfRuns_20 rfl rfl rfl (by decide) (Or.inr rfl) ?_
        refine xg_iinc 24 _ dX8_entriesOfRuns_21 rfl rfl rfl rfl (by decide) (Or.inr rfl) ?_
        refine xg_goto 4 dX8_entriesOfRuns_24 rfl ?_
        exact xg_weak _ (xle_s rfl (xle_s rfl (xle_s rfl xle_0))) (ih (k + 1) _ (by omega) (by rw [pSum_s, (hV.1 k (by omega)).2.2.1, hn]) (by omega))
  exact xg_weak _ (xle_s rfl (xle_s rfl (xle_s rfl xle_0))) (loop4 61 0 0 (by omega) rfl (by omega))

set_option maxHeartbeats 4000000 in
set_option maxRecDepth 100000 in
theorem ct_X8_inputBits {E : xE} {z : Nat} {T : Nat → Nat × Int} {F : Nat → Nat → Int} {I : Nat → Int → Int} {P : Nat → Nat → Option Nat} {Y : Nat → Int → Option Nat} {a : Nat} {w : Int → Int} (hI01 : ∀ r : Nat, (r : Int) < w 0 → w (200 + 122 * (r : Int)) = 0 ∨ w (200 + 122 * (r : Int)) = 1) (hS : SR T F I P Y a w)  : Ct E 0 mX8_inputBits 0 0 [.ref a] (z, T, F, I, P, Y) (xd (some (J (sInp w : Nat))) (z, T, F, I, P, Y)) := by
  obtain ⟨⟨hO, hL, hTy⟩, hLw, ⟨π, hB⟩, hV, hLf⟩ := id hS
  obtain ⟨⟨⟨⟨s0, s1, s2, s3⟩, sR, ⟨s4, s5⟩, ⟨s6, sLv⟩, ⟨s7, s8⟩, ⟨s9, sJo⟩, s10, s11, s12⟩, p1, p2, p3, p4, p5⟩, ⟨⟨c1, c9, c10, c11, c12, c13, c14, c15⟩, hTl, j0, j1, j2⟩, hRn, hTb, hOt, hJo⟩ := id hB
  obtain ⟨hR, o0, o1, o2, o3, o4, o5, o6, oc, o13, o14, o16, o17, o18, ov⟩ := id hO
  have hN := wN_i o0.1
  refine Ct.of [some (.ref a), none, none] kt_X8_inputBits rfl (Nat.le_of_ble_eq_true rfl) rfl (fun d hd => ?_)
  generalize hX : xN E _ _ _ = X
  refine xg_iconst 1 dX8_inputBits_0 rfl ?_
  refine xg_istoren 2 _ dX8_inputBits_1 rfl rfl rfl (by decide) (Or.inr rfl) ?_
  refine xg_iconst 3 dX8_inputBits_2 rfl ?_
  refine xg_istoren 4 _ dX8_inputBits_3 rfl rfl rfl (by decide) (Or.inr rfl) ?_
  have loop4 : ∀ (mm : Nat) (r : Nat) (n : Int), ((r : Int) ≤ w 0) → n = (nSet (fun r => decide (w (200 + 122 * (r : Int)) = 1)) r : Nat) → w 0 - (r : Int) < (mm : Int) → xG E mX8_inputBits (xR d 0 0) X 4 [some (.ref a), some (J n), some (J (r : Int))] [] (z, T, F, I, P, Y) 0 0 := by
    intro mm
    induction mm with
    | zero => intro r n hr hn hm; exfalso; omega
    | succ mm ih =>
      intro r n hr hn hm
      refine xg_iloadn 5 dX8_inputBits_4 rfl rfl rfl ?_
      refine xg_aloadn 6 dX8_inputBits_5 rfl rfl rfl ?_
      refine xg_getI 9 kf_RX8_70 dX8_inputBits_6 rfl (by assumption) ?_
      refine xg_icge 42 12 dX8_inputBits_9 rfl rfl (by omega) (fun hb9 => ?_) (fun hb9 => ?_)
      · skip
        refine xg_iloadn 43 dX8_inputBits_42 rfl rfl rfl ?_
        subst hX
        exact xg_ireturn dX8_inputBits_43 rfl ⟨Nat.le_refl _, Nat.le_refl _⟩ ⟨by rw [hn, show r = wN w by omega]; rfl, rfl⟩
      · skip
        refine xg_iloadn 13 dX8_inputBits_12 rfl rfl rfl ?_
        refine xg_bipush 15 dX8_inputBits_13 rfl (by decide) ?_
        refine xg_icge 42 18 dX8_inputBits_15 rfl rfl (by omega) (fun hb15 => ?_) (fun hb15 => ?_)
        · exfalso; omega
        · skip
          refine xg_aloadn 19 dX8_inputBits_18 rfl rfl rfl ?_
          refine xg_getP 22 kf_RX8_11 dX8_inputBits_19 rfl (by assumption) (by assumption) ?_
          refine xg_iloadn 23 dX8_inputBits_22 rfl rfl rfl ?_
          have hr12 : r < 12 := by omega
          have hq := p4 r (by omega)
          have hb := sR (π r) hq
          have hb0 := hb.1
          have hrn := hRn r (by omega)
          refine xg_rald 24 dX8_inputBits_23 rfl (by assumption) (by omega) (p1 r (by omega)) ?_
          have hr12 : r < 12 := by omega
          have hq := p4 r (by omega)
          have hb := sR (π r) hq
          have hb0 := hb.1
          have hrn := hRn r (by omega)
          have hrn2 := hrn.2.1
          have hvi := ov (200 + 122 * (r : Int)) (by omega) (by omega)
          have hvj := hI01 r (by omega)
          refine xg_getI 27 kf_RX8_110 dX8_inputBits_24 rfl (by assumption) ?_
          refine xg_ifeq 36 30 dX8_inputBits_27 rfl rfl (by omega) (fun hb27 => ?_) (fun hb27 => ?_)
          · skip
            refine xg_iinc 39 _ dX8_inputBits_36 rfl rfl rfl rfl (by decide) (Or.inr rfl) ?_
            refine xg_goto 4 dX8_inputBits_39 rfl ?_
            exact xg_weak _ (xle_s rfl (xle_s rfl (xle_s rfl xle_0))) (ih (r + 1) _ (by omega) (by rw [hn]; exact nSet_n (decide_eq_false (by omega))) (by omega))
          · skip
            refine xg_iloadn 31 dX8_inputBits_30 rfl rfl rfl ?_
            refine xg_iconst 32 dX8_inputBits_31 rfl ?_
            refine xg_iloadn 33 dX8_inputBits_32 rfl rfl rfl ?_
            refine xg_ishl 34 dX8_inputBits_33 rfl ?_
            refine xg_ior 35 dX8_inputBits_34 rfl ?_
            refine xg_istoren 36 _ dX8_inputBits_35 rfl rfl rfl (by decide) (Or.inr rfl) ?_
            refine xg_iinc 39 _ dX8_inputBits_36 rfl rfl rfl rfl (by decide) (Or.inr rfl) ?_
            refine xg_goto 4 dX8_inputBits_39 rfl ?_
            exact xg_weak _ (xle_s rfl (xle_s rfl (xle_s rfl xle_0))) (ih (r + 1) _ (by omega) (by rw [hn]; exact nSet_t (decide_eq_true (by omega)) (by omega)) (by omega))
  exact xg_weak _ (xle_s rfl (xle_s rfl (xle_s rfl xle_0))) (loop4 61 0 0 (by omega) rfl (by omega))

set_option maxHeartbeats 4000000 in
set_option maxRecDepth 100000 in
theorem ct_X8_found {E : xE} {z : Nat} {T : Nat → Nat × Int} {F : Nat → Nat → Int} {I : Nat → Int → Int} {P : Nat → Nat → Option Nat} {Y : Nat → Int → Option Nat} {a : Nat} {w : Int → Int} (hS : SR T F I P Y a w) {key : Int} (hk : 0 ≤ key ∧ key < 60) : Ct E 1 mX8_found 0 0 [.ref a, J key] (z, T, F, I, P, Y) (xd (some (J (sFnd w key))) (z, T, F, I, P, Y)) := by
  obtain ⟨⟨hO, hL, hTy⟩, hLw, ⟨π, hB⟩, hV, hLf⟩ := id hS
  obtain ⟨⟨⟨⟨s0, s1, s2, s3⟩, sR, ⟨s4, s5⟩, ⟨s6, sLv⟩, ⟨s7, s8⟩, ⟨s9, sJo⟩, s10, s11, s12⟩, p1, p2, p3, p4, p5⟩, ⟨⟨c1, c9, c10, c11, c12, c13, c14, c15⟩, hTl, j0, j1, j2⟩, hRn, hTb, hOt, hJo⟩ := id hB
  obtain ⟨hR, o0, o1, o2, o3, o4, o5, o6, oc, o13, o14, o16, o17, o18, ov⟩ := id hO
  have hN := wN_i o0.1
  have ht := sR (π 12) (p4 12 (by omega))
  have ht0 := ht.1
  refine Ct.of [some (.ref a), some (J key), none, none] kt_X8_found rfl (Nat.le_of_ble_eq_true rfl) rfl (fun d hd => ?_)
  generalize hX : xN E _ _ _ = X
  refine xg_aloadn 1 dX8_found_0 rfl rfl rfl ?_
  refine xg_getP 4 kf_RX8_18 dX8_found_1 rfl (by assumption) (by assumption) ?_
  refine xg_iloadn 5 dX8_found_4 rfl rfl rfl ?_
  refine xg_callV 8 6 [_] _ kv_X6_valueOf ⟨_, _, rfl⟩ kl_RX8_113 dX8_found_5 rfl (by assumption) (by omega) rfl rfl (Nat.le_of_ble_eq_true rfl) (by omega) ⟨Nat.le_refl _, Nat.le_refl _⟩ (ct_X6_valueOf ht (by omega)) rfl ?_
  rw [hTb.v hk]
  have hv19 := ov (19 + key) (by omega) (by omega)
  refine xg_istoren 9 _ dX8_found_8 rfl rfl rfl (by decide) (Or.inr rfl) ?_
  refine xg_iconst 10 dX8_found_9 rfl ?_
  refine xg_istoren 11 _ dX8_found_10 rfl rfl rfl (by decide) (Or.inr rfl) ?_
  have loop11 : ∀ (mm : Nat) (v : Int) (r : Nat), ((r : Int) ≤ w 0) → (-1 ≤ v ∧ v ≤ 100) → sFv w key (wN w - r) r v = sFv w key (wN w) 0 (w (19 + key)) → w 0 - (r : Int) < (mm : Int) → xG E mX8_found (xR d 0 0) X 11 [some (.ref a), some (J key), some (J v), some (J (r : Int))] [] (z, T, F, I, P, Y) 0 0 := by
    intro mm
    induction mm with
    | zero => intro v r hr hv hv2 hm; exfalso; omega
    | succ mm ih =>
      intro v r hr hv hv2 hm
      refine xg_iloadn 12 dX8_found_11 rfl rfl rfl ?_
      refine xg_aloadn 13 dX8_found_12 rfl rfl rfl ?_
      refine xg_getI 16 kf_RX8_70 dX8_found_13 rfl (by assumption) ?_
      refine xg_icge 47 19 dX8_found_16 rfl rfl (by omega) (fun hb16 => ?_) (fun hb16 => ?_)
      · skip
        refine xg_iloadn 48 dX8_found_47 rfl rfl rfl ?_
        refine xg_bipush 50 dX8_found_48 rfl (by decide) ?_
        refine xg_icne 57 53 dX8_found_50 rfl rfl (by omega) (fun hb50 => ?_) (fun hb50 => ?_)
        · skip
          refine xg_iloadn 58 dX8_found_57 rfl rfl rfl ?_
          subst hX
          exact xg_ireturn dX8_found_58 rfl ⟨Nat.le_refl _, Nat.le_refl _⟩ ⟨by rw [sFnd_v, ← hv2, sFv_stop w key (by omega)]; first | rw [if_neg hb50] | rw [if_pos hb50], rfl⟩
        · skip
          refine xg_iconst 54 dX8_found_53 rfl ?_
          refine xg_goto 58 dX8_found_54 rfl ?_
          subst hX
          exact xg_ireturn dX8_found_58 rfl ⟨Nat.le_refl _, Nat.le_refl _⟩ ⟨by rw [sFnd_v, ← hv2, sFv_stop w key (by omega)]; first | rw [if_neg hb50] | rw [if_pos hb50], rfl⟩
      · skip
        refine xg_iloadn 20 dX8_found_19 rfl rfl rfl ?_
        refine xg_bipush 22 dX8_found_20 rfl (by decide) ?_
        refine xg_icge 47 25 dX8_found_22 rfl rfl (by omega) (fun hb22 => ?_) (fun hb22 => ?_)
        · exfalso; omega
        · skip
          refine xg_iloadn 26 dX8_found_25 rfl rfl rfl ?_
          refine xg_iconst 27 dX8_found_26 rfl ?_
          refine xg_icne 47 30 dX8_found_27 rfl rfl (by omega) (fun hb27 => ?_) (fun hb27 => ?_)
          · skip
            refine xg_iloadn 48 dX8_found_47 rfl rfl rfl ?_
            refine xg_bipush 50 dX8_found_48 rfl (by decide) ?_
            refine xg_icne 57 53 dX8_found_50 rfl rfl (by omega) (fun hb50 => ?_) (fun hb50 => ?_)
            · skip
              refine xg_iloadn 58 dX8_found_57 rfl rfl rfl ?_
              subst hX
              exact xg_ireturn dX8_found_58 rfl ⟨Nat.le_refl _, Nat.le_refl _⟩ ⟨by rw [sFnd_v, ← hv2, sFv_stop w key (by omega)]; first | rw [if_neg hb50] | rw [if_pos hb50], rfl⟩
            · skip
              refine xg_iconst 54 dX8_found_53 rfl ?_
              refine xg_goto 58 dX8_found_54 rfl ?_
              subst hX
              exact xg_ireturn dX8_found_58 rfl ⟨Nat.le_refl _, Nat.le_refl _⟩ ⟨by rw [sFnd_v, ← hv2, sFv_stop w key (by omega)]; first | rw [if_neg hb50] | rw [if_pos hb50], rfl⟩
          · skip
            refine xg_aloadn 31 dX8_found_30 rfl rfl rfl ?_
            refine xg_getP 34 kf_RX8_11 dX8_found_31 rfl (by assumption) (by assumption) ?_
            refine xg_iloadn 35 dX8_found_34 rfl rfl rfl ?_
            have hr12 : r < 12 := by omega
            have hq := p4 r (by omega)
            have hb := sR (π r) hq
            have hb0 := hb.1
            have hrn := hRn r (by omega)
            refine xg_rald 36 dX8_found_35 rfl (by assumption) (by omega) (p1 r (by omega)) ?_
            refine xg_iloadn 37 dX8_found_36 rfl rfl rfl ?_
            refine xg_callV 40 6 [_] _ kv_X6_valueOf ⟨_, _, rfl⟩ kl_RX8_113 dX8_found_37 rfl (by assumption) (by omega) rfl rfl (Nat.le_of_ble_eq_true rfl) (by omega) ⟨Nat.le_refl _, Nat.le_refl _⟩ (ct_X6_valueOf hb (by omega)) rfl ?_
            rw [hrn.v hk]
            have hvr := ov (201 + 122 * (r : Int) + key) (by omega) (by omega)
            refine xg_istoren 41 _ dX8_found_40 rfl rfl rfl (by decide) (Or.inr rfl) ?_
            refine xg_iinc 44 _ dX8_found_41 rfl rfl rfl rfl (by decide) (Or.inr rfl) ?_
            refine xg_goto 11 dX8_found_44 rfl ?_
            exact xg_weak _ (xle_s rfl (xle_s rfl (xle_s rfl (xle_s rfl xle_0)))) (ih _ (r + 1) (by omega) hvr (by rw [← hv2, show wN w - r = (wN w - (r + 1)) + 1 by omega, sFv, if_neg (by omega)]) (by omega))
  exact xg_weak _ (xle_s rfl (xle_s rfl (xle_s rfl (xle_s rfl xle_0)))) (loop11 61 _ 0 (by omega) hv19 rfl (by omega))

set_option maxHeartbeats 4000000 in
set_option maxRecDepth 100000 in
theorem ct_X8_took {E : xE} {z : Nat} {T : Nat → Nat × Int} {F : Nat → Nat → Int} {I : Nat → Int → Int} {P : Nat → Nat → Option Nat} {Y : Nat → Int → Option Nat} {a : Nat} {w : Int → Int} (hS : SR T F I P Y a w) {key : Int} (hk : 0 ≤ key ∧ key < 60) : Ct E 1 mX8_took 0 0 [.ref a, J key] (z, T, F, I, P, Y) (xd (some (J (sTook w key))) (z, T, F, I, P, Y)) := by
  obtain ⟨⟨hO, hL, hTy⟩, hLw, ⟨π, hB⟩, hV, hLf⟩ := id hS
  obtain ⟨⟨⟨⟨s0, s1, s2, s3⟩, sR, ⟨s4, s5⟩, ⟨s6, sLv⟩, ⟨s7, s8⟩, ⟨s9, sJo⟩, s10, s11, s12⟩, p1, p2, p3, p4, p5⟩, ⟨⟨c1, c9, c10, c11, c12, c13, c14, c15⟩, hTl, j0, j1, j2⟩, hRn, hTb, hOt, hJo⟩ := id hB
  obtain ⟨hR, o0, o1, o2, o3, o4, o5, o6, oc, o13, o14, o16, o17, o18, ov⟩ := id hO
  have hN := wN_i o0.1
  have ht := sR (π 12) (p4 12 (by omega))
  have ht0 := ht.1
  have hen := sEnt_bd w 19
  have hte := hTb.n
  refine Ct.of [some (.ref a), some (J key), none, none] kt_X8_took rfl (Nat.le_of_ble_eq_true rfl) rfl (fun d hd => ?_)
  generalize hX : xN E _ _ _ = X
  refine xg_aloadn 1 dX8_took_0 rfl rfl rfl ?_
  refine xg_getP 4 kf_RX8_18 dX8_took_1 rfl (by assumption) (by assumption) ?_
  refine xg_iloadn 5 dX8_took_4 rfl rfl rfl ?_
  refine xg_callV 8 6 [_] _ kv_X6_valueOf ⟨_, _, rfl⟩ kl_RX8_113 dX8_took_5 rfl (by assumption) (by omega) rfl rfl (Nat.le_of_ble_eq_true rfl) (by omega) ⟨Nat.le_refl _, Nat.le_refl _⟩ (ct_X6_valueOf ht (by omega)) rfl ?_
  rw [hTb.v hk]
  have hv19 := ov (19 + key) (by omega) (by omega)
  refine xg_iconst 9 dX8_took_8 rfl ?_
  refine xg_iceq 14 12 dX8_took_9 rfl rfl (by omega) (fun hb9 => ?_) (fun hb9 => ?_)
  · skip
    refine xg_aloadn 15 dX8_took_14 rfl rfl rfl ?_
    refine xg_getP 18 kf_RX8_18 dX8_took_15 rfl (by assumption) (by assumption) ?_
    refine xg_getI 21 kf_RX8_117 dX8_took_18 rfl (by assumption) ?_
    refine xg_ifle 28 24 dX8_took_21 rfl rfl (by omega) (fun hb21 => ?_) (fun hb21 => ?_)
    · skip
      refine xg_iconst 29 dX8_took_28 rfl ?_
      refine xg_istoren 30 _ dX8_took_29 rfl rfl rfl (by decide) (Or.inr rfl) ?_
      refine xg_iconst 31 dX8_took_30 rfl ?_
      refine xg_istoren 32 _ dX8_took_31 rfl rfl rfl (by decide) (Or.inr rfl) ?_
      have loop32 : ∀ (mm : Nat) (n : Int) (r : Nat), ((r : Int) ≤ w 0) → (0 ≤ n ∧ n ≤ r + 1) → sTv w key (wN w - r) r n = sTook w key → w 0 - (r : Int) < (mm : Int) → xG E mX8_took (xR d 0 0) X 32 [some (.ref a), some (J key), some (J n), some (J (r : Int))] [] (z, T, F, I, P, Y) 0 0 := by
        intro mm
        induction mm with
        | zero => intro n r hr hn hn2 hm; exfalso; omega
        | succ mm ih =>
          intro n r hr hn hn2 hm
          refine xg_iloadn 33 dX8_took_32 rfl rfl rfl ?_
          refine xg_aloadn 34 dX8_took_33 rfl rfl rfl ?_
          refine xg_getI 37 kf_RX8_70 dX8_took_34 rfl (by assumption) ?_
          refine xg_icge 71 40 dX8_took_37 rfl rfl (by omega) (fun hb37 => ?_) (fun hb37 => ?_)
          · skip
            refine xg_iloadn 72 dX8_took_71 rfl rfl rfl ?_
            subst hX
            exact xg_ireturn dX8_took_72 rfl ⟨Nat.le_refl _, Nat.le_refl _⟩ ⟨by rw [← hn2, show wN w - r = 0 by omega]; rfl, rfl⟩
          · skip
            refine xg_iloadn 41 dX8_took_40 rfl rfl rfl ?_
            refine xg_bipush 43 dX8_took_41 rfl (by decide) ?_
            refine xg_icge 71 46 dX8_took_43 rfl rfl (by omega) (fun hb43 => ?_) (fun hb43 => ?_)
            · exfalso; omega
            · skip
              refine xg_iinc 49 _ dX8_took_46 rfl rfl rfl rfl (by decide) (Or.inr rfl) ?_
              refine xg_aloadn 50 dX8_took_49 rfl rfl rfl ?_
              refine xg_getP 53 kf_RX8_11 dX8_took_50 rfl (by assumption) (by assumption) ?_
              refine xg_iloadn 54 dX8_took_53 rfl rfl rfl ?_
              have hr12 : r < 12 := by omega
              have hq := p4 r (by omega)
              have hb := sR (π r) hq
              have hb0 := hb.1
              have hrn := hRn r (by omega)
              refine xg_rald 55 dX8_took_54 rfl (by assumption) (by omega) (p1 r (by omega)) ?_
              refine xg_iloadn 56 dX8_took_55 rfl rfl rfl ?_
              refine xg_callV 59 6 [_] _ kv_X6_valueOf ⟨_, _, rfl⟩ kl_RX8_113 dX8_took_56 rfl (by assumption) (by omega) rfl rfl (Nat.le_of_ble_eq_true rfl) (by omega) ⟨Nat.le_refl _, Nat.le_refl _⟩ (ct_X6_valueOf hb (by omega)) rfl ?_
              rw [hrn.v hk]
              have hvr := ov (201 + 122 * (r : Int) + key) (by omega) (by omega)
              refine xg_iconst 60 dX8_took_59 rfl ?_
              refine xg_iceq 65 63 dX8_took_60 rfl rfl (by omega) (fun hb60 => ?_) (fun hb60 => ?_)
              · skip
                refine xg_iinc 68 _ dX8_took_65 rfl rfl rfl rfl (by decide) (Or.inr rfl) ?_
                refine xg_goto 32 dX8_took_68 rfl ?_
                exact xg_weak _ (xle_s rfl (xle_s rfl (xle_s rfl (xle_s rfl xle_0)))) (ih _ (r + 1) (by omega) (by omega) (by rw [← hn2, show wN w - r = (wN w - (r + 1)) + 1 by omega, sTv, if_neg (by rw [show wHas w key r = false from decide_eq_false (by omega)]; decide)]) (by omega))
              · skip
                refine xg_iloadn 64 dX8_took_63 rfl rfl rfl ?_
                subst hX
                exact xg_ireturn dX8_took_64 rfl ⟨Nat.le_refl _, Nat.le_refl _⟩ ⟨by rw [← hn2, show wN w - r = (wN w - (r + 1)) + 1 by omega, sTv, if_pos (show wHas w key r = true from decide_eq_true (by omega))], rfl⟩
      exact xg_weak _ (xle_s rfl (xle_s rfl (xle_s rfl (xle_s rfl xle_0)))) (loop32 61 _ 0 (by omega) (by omega) (by rw [sTook_v key o0.1, if_neg (by omega)]; first | rw [if_pos (by omega)]; rfl | rw [if_neg (by omega)]; rfl) (by omega))
    · skip
      refine xg_iconst 25 dX8_took_24 rfl ?_
      refine xg_goto 29 dX8_took_25 rfl ?_
      refine xg_istoren 30 _ dX8_took_29 rfl rfl rfl (by decide) (Or.inr rfl) ?_
      refine xg_iconst 31 dX8_took_30 rfl ?_
      refine xg_istoren 32 _ dX8_took_31 rfl rfl rfl (by decide) (Or.inr rfl) ?_
      have loop32 : ∀ (mm : Nat) (n : Int) (r : Nat), ((r : Int) ≤ w 0) → (0 ≤ n ∧ n ≤ r + 1) → sTv w key (wN w - r) r n = sTook w key → w 0 - (r : Int) < (mm : Int) → xG E mX8_took (xR d 0 0) X 32 [some (.ref a), some (J key), some (J n), some (J (r : Int))] [] (z, T, F, I, P, Y) 0 0 := by
        intro mm
        induction mm with
        | zero => intro n r hr hn hn2 hm; exfalso; omega
        | succ mm ih =>
          intro n r hr hn hn2 hm
          refine xg_iloadn 33 dX8_took_32 rfl rfl rfl ?_
          refine xg_aloadn 34 dX8_took_33 rfl rfl rfl ?_
          refine xg_getI 37 kf_RX8_70 dX8_took_34 rfl (by assumption) ?_
          refine xg_icge 71 40 dX8_took_37 rfl rfl (by omega) (fun hb37 => ?_) (fun hb37 => ?_)
          · skip
            refine xg_iloadn 72 dX8_took_71 rfl rfl rfl ?_
            subst hX
            exact xg_ireturn dX8_took_72 rfl ⟨Nat.le_refl _, Nat.le_refl _⟩ ⟨by rw [← hn2, show wN w - r = 0 by omega]; rfl, rfl⟩
          · skip
            refine xg_iloadn 41 dX8_took_40 rfl rfl rfl ?_
            refine xg_bipush 43 dX8_took_41 rfl (by decide) ?_
            refine xg_icge 71 46 dX8_took_43 rfl rfl (by omega) (fun hb43 => ?_) (fun hb43 => ?_)
            · exfalso; omega
            · skip
              refine xg_iinc 49 _ dX8_took_46 rfl rfl rfl rfl (by decide) (Or.inr rfl) ?_
              refine xg_aloadn 50 dX8_took_49 rfl rfl rfl ?_
              refine xg_getP 53 kf_RX8_11 dX8_took_50 rfl (by assumption) (by assumption) ?_
              refine xg_iloadn 54 dX8_took_53 rfl rfl rfl ?_
              have hr12 : r < 12 := by omega
              have hq := p4 r (by omega)
              have hb := sR (π r) hq
              have hb0 := hb.1
              have hrn := hRn r (by omega)
              refine xg_rald 55 dX8_took_54 rfl (by assumption) (by omega) (p1 r (by omega)) ?_
              refine xg_iloadn 56 dX8_took_55 rfl rfl rfl ?_
              refine xg_callV 59 6 [_] _ kv_X6_valueOf ⟨_, _, rfl⟩ kl_RX8_113 dX8_took_56 rfl (by assumption) (by omega) rfl rfl (Nat.le_of_ble_eq_true rfl) (by omega) ⟨Nat.le_refl _, Nat.le_refl _⟩ (ct_X6_valueOf hb (by omega)) rfl ?_
              rw [hrn.v hk]
              have hvr := ov (201 + 122 * (r : Int) + key) (by omega) (by omega)
              refine xg_iconst 60 dX8_took_59 rfl ?_
              refine xg_iceq 65 63 dX8_took_60 rfl rfl (by omega) (fun hb60 => ?_) (fun hb60 => ?_)
              · skip
                refine xg_iinc 68 _ dX8_took_65 rfl rfl rfl rfl (by decide) (Or.inr rfl) ?_
                refine xg_goto 32 dX8_took_68 rfl ?_
                exact xg_weak _ (xle_s rfl (xle_s rfl (xle_s rfl (xle_s rfl xle_0)))) (ih _ (r + 1) (by omega) (by omega) (by rw [← hn2, show wN w - r = (wN w - (r + 1)) + 1 by omega, sTv, if_neg (by rw [show wHas w key r = false from decide_eq_false (by omega)]; decide)]) (by omega))
              · skip
                refine xg_iloadn 64 dX8_took_63 rfl rfl rfl ?_
                subst hX
                exact xg_ireturn dX8_took_64 rfl ⟨Nat.le_refl _, Nat.le_refl _⟩ ⟨by rw [← hn2, show wN w - r = (wN w - (r + 1)) + 1 by omega, sTv, if_pos (show wHas w key r = true from decide_eq_true (by omega))], rfl⟩
      exact xg_weak _ (xle_s rfl (xle_s rfl (xle_s rfl (xle_s rfl xle_0)))) (loop32 61 _ 0 (by omega) (by omega) (by rw [sTook_v key o0.1, if_neg (by omega)]; first | rw [if_pos (by omega)]; rfl | rw [if_neg (by omega)]; rfl) (by omega))
  · skip
    refine xg_iconst 13 dX8_took_12 rfl ?_
    subst hX
    exact xg_ireturn dX8_took_13 rfl ⟨Nat.le_refl _, Nat.le_refl _⟩ ⟨by rw [sTook_v key o0.1, if_pos (by omega), if_pos (sEnt_pos hk (by omega))], rfl⟩

set_option maxHeartbeats 4000000 in
set_option maxRecDepth 100000 in
theorem ct_X8_foundKeys {E : xE} {z : Nat} {T : Nat → Nat × Int} {F : Nat → Nat → Int} {I : Nat → Int → Int} {P : Nat → Nat → Option Nat} {Y : Nat → Int → Option Nat} {a : Nat} {w : Int → Int} (hS : SR T F I P Y a w)  : Ct E 2 mX8_foundKeys 0 0 [.ref a] (z, T, F, I, P, Y) (xd (some (J (sFndN w))) (z, T, F, I, P, Y)) := by
  obtain ⟨⟨hO, hL, hTy⟩, hLw, ⟨π, hB⟩, hV, hLf⟩ := id hS
  obtain ⟨⟨⟨⟨s0, s1, s2, s3⟩, sR, ⟨s4, s5⟩, ⟨s6, sLv⟩, ⟨s7, s8⟩, ⟨s9, sJo⟩, s10, s11, s12⟩, p1, p2, p3, p4, p5⟩, ⟨⟨c1, c9, c10, c11, c12, c13, c14, c15⟩, hTl, j0, j1, j2⟩, hRn, hTb, hOt, hJo⟩ := id hB
  obtain ⟨hR, o0, o1, o2, o3, o4, o5, o6, oc, o13, o14, o16, o17, o18, ov⟩ := id hO
  have hN := wN_i o0.1
  refine Ct.of [some (.ref a), none, none] kt_X8_foundKeys rfl (Nat.le_of_ble_eq_true rfl) rfl (fun d hd => ?_)
  generalize hX : xN E _ _ _ = X
  refine xg_iconst 1 dX8_foundKeys_0 rfl ?_
  refine xg_istoren 2 _ dX8_foundKeys_1 rfl rfl rfl (by decide) (Or.inr rfl) ?_
  refine xg_iconst 3 dX8_foundKeys_2 rfl ?_
  refine xg_istoren 4 _ dX8_foundKeys_3 rfl rfl rfl (by decide) (Or.inr rfl) ?_
  have loop4 : ∀ (mm : Nat) (k : Nat) (n : Int), (k ≤ 60) → n = pSum (fun k => if sFnd w k = -1 then 0 else 1) k → 60 - (k : Int) < (mm : Int) → xG E mX8_foundKeys (xR d 0 0) X 4 [some (.ref a), some (J n), some (J (k : Int))] [] (z, T, F, I, P, Y) 0 0 := by
    intro mm
    induction mm with
    | zero => intro k n hk hn hm; exfalso; omega
    | succ mm ih =>
      intro k n hk hn hm
      refine xg_iloadn 5 dX8_foundKeys_4 rfl rfl rfl ?_
      refine xg_bipush 7 dX8_foundKeys_5 rfl (by decide) ?_
      refine xg_icge 28 10 dX8_foundKeys_7 rfl rfl (by omega) (fun hb7 => ?_) (fun hb7 => ?_)
      · skip
        refine xg_iloadn 29 dX8_foundKeys_28 rfl rfl rfl ?_
        subst hX
        exact xg_ireturn dX8_foundKeys_29 rfl ⟨Nat.le_refl _, Nat.le_refl _⟩ ⟨by rw [hn, show k = 60 by omega]; rfl, rfl⟩
      · skip
        refine xg_aloadn 11 dX8_foundKeys_10 rfl rfl rfl ?_
        refine xg_iloadn 12 dX8_foundKeys_11 rfl rfl rfl ?_
        refine xg_callV 15 8 [_] _ kv_X8_found ⟨_, _, rfl⟩ kl_RX8_120 dX8_foundKeys_12 rfl (by assumption) (by omega) rfl rfl (Nat.le_of_ble_eq_true rfl) (by omega) ⟨Nat.le_refl _, Nat.le_refl _⟩ (ct_X8_found hS (by omega)) rfl ?_
        have hfb := sFnd_b2 hO (key := (k : Int)) (by omega)
        refine xg_iconst 16 dX8_foundKeys_15 rfl ?_
        refine xg_iceq 22 19 dX8_foundKeys_16 rfl rfl (by omega) (fun hb16 => ?_) (fun hb16 => ?_)
        · skip
          refine xg_iinc 25 _ dX8_foundKeys_22 rfl rfl rfl rfl (by decide) (Or.inr rfl) ?_
          refine xg_goto 4 dX8_foundKeys_25 rfl ?_
          exact xg_weak _ (xle_s rfl (xle_s rfl (xle_s rfl xle_0))) (ih (k + 1) _ (by omega) (by rw [pSum_s, if_pos hb16, hn, Int.add_zero]) (by omega))
        · skip
          refine xg_iinc 22 _ dX8_foundKeys_19 rfl rfl rfl rfl (by decide) (Or.inr rfl) ?_
          refine xg_iinc 25 _ dX8_foundKeys_22 rfl rfl rfl rfl (by decide) (Or.inr rfl) ?_
          refine xg_goto 4 dX8_foundKeys_25 rfl ?_
          exact xg_weak _ (xle_s rfl (xle_s rfl (xle_s rfl xle_0))) (ih (k + 1) _ (by omega) (by rw [pSum_s, if_neg hb16, hn]) (by omega))
  exact xg_weak _ (xle_s rfl (xle_s rfl (xle_s rfl xle_0))) (loop4 61 0 0 (by omega) rfl (by omega))

set_option maxHeartbeats 4000000 in
set_option maxRecDepth 100000 in
theorem ct_X8_debtNow {E : xE} {z : Nat} {T : Nat → Nat × Int} {F : Nat → Nat → Int} {I : Nat → Int → Int} {P : Nat → Nat → Option Nat} {Y : Nat → Int → Option Nat} {a : Nat} {w : Int → Int} (hS : SR T F I P Y a w)  : Ct E 0 mX8_debtNow 0 0 [.ref a] (z, T, F, I, P, Y) (xd (some (J (sLeft w + sOwed w))) (z, T, F, I, P, Y)) := by
  obtain ⟨⟨hO, hL, hTy⟩, hLw, ⟨π, hB⟩, hV, hLf⟩ := id hS
  obtain ⟨⟨⟨⟨s0, s1, s2, s3⟩, sR, ⟨s4, s5⟩, ⟨s6, sLv⟩, ⟨s7, s8⟩, ⟨s9, sJo⟩, s10, s11, s12⟩, p1, p2, p3, p4, p5⟩, ⟨⟨c1, c9, c10, c11, c12, c13, c14, c15⟩, hTl, j0, j1, j2⟩, hRn, hTb, hOt, hJo⟩ := id hB
  obtain ⟨hR, o0, o1, o2, o3, o4, o5, o6, oc, o13, o14, o16, o17, o18, ov⟩ := id hO
  have hN := wN_i o0.1
  obtain ⟨l0, ⟨l1, l2, l3, l4⟩, ⟨m1, n1⟩, ⟨m2, n2⟩, ⟨m3, n3⟩, m4, n4⟩ := sLv
  refine Ct.of [some (.ref a)] kt_X8_debtNow rfl (Nat.le_of_ble_eq_true rfl) rfl (fun d hd => ?_)
  generalize hX : xN E _ _ _ = X
  refine xg_aloadn 1 dX8_debtNow_0 rfl rfl rfl ?_
  refine xg_getP 4 kf_RX8_28 dX8_debtNow_1 rfl (by assumption) (by assumption) ?_
  refine xg_getI 7 kf_RX8_123 dX8_debtNow_4 rfl (by assumption) ?_
  refine xg_aloadn 8 dX8_debtNow_7 rfl rfl rfl ?_
  refine xg_getP 11 kf_RX8_35 dX8_debtNow_8 rfl (by assumption) (by assumption) ?_
  refine xg_getI 14 kf_RX8_126 dX8_debtNow_11 rfl (by assumption) ?_
  refine xg_iadd 15 dX8_debtNow_14 rfl ?_
  subst hX
  exact xg_ireturn dX8_debtNow_15 rfl ⟨Nat.le_refl _, Nat.le_refl _⟩ ⟨by rw [hLf, hV.2.2], rfl⟩

set_option maxHeartbeats 4000000 in
set_option maxRecDepth 100000 in
theorem ct_X8_oldestLevel {E : xE} {z : Nat} {T : Nat → Nat × Int} {F : Nat → Nat → Int} {I : Nat → Int → Int} {P : Nat → Nat → Option Nat} {Y : Nat → Int → Option Nat} {a : Nat} {w : Int → Int} (hS : SR T F I P Y a w)  : Ct E 1 mX8_oldestLevel 0 0 [.ref a] (z, T, F, I, P, Y) (xd (some (J (if w 0 = 0 then 0 else w (199 + 122 * (w 0 - 1))))) (z, T, F, I, P, Y)) := by
  obtain ⟨⟨hO, hL, hTy⟩, hLw, ⟨π, hB⟩, hV, hLf⟩ := id hS
  obtain ⟨⟨⟨⟨s0, s1, s2, s3⟩, sR, ⟨s4, s5⟩, ⟨s6, sLv⟩, ⟨s7, s8⟩, ⟨s9, sJo⟩, s10, s11, s12⟩, p1, p2, p3, p4, p5⟩, ⟨⟨c1, c9, c10, c11, c12, c13, c14, c15⟩, hTl, j0, j1, j2⟩, hRn, hTb, hOt, hJo⟩ := id hB
  obtain ⟨hR, o0, o1, o2, o3, o4, o5, o6, oc, o13, o14, o16, o17, o18, ov⟩ := id hO
  have hN := wN_i o0.1
  have hxx := hR (199 + 122 * (w 0 - 1))
  refine Ct.of [some (.ref a)] kt_X8_oldestLevel rfl (Nat.le_of_ble_eq_true rfl) rfl (fun d hd => ?_)
  generalize hX : xN E _ _ _ = X
  refine xg_aloadn 1 dX8_oldestLevel_0 rfl rfl rfl ?_
  refine xg_aloadn 2 dX8_oldestLevel_1 rfl rfl rfl ?_
  refine xg_getI 5 kf_RX8_70 dX8_oldestLevel_2 rfl (by assumption) ?_
  refine xg_iconst 6 dX8_oldestLevel_5 rfl ?_
  refine xg_isub 7 dX8_oldestLevel_6 rfl ?_
  refine xg_callV 10 8 [_] _ kv_X8_hasRun ⟨_, _, rfl⟩ kl_RX8_103 dX8_oldestLevel_7 rfl (by assumption) (by omega) rfl rfl (Nat.le_of_ble_eq_true rfl) (by omega) ⟨Nat.le_refl _, Nat.le_refl _⟩ (ct_X8_hasRun s0 (by omega) (by omega)) rfl ?_
  refine xg_deq 30 13 dX8_oldestLevel_10 rfl rfl (fun hb10 => ?_) (fun hb10 => ?_)
  · skip
    refine xg_iconst 31 dX8_oldestLevel_30 rfl ?_
    subst hX
    exact xg_ireturn dX8_oldestLevel_31 rfl ⟨Nat.le_refl _, Nat.le_refl _⟩ ⟨by rw [if_pos (by omega)], rfl⟩
  · skip
    refine xg_aloadn 14 dX8_oldestLevel_13 rfl rfl rfl ?_
    refine xg_getP 17 kf_RX8_11 dX8_oldestLevel_14 rfl (by assumption) (by assumption) ?_
    refine xg_aloadn 18 dX8_oldestLevel_17 rfl rfl rfl ?_
    refine xg_getI 21 kf_RX8_70 dX8_oldestLevel_18 rfl (by assumption) ?_
    refine xg_iconst 22 dX8_oldestLevel_21 rfl ?_
    refine xg_isub 23 dX8_oldestLevel_22 rfl ?_
    obtain ⟨r, hr9⟩ : ∃ r : Nat, (r : Int) = F a 1 - 1 := ⟨(F a 1 - 1).toNat, by omega⟩
    rw [← hr9]
    have hr12 : r < 12 := by omega
    have hq := p4 r (by omega)
    have hb := sR (π r) hq
    have hb0 := hb.1
    have hrn := hRn r (by omega)
    refine xg_rald 24 dX8_oldestLevel_23 rfl (by assumption) (by omega) (p1 r (by omega)) ?_
    refine xg_getI 27 kf_RX8_167 dX8_oldestLevel_24 rfl (by assumption) ?_
    refine xg_goto 31 dX8_oldestLevel_27 rfl ?_
    subst hX
    exact xg_ireturn dX8_oldestLevel_31 rfl ⟨Nat.le_refl _, Nat.le_refl _⟩ ⟨by rw [if_neg (by omega), hrn.1, show (r : Int) = w 0 - 1 by omega], rfl⟩

set_option maxHeartbeats 4000000 in
set_option maxRecDepth 100000 in
theorem ct_X8_nextKey {E : xE} {z : Nat} {T : Nat → Nat × Int} {F : Nat → Nat → Int} {I : Nat → Int → Int} {P : Nat → Nat → Option Nat} {Y : Nat → Int → Option Nat} {a : Nat} {w : Int → Int} (hI01 : ∀ r : Nat, (r : Int) < w 0 → w (200 + 122 * (r : Int)) = 0 ∨ w (200 + 122 * (r : Int)) = 1) (hS : SR T F I P Y a w) (hby : w 16 = 1) : Ct E 1 mX8_nextKey 0 0 [.ref a] (z, T, F, I, P, Y) (xd (some (J (sNext w : Nat))) (z, T, F, I, P, Y)) := by
  obtain ⟨⟨hO, hL, hTy⟩, hLw, ⟨π, hB⟩, hV, hLf⟩ := id hS
  obtain ⟨⟨⟨⟨s0, s1, s2, s3⟩, sR, ⟨s4, s5⟩, ⟨s6, sLv⟩, ⟨s7, s8⟩, ⟨s9, sJo⟩, s10, s11, s12⟩, p1, p2, p3, p4, p5⟩, ⟨⟨c1, c9, c10, c11, c12, c13, c14, c15⟩, hTl, j0, j1, j2⟩, hRn, hTb, hOt, hJo⟩ := id hB
  obtain ⟨hR, o0, o1, o2, o3, o4, o5, o6, oc, o13, o14, o16, o17, o18, ov⟩ := id hO
  have hN := wN_i o0.1
  rw [if_pos hby] at j2
  refine Ct.of [some (.ref a), none, none] kt_X8_nextKey rfl (Nat.le_of_ble_eq_true rfl) rfl (fun d hd => ?_)
  generalize hX : xN E _ _ _ = X
  refine xg_aloadn 1 dX8_nextKey_0 rfl rfl rfl ?_
  refine xg_getP 4 kf_RX8_28 dX8_nextKey_1 rfl (by assumption) (by assumption) ?_
  refine xg_getI 7 kf_RX8_173 dX8_nextKey_4 rfl (by assumption) ?_
  refine xg_istoren 8 _ dX8_nextKey_7 rfl rfl rfl (by decide) (Or.inr rfl) ?_
  have loop8 : ∀ (mm : Nat) (k n : Nat), (k + n = 60) → sFind (fun k => decide (sNewW w (k : Int) ≠ -1)) n k = sNext w → 60 - (k : Int) < (mm : Int) → xG E mX8_nextKey (xR d 0 0) X 8 [some (.ref a), some (J (k : Int)), none] [] (z, T, F, I, P, Y) 0 0 := by
    intro mm
    induction mm with
    | zero => intro k n hk hn hm; exfalso; omega
    | succ mm ih =>
      intro k n hk hn hm
      refine xg_iloadn 9 dX8_nextKey_8 rfl rfl rfl ?_
      refine xg_bipush 11 dX8_nextKey_9 rfl (by decide) ?_
      refine xg_icge 70 14 dX8_nextKey_11 rfl rfl (by omega) (fun hb11 => ?_) (fun hb11 => ?_)
      · skip
        refine xg_bipush 72 dX8_nextKey_70 rfl (by decide) ?_
        subst hX
        exact xg_ireturn dX8_nextKey_72 rfl ⟨Nat.le_refl _, Nat.le_refl _⟩ ⟨by rw [← hn, show n = 0 by omega, sFind, show k = 60 by omega]; rfl, rfl⟩
      · skip
        refine xg_iconst 15 dX8_nextKey_14 rfl ?_
        refine xg_istoren 16 _ dX8_nextKey_15 rfl rfl rfl (by decide) (Or.inr rfl) ?_
        have loop16 : ∀ (mm : Nat) (r : Nat), ((r : Int) ≤ w 0) → sFind (fun r => wInp w r && wHas w (k : Int) r) (wN w - r) r = sNewI w (k : Int) → w 0 - (r : Int) < (mm : Int) → xG E mX8_nextKey (xR d 0 0) X 16 [some (.ref a), some (J (k : Int)), some (J (r : Int))] [] (z, T, F, I, P, Y) 0 0 := by
          intro mm
          induction mm with
          | zero => intro r hr hr2 hm; exfalso; omega
          | succ mm ih2 =>
            intro r hr hr2 hm
            refine xg_iloadn 17 dX8_nextKey_16 rfl rfl rfl ?_
            refine xg_aloadn 18 dX8_nextKey_17 rfl rfl rfl ?_
            refine xg_getI 21 kf_RX8_70 dX8_nextKey_18 rfl (by assumption) ?_
            refine xg_icge 64 24 dX8_nextKey_21 rfl rfl (by omega) (fun hb21 => ?_) (fun hb21 => ?_)
            · skip
              refine xg_iinc 67 _ dX8_nextKey_64 rfl rfl rfl rfl (by decide) (Or.inr rfl) ?_
              refine xg_goto 8 dX8_nextKey_67 rfl ?_
              obtain ⟨n, rfl⟩ : ∃ n9, n = n9 + 1 := ⟨n - 1, by omega⟩
              exact xg_weak _ (xle_s rfl (xle_s rfl (xle_n xle_0))) (ih (k + 1) n (by omega) (by rw [← hn, sFind_ne (decide_eq_false (by have h9 : sNewI w (k : Int) = wN w := (by rw [← hr2, show wN w - r = 0 by omega, sFind]; omega); unfold sNewW; rw [if_pos h9]; omega))]) (by omega))
            · skip
              refine xg_iloadn 25 dX8_nextKey_24 rfl rfl rfl ?_
              refine xg_bipush 27 dX8_nextKey_25 rfl (by decide) ?_
              refine xg_icge 64 30 dX8_nextKey_27 rfl rfl (by omega) (fun hb27 => ?_) (fun hb27 => ?_)
              · exfalso; omega
              · skip
                refine xg_aloadn 31 dX8_nextKey_30 rfl rfl rfl ?_
                refine xg_getP 34 kf_RX8_11 dX8_nextKey_31 rfl (by assumption) (by assumption) ?_
                refine xg_iloadn 35 dX8_nextKey_34 rfl rfl rfl ?_
                have hr12 : r < 12 := by omega
                have hq := p4 r (by omega)
                have hb := sR (π r) hq
                have hb0 := hb.1
                have hrn := hRn r (by omega)
                refine xg_rald 36 dX8_nextKey_35 rfl (by assumption) (by omega) (p1 r (by omega)) ?_
                have hr12 : r < 12 := by omega
                have hq := p4 r (by omega)
                have hb := sR (π r) hq
                have hb0 := hb.1
                have hrn := hRn r (by omega)
                have hrn2 := hrn.2.1
                have hvj := ov (200 + 122 * (r : Int)) (by omega) (by omega)
                refine xg_getI 39 kf_RX8_110 dX8_nextKey_36 rfl (by assumption) ?_
                refine xg_ifeq 58 42 dX8_nextKey_39 rfl rfl (by omega) (fun hb39 => ?_) (fun hb39 => ?_)
                · skip
                  refine xg_iinc 61 _ dX8_nextKey_58 rfl rfl rfl rfl (by decide) (Or.inr rfl) ?_
                  refine xg_goto 16 dX8_nextKey_61 rfl ?_
                  exact xg_weak _ (xle_s rfl (xle_s rfl (xle_s rfl xle_0))) (ih2 (r + 1) (by omega) (by rw [← hr2, show wN w - r = (wN w - (r + 1)) + 1 by omega, sFind_ne (by show (wInp w r && _) = false; rw [show wInp w r = false from decide_eq_false (by omega)]; rfl)]) (by omega))
                · skip
                  refine xg_aloadn 43 dX8_nextKey_42 rfl rfl rfl ?_
                  refine xg_getP 46 kf_RX8_11 dX8_nextKey_43 rfl (by assumption) (by assumption) ?_
                  refine xg_iloadn 47 dX8_nextKey_46 rfl rfl rfl ?_
                  have hr12 : r < 12 := by omega
                  have hq := p4 r (by omega)
                  have hb := sR (π r) hq
                  have hb0 := hb.1
                  have hrn := hRn r (by omega)
                  refine xg_rald 48 dX8_nextKey_47 rfl (by assumption) (by omega) (p1 r (by omega)) ?_
                  refine xg_iloadn 49 dX8_nextKey_48 rfl rfl rfl ?_
                  refine xg_callV 52 6 [_] _ kv_X6_valueOf ⟨_, _, rfl⟩ kl_RX8_113 dX8_nextKey_49 rfl (by assumption) (by omega) rfl rfl (Nat.le_of_ble_eq_true rfl) (by omega) ⟨Nat.le_refl _, Nat.le_refl _⟩ (ct_X6_valueOf hb (by omega)) rfl ?_
                  rw [hrn.v (by omega)]
                  have hvr := ov (201 + 122 * (r : Int) + (k : Int)) (by omega) (by omega)
                  refine xg_iconst 53 dX8_nextKey_52 rfl ?_
                  refine xg_iceq 58 56 dX8_nextKey_53 rfl rfl (by omega) (fun hb53 => ?_) (fun hb53 => ?_)
                  · skip
                    refine xg_iinc 61 _ dX8_nextKey_58 rfl rfl rfl rfl (by decide) (Or.inr rfl) ?_
                    refine xg_goto 16 dX8_nextKey_61 rfl ?_
                    exact xg_weak _ (xle_s rfl (xle_s rfl (xle_s rfl xle_0))) (ih2 (r + 1) (by omega) (by rw [← hr2, show wN w - r = (wN w - (r + 1)) + 1 by omega, sFind_ne (by show (_ && wHas w (k : Int) r) = false; rw [show wHas w (k : Int) r = false from decide_eq_false (by omega)]; exact Bool.and_false _)]) (by omega))
                  · skip
                    refine xg_iloadn 57 dX8_nextKey_56 rfl rfl rfl ?_
                    subst hX
                    refine xg_ireturn dX8_nextKey_57 rfl ⟨Nat.le_refl _, Nat.le_refl _⟩ ?_
                    obtain ⟨n, rfl⟩ : ∃ n9, n = n9 + 1 := ⟨n - 1, by omega⟩
                    refine ⟨?_, rfl⟩
                    rw [← hn, sFind_eq (decide_eq_true (by unfold sNewW; have h9 : sNewI w (k : Int) = r := (by rw [← hr2, show wN w - r = (wN w - (r + 1)) + 1 by omega, sFind_eq (by show (wInp w r && wHas w (k : Int) r) = true; rw [show wInp w r = true from decide_eq_true (by have := hI01 r (by omega); omega), show wHas w (k : Int) r = true from decide_eq_true (by omega)]; rfl)]); rw [h9, if_neg (by omega)]; omega))]
        exact xg_weak _ (xle_s rfl (xle_s rfl (xle_s rfl xle_0))) (loop16 61 0 (by omega) rfl (by omega))
  rw [j2]
  obtain ⟨k9, hk9⟩ : ∃ k : Nat, (k : Int) = w 18 := ⟨(w 18).toNat, by omega⟩
  rw [← hk9]
  exact xg_weak _ (xle_s rfl (xle_s rfl (xle_n xle_0))) (loop8 61 k9 (60 - k9) (by omega) (by unfold sNext; rw [show (w 18).toNat = k9 by omega]) (by omega))

set_option maxHeartbeats 4000000 in
set_option maxRecDepth 100000 in
theorem ct_X8_isBehind {E : xE} {z : Nat} {T : Nat → Nat × Int} {F : Nat → Nat → Int} {I : Nat → Int → Int} {P : Nat → Nat → Option Nat} {Y : Nat → Int → Option Nat} {a : Nat} {w : Int → Int} (hS : SR T F I P Y a w) {key : Int} (hk : 0 ≤ key ∧ key < 60) {o : Int} (ho : -1 ≤ o ∧ o < 12) : Ct E 1 mX8_isBehind 0 0 [.ref a, J o, J key] (z, T, F, I, P, Y) (xd (some (J (bI (sBh w key (wN w - (o + 1).toNat) (o + 1).toNat)))) (z, T, F, I, P, Y)) := by
  obtain ⟨⟨hO, hL, hTy⟩, hLw, ⟨π, hB⟩, hV, hLf⟩ := id hS
  obtain ⟨⟨⟨⟨s0, s1, s2, s3⟩, sR, ⟨s4, s5⟩, ⟨s6, sLv⟩, ⟨s7, s8⟩, ⟨s9, sJo⟩, s10, s11, s12⟩, p1, p2, p3, p4, p5⟩, ⟨⟨c1, c9, c10, c11, c12, c13, c14, c15⟩, hTl, j0, j1, j2⟩, hRn, hTb, hOt, hJo⟩ := id hB
  obtain ⟨hR, o0, o1, o2, o3, o4, o5, o6, oc, o13, o14, o16, o17, o18, ov⟩ := id hO
  have hN := wN_i o0.1
  refine Ct.of [some (.ref a), some (J o), some (J key), none] kt_X8_isBehind rfl (Nat.le_of_ble_eq_true rfl) rfl (fun d hd => ?_)
  generalize hX : xN E _ _ _ = X
  refine xg_iloadn 1 dX8_isBehind_0 rfl rfl rfl ?_
  refine xg_iconst 2 dX8_isBehind_1 rfl ?_
  refine xg_iadd 3 dX8_isBehind_2 rfl ?_
  refine xg_istoren 4 _ dX8_isBehind_3 rfl rfl rfl (by decide) (Or.inr rfl) ?_
  have loop4 : ∀ (mm : Nat) (r : Nat), (r ≤ 13) → (sBh w key (wN w - r) r = sBh w key (wN w - (o + 1).toNat) (o + 1).toNat) → 13 - (r : Int) < (mm : Int) → xG E mX8_isBehind (xR d 0 0) X 4 [some (.ref a), some (J o), some (J key), some (J (r : Int))] [] (z, T, F, I, P, Y) 0 0 := by
    intro mm
    induction mm with
    | zero => intro r hr hr2 hm; exfalso; omega
    | succ mm ih =>
      intro r hr hr2 hm
      refine xg_iloadn 5 dX8_isBehind_4 rfl rfl rfl ?_
      refine xg_aloadn 6 dX8_isBehind_5 rfl rfl rfl ?_
      refine xg_getI 9 kf_RX8_70 dX8_isBehind_6 rfl (by assumption) ?_
      refine xg_icge 40 12 dX8_isBehind_9 rfl rfl (by omega) (fun hb9 => ?_) (fun hb9 => ?_)
      · skip
        refine xg_iconst 41 dX8_isBehind_40 rfl ?_
        subst hX
        exact xg_zreturn dX8_isBehind_41 rfl (by first | exact bI_01 _ | omega) ⟨Nat.le_refl _, Nat.le_refl _⟩ ⟨by rw [← hr2, show wN w - r = 0 by omega, sBh]; rfl, rfl⟩
      · skip
        refine xg_iloadn 13 dX8_isBehind_12 rfl rfl rfl ?_
        refine xg_bipush 15 dX8_isBehind_13 rfl (by decide) ?_
        refine xg_icge 40 18 dX8_isBehind_15 rfl rfl (by omega) (fun hb15 => ?_) (fun hb15 => ?_)
        · exfalso; omega
        · skip
          refine xg_aloadn 19 dX8_isBehind_18 rfl rfl rfl ?_
          refine xg_getP 22 kf_RX8_11 dX8_isBehind_19 rfl (by assumption) (by assumption) ?_
          refine xg_iloadn 23 dX8_isBehind_22 rfl rfl rfl ?_
          have hr12 : r < 12 := by omega
          have hq := p4 r (by omega)
          have hb := sR (π r) hq
          have hb0 := hb.1
          have hrn := hRn r (by omega)
          refine xg_rald 24 dX8_isBehind_23 rfl (by assumption) (by omega) (p1 r (by omega)) ?_
          refine xg_iloadn 25 dX8_isBehind_24 rfl rfl rfl ?_
          refine xg_callV 28 6 [_] _ kv_X6_valueOf ⟨_, _, rfl⟩ kl_RX8_113 dX8_isBehind_25 rfl (by assumption) (by omega) rfl rfl (Nat.le_of_ble_eq_true rfl) (by omega) ⟨Nat.le_refl _, Nat.le_refl _⟩ (ct_X6_valueOf hb (by omega)) rfl ?_
          rw [hrn.v hk]
          have hvr := ov (201 + 122 * (r : Int) + key) (by omega) (by omega)
          refine xg_iconst 29 dX8_isBehind_28 rfl ?_
          refine xg_iceq 34 32 dX8_isBehind_29 rfl rfl (by omega) (fun hb29 => ?_) (fun hb29 => ?_)
          · skip
            refine xg_iinc 37 _ dX8_isBehind_34 rfl rfl rfl rfl (by decide) (Or.inr rfl) ?_
            refine xg_goto 4 dX8_isBehind_37 rfl ?_
            exact xg_weak _ (xle_s rfl (xle_s rfl (xle_s rfl (xle_s rfl xle_0)))) (ih (r + 1) (by omega) (by rw [← hr2, show wN w - r = (wN w - (r + 1)) + 1 by omega, sBh, show wHas w key r = false from decide_eq_false (by omega)]; rfl) (by omega))
          · skip
            refine xg_iconst 33 dX8_isBehind_32 rfl ?_
            subst hX
            exact xg_zreturn dX8_isBehind_33 rfl (by first | exact bI_01 _ | omega) ⟨Nat.le_refl _, Nat.le_refl _⟩ ⟨by rw [← hr2, show wN w - r = (wN w - (r + 1)) + 1 by omega, sBh, show wHas w key r = true from decide_eq_true (by omega)]; rfl, rfl⟩
  obtain ⟨r9, hr9⟩ : ∃ r : Nat, (r : Int) = o + 1 := ⟨(o + 1).toNat, by omega⟩
  rw [← hr9]
  exact xg_weak _ (xle_s rfl (xle_s rfl (xle_s rfl (xle_s rfl xle_0)))) (loop4 61 r9 (by omega) (by rw [show (o + 1).toNat = r9 by omega]) (by omega))

