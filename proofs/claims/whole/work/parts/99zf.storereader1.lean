/-! the class reads a store's text -/
/-- the scan stands at the token i, which begins at q -/
def cAt (t : Int → Int) (e : Int) (F : Nat → Nat → Int) (I : Nat → Int → Int) (s N i : Nat) (q : Int) : Prop := zTok t e F I s N ∧ F s 4 = (i : Int) ∧ F s 5 = -1 ∧ i ≤ N ∧ zB t e i = q
section CAT
variable {t : Int → Int} {e : Int} {F F' : Nat → Nat → Int} {I I' : Nat → Int → Int} {s N i : Nat} {q x : Int}
theorem fZ_self {r : Nat} (h4 : F s 4 = (i : Int)) (h5 : F s 5 = x) : fZ F s r i x (F r 6) = F := by
  funext a j; unfold fZ
  by_cases h1 : a = s ∧ j = 4
  · rw [if_pos h1, h1.1, h1.2, h4]
  · rw [if_neg h1]
    by_cases h2 : a = s ∧ j = 5
    · rw [if_pos h2, h2.1, h2.2, h5]
    · rw [if_neg h2]
      by_cases h3 : a = r ∧ j = 6
      · rw [if_pos h3, h3.1, h3.2]
      · rw [if_neg h3]
theorem fZ_self4 {r k : Nat} (h4 : F s 4 = (i : Int)) (h5 : F s 5 = x) : fZ F s r k x (F r 6) = upF F s 4 (k : Int) := by
  have h := fZ_s4 (F := F) (s := s) (r := r) (i := i) (fl := x) (u := F r 6) (x := (k : Int)) (i2 := k) rfl
  rw [fZ_self h4 h5] at h
  exact h.symm
theorem fZ_self5 {r : Nat} {y : Int} (h4 : F s 4 = (i : Int)) (h5 : F s 5 = x) : fZ F s r i y (F r 6) = upF F s 5 y := by
  have h := fZ_s5 (F := F) (s := s) (r := r) (i := i) (fl := x) (u := F r 6) (x := y)
  rw [fZ_self h4 h5] at h
  exact h.symm
theorem cAt.fr (h : cAt t e F I s N i q) (hF : F' s = F s) (hI : ∀ b : Nat, s + 1 ≤ b → b < s + 4 → I' b = I b) : cAt t e F' I' s N i q := ⟨h.1.fr (by rw [hF]) hI, by rw [hF]; exact h.2.1, by rw [hF]; exact h.2.2.1, h.2.2.2⟩
theorem cAt.nx (h : cAt t e F I s N i q) (hk : q < e) : cAt t e (upF F s 4 ((i + 1 : Nat) : Int)) I s N (i + 1) (zX t e q) := by
  obtain ⟨h1, h2, h3, h4, h5⟩ := h
  have h6 := h1.nx h4 (by rw [h5]; exact hk)
  rw [h5] at h6
  exact ⟨h1.fr (upF_nk _ _ _ _ (by decide)) (fun _ _ _ => rfl), upF_at _ _ _ _, (upF_nk _ _ _ _ (by decide)).trans h3, h6.1, h6.2⟩
theorem cAt.k (h : cAt t e F I s N i q) (hk : zK t e q < 52) : q < e := zK_lt (t := t) (by omega)
theorem cAt.q0 (h : cAt t e F I s N i q) (he : 0 ≤ e) : 0 ≤ q ∧ q ≤ e := by rw [← h.2.2.2.2]; exact ⟨(zB_b he i).1, (zB_b he i).2.1⟩
end CAT

theorem c0_is {E : xE} {z : Nat} {T : Nat → Nat × Int} {F : Nat → Nat → Int} {I : Nat → Int → Int} {P : Nat → Nat → Option Nat} {Y : Nat → Int → Option Nat} {s N : Nat} {t : Int → Int} {e : Int} (hs : wScn T P s) (ht4 : ∀ j : Int, 0 ≤ j → j < 400 → 0 ≤ t j ∧ t j ≤ 255) (he : 0 ≤ e ∧ e ≤ 400) {i : Nat} {q : Int} (hA : cAt t e F I s N i q) {k : Int} (hkk : -1000 ≤ k ∧ k ≤ 1000) : Ct E 0 mX7_is 0 0 [.ref s, J k] (z, T, F, I, P, Y) (xd (some (J (bI (decide (zK t e q = k))))) (z, T, F, I, P, Y)) := by
  obtain ⟨h1, h2, h3, h4, h5⟩ := hA
  have h := cs_is (E := E) (z := z) (P := P) (Y := Y) hs h1 ht4 he (Nat.le_refl (s + 4)) (u := F (s + 4) 6) (g := I (s + 4 + 4)) h4 h5 hkk
  rw [fZ_self h2 h3, upA_id] at h
  exact h
theorem c0_fail {E : xE} {z : Nat} {T : Nat → Nat × Int} {F : Nat → Nat → Int} {I : Nat → Int → Int} {P : Nat → Nat → Option Nat} {Y : Nat → Int → Option Nat} {s N : Nat} {t : Int → Int} {e : Int} (hs : wScn T P s) (ht4 : ∀ j : Int, 0 ≤ j → j < 400 → 0 ≤ t j ∧ t j ≤ 255) (he : 0 ≤ e ∧ e ≤ 400) {i : Nat} {q : Int} (hA : cAt t e F I s N i q) : Ct E 0 mX7_fail 0 0 [.ref s] (z, T, F, I, P, Y) (xd (some (J 0)) (z, T, upF F s 5 q, I, P, Y)) := by
  obtain ⟨h1, h2, h3, h4, h5⟩ := hA
  have h := cs_fail (E := E) (z := z) (P := P) (Y := Y) hs h1 ht4 he (Nat.le_refl (s + 4)) (u := F (s + 4) 6) (g := I (s + 4 + 4)) h4 h5 
  rw [fZ_self h2 h3, upA_id, fZ_self5 h2 h3] at h
  exact h
theorem c0_needs {E : xE} {z : Nat} {T : Nat → Nat × Int} {F : Nat → Nat → Int} {I : Nat → Int → Int} {P : Nat → Nat → Option Nat} {Y : Nat → Int → Option Nat} {s N : Nat} {t : Int → Int} {e : Int} (hs : wScn T P s) (ht4 : ∀ j : Int, 0 ≤ j → j < 400 → 0 ≤ t j ∧ t j ≤ 255) (he : 0 ≤ e ∧ e ≤ 400) {i : Nat} {q : Int} (hA : cAt t e F I s N i q) {k : Int} (hkk : -1000 ≤ k ∧ k ≤ 1000) : Ct E 1 mX7_needs 0 0 [.ref s, J k] (z, T, F, I, P, Y) (xd (some (J (bI (decide (zK t e q = k))))) (if zK t e q = k then (z, T, upF F s 4 ((i + 1 : Nat) : Int), I, P, Y) else (z, T, upF F s 5 q, I, P, Y))) := by
  obtain ⟨h1, h2, h3, h4, h5⟩ := hA
  have h := cs_needs (E := E) (z := z) (P := P) (Y := Y) hs h1 ht4 he (Nat.le_refl (s + 4)) (u := F (s + 4) 6) (g := I (s + 4 + 4)) h4 h5 hkk
  rw [fZ_self h2 h3, upA_id, fZ_self4 h2 h3, fZ_self5 h2 h3] at h
  exact h
theorem c0_needsNumber {E : xE} {z : Nat} {T : Nat → Nat × Int} {F : Nat → Nat → Int} {I : Nat → Int → Int} {P : Nat → Nat → Option Nat} {Y : Nat → Int → Option Nat} {s N : Nat} {t : Int → Int} {e : Int} (hs : wScn T P s) (ht4 : ∀ j : Int, 0 ≤ j → j < 400 → 0 ≤ t j ∧ t j ≤ 255) (he : 0 ≤ e ∧ e ≤ 400) {i : Nat} {q : Int} (hA : cAt t e F I s N i q) {lo hi9 : Int} (hlh : 0 ≤ lo ∧ lo ≤ 1000 ∧ 0 ≤ hi9 ∧ hi9 ≤ 1000) : Ct E 0 mX7_needsNumber 0 0 [.ref s, J lo, J hi9] (z, T, F, I, P, Y) (xd (some (J (zNb0 t e q lo hi9))) (if zK t e q = 51 ∧ lo ≤ zNm t e q ∧ zNm t e q ≤ hi9 then (z, T, upF F s 4 ((i + 1 : Nat) : Int), I, P, Y) else (z, T, upF F s 5 q, I, P, Y))) := by
  obtain ⟨h1, h2, h3, h4, h5⟩ := hA
  have h := cs_needsNumber (E := E) (z := z) (P := P) (Y := Y) hs h1 ht4 he (Nat.le_refl (s + 4)) (u := F (s + 4) 6) (g := I (s + 4 + 4)) h4 h5 hlh
  rw [fZ_self h2 h3, upA_id, fZ_self4 h2 h3, fZ_self5 h2 h3] at h
  exact h
theorem c0_takes {E : xE} {z : Nat} {T : Nat → Nat × Int} {F : Nat → Nat → Int} {I : Nat → Int → Int} {P : Nat → Nat → Option Nat} {Y : Nat → Int → Option Nat} {s N : Nat} {t : Int → Int} {e : Int} (hs : wScn T P s) (ht4 : ∀ j : Int, 0 ≤ j → j < 400 → 0 ≤ t j ∧ t j ≤ 255) (he : 0 ≤ e ∧ e ≤ 400) {i : Nat} {q : Int} (hA : cAt t e F I s N i q) {k : Int} (hkk : -1000 ≤ k ∧ k ≤ 1000) : Ct E 0 mX7_takes 0 0 [.ref s, J k] (z, T, F, I, P, Y) (xd (some (J (bI (decide (zK t e q = k))))) (z, T, (if zK t e q = k then upF F s 4 ((i + 1 : Nat) : Int) else F), I, P, Y)) := by
  obtain ⟨h1, h2, h3, h4, h5⟩ := hA
  have h := cs_takes (E := E) (z := z) (P := P) (Y := Y) hs h1 ht4 he (Nat.le_refl (s + 4)) (u := F (s + 4) 6) (g := I (s + 4 + 4)) h4 h5 hkk
  rw [fZ_self h2 h3, upA_id] at h
  by_cases c : zK t e q = k
  · rw [if_pos c, fZ_self4 h2 h3] at h
    rw [if_pos c]; exact h
  · rw [if_neg c, fZ_self h2 h3] at h
    rw [if_neg c]; exact h
theorem dX9_readPairs_0 : decode cX9_readPairs 0 = .ok (.iconst 0, 1) := by decide +kernel
theorem dX9_readPairs_1 : decode cX9_readPairs 1 = .ok (.istore_n 3, 1) := by decide +kernel
theorem dX9_readPairs_2 : decode cX9_readPairs 2 = .ok (.aload_n 0, 1) := by decide +kernel
theorem dX9_readPairs_3 : decode cX9_readPairs 3 = .ok (.iconst 0, 1) := by decide +kernel
theorem dX9_readPairs_4 : decode cX9_readPairs 4 = .ok (.putfield 59, 3) := by decide +kernel
theorem dX9_readPairs_7 : decode cX9_readPairs 7 = .ok (.iconst 0, 1) := by decide +kernel
theorem dX9_readPairs_8 : decode cX9_readPairs 8 = .ok (.istore 4, 2) := by decide +kernel
theorem dX9_readPairs_10 : decode cX9_readPairs 10 = .ok (.iload 4, 2) := by decide +kernel
theorem dX9_readPairs_12 : decode cX9_readPairs 12 = .ok (.iload_n 1, 1) := by decide +kernel
theorem dX9_readPairs_13 : decode cX9_readPairs 13 = .ok (.if_icmp .ge 109, 3) := by decide +kernel
theorem dX9_readPairs_16 : decode cX9_readPairs 16 = .ok (.iload 4, 2) := by decide +kernel
theorem dX9_readPairs_18 : decode cX9_readPairs 18 = .ok (.bipush 20, 2) := by decide +kernel
theorem dX9_readPairs_20 : decode cX9_readPairs 20 = .ok (.if_icmp .ge 102, 3) := by decide +kernel
theorem dX9_readPairs_23 : decode cX9_readPairs 23 = .ok (.aload_n 0, 1) := by decide +kernel
theorem dX9_readPairs_24 : decode cX9_readPairs 24 = .ok (.getfield 9, 3) := by decide +kernel
theorem dX9_readPairs_27 : decode cX9_readPairs 27 = .ok (.iload_n 3, 1) := by decide +kernel
theorem dX9_readPairs_28 : decode cX9_readPairs 28 = .ok (.bipush 59, 2) := by decide +kernel
theorem dX9_readPairs_30 : decode cX9_readPairs 30 = .ok (.invokevirtual 69, 3) := by decide +kernel
theorem dX9_readPairs_33 : decode cX9_readPairs 33 = .ok (.istore 5, 2) := by decide +kernel
theorem dX9_readPairs_35 : decode cX9_readPairs 35 = .ok (.iload 5, 2) := by decide +kernel
theorem dX9_readPairs_37 : decode cX9_readPairs 37 = .ok (.iconst (-1), 1) := by decide +kernel
theorem dX9_readPairs_38 : decode cX9_readPairs 38 = .ok (.if_icmp .ne 5, 3) := by decide +kernel
theorem dX9_readPairs_41 : decode cX9_readPairs 41 = .ok (.iconst 0, 1) := by decide +kernel
theorem dX9_readPairs_42 : decode cX9_readPairs 42 = .ok (.ireturn, 1) := by decide +kernel
theorem dX9_readPairs_43 : decode cX9_readPairs 43 = .ok (.aload_n 0, 1) := by decide +kernel
theorem dX9_readPairs_44 : decode cX9_readPairs 44 = .ok (.getfield 9, 3) := by decide +kernel
theorem dX9_readPairs_47 : decode cX9_readPairs 47 = .ok (.iconst 0, 1) := by decide +kernel
theorem dX9_readPairs_48 : decode cX9_readPairs 48 = .ok (.bipush 100, 2) := by decide +kernel
theorem dX9_readPairs_50 : decode cX9_readPairs 50 = .ok (.invokevirtual 69, 3) := by decide +kernel
theorem dX9_readPairs_53 : decode cX9_readPairs 53 = .ok (.istore 6, 2) := by decide +kernel
theorem dX9_readPairs_55 : decode cX9_readPairs 55 = .ok (.iload 6, 2) := by decide +kernel
theorem dX9_readPairs_57 : decode cX9_readPairs 57 = .ok (.iconst (-1), 1) := by decide +kernel
theorem dX9_readPairs_58 : decode cX9_readPairs 58 = .ok (.if_icmp .ne 5, 3) := by decide +kernel
theorem dX9_readPairs_61 : decode cX9_readPairs 61 = .ok (.iconst 0, 1) := by decide +kernel
theorem dX9_readPairs_62 : decode cX9_readPairs 62 = .ok (.ireturn, 1) := by decide +kernel
theorem dX9_readPairs_63 : decode cX9_readPairs 63 = .ok (.aload_n 0, 1) := by decide +kernel
theorem dX9_readPairs_64 : decode cX9_readPairs 64 = .ok (.getfield 15, 3) := by decide +kernel
theorem dX9_readPairs_67 : decode cX9_readPairs 67 = .ok (.iload 4, 2) := by decide +kernel
theorem dX9_readPairs_69 : decode cX9_readPairs 69 = .ok (.iload 5, 2) := by decide +kernel
theorem dX9_readPairs_71 : decode cX9_readPairs 71 = .ok (.iastore, 1) := by decide +kernel
theorem dX9_readPairs_72 : decode cX9_readPairs 72 = .ok (.aload_n 0, 1) := by decide +kernel
theorem dX9_readPairs_73 : decode cX9_readPairs 73 = .ok (.getfield 19, 3) := by decide +kernel
theorem dX9_readPairs_76 : decode cX9_readPairs 76 = .ok (.iload 4, 2) := by decide +kernel
theorem dX9_readPairs_78 : decode cX9_readPairs 78 = .ok (.iload 6, 2) := by decide +kernel
theorem dX9_readPairs_80 : decode cX9_readPairs 80 = .ok (.iastore, 1) := by decide +kernel
theorem dX9_readPairs_81 : decode cX9_readPairs 81 = .ok (.aload_n 0, 1) := by decide +kernel
theorem dX9_readPairs_82 : decode cX9_readPairs 82 = .ok (.iload 4, 2) := by decide +kernel
theorem dX9_readPairs_84 : decode cX9_readPairs 84 = .ok (.iconst 1, 1) := by decide +kernel
theorem dX9_readPairs_85 : decode cX9_readPairs 85 = .ok (.iadd, 1) := by decide +kernel
theorem dX9_readPairs_86 : decode cX9_readPairs 86 = .ok (.putfield 59, 3) := by decide +kernel
theorem dX9_readPairs_89 : decode cX9_readPairs 89 = .ok (.iload_n 2, 1) := by decide +kernel
theorem dX9_readPairs_90 : decode cX9_readPairs 90 = .ok (.ifCond .eq 10, 3) := by decide +kernel
theorem dX9_readPairs_93 : decode cX9_readPairs 93 = .ok (.iload 5, 2) := by decide +kernel
theorem dX9_readPairs_95 : decode cX9_readPairs 95 = .ok (.iconst 1, 1) := by decide +kernel
theorem dX9_readPairs_96 : decode cX9_readPairs 96 = .ok (.iadd, 1) := by decide +kernel
theorem dX9_readPairs_97 : decode cX9_readPairs 97 = .ok (.goto 4, 3) := by decide +kernel
theorem dX9_readPairs_100 : decode cX9_readPairs 100 = .ok (.iconst 0, 1) := by decide +kernel
theorem dX9_readPairs_101 : decode cX9_readPairs 101 = .ok (.istore_n 3, 1) := by decide +kernel
theorem dX9_readPairs_102 : decode cX9_readPairs 102 = .ok (.aload_n 0, 1) := by decide +kernel
theorem dX9_readPairs_103 : decode cX9_readPairs 103 = .ok (.getfield 9, 3) := by decide +kernel
theorem dX9_readPairs_106 : decode cX9_readPairs 106 = .ok (.bipush 51, 2) := by decide +kernel
theorem dX9_readPairs_108 : decode cX9_readPairs 108 = .ok (.invokevirtual 22, 3) := by decide +kernel
theorem dX9_readPairs_111 : decode cX9_readPairs 111 = .ok (.ifCond .ne 5, 3) := by decide +kernel
theorem dX9_readPairs_114 : decode cX9_readPairs 114 = .ok (.iconst 1, 1) := by decide +kernel
theorem dX9_readPairs_115 : decode cX9_readPairs 115 = .ok (.ireturn, 1) := by decide +kernel
theorem dX9_readPairs_116 : decode cX9_readPairs 116 = .ok (.iinc 4 1, 3) := by decide +kernel
theorem dX9_readPairs_119 : decode cX9_readPairs 119 = .ok (.goto (-109), 3) := by decide +kernel
theorem dX9_readPairs_122 : decode cX9_readPairs 122 = .ok (.aload_n 0, 1) := by decide +kernel
theorem dX9_readPairs_123 : decode cX9_readPairs 123 = .ok (.getfield 9, 3) := by decide +kernel
theorem dX9_readPairs_126 : decode cX9_readPairs 126 = .ok (.invokevirtual 45, 3) := by decide +kernel
theorem dX9_readPairs_129 : decode cX9_readPairs 129 = .ok (.ireturn, 1) := by decide +kernel
/-- the reader's rows hold these keys and values -/
def pHo (I : Nat → Int → Int) (r : Nat) (ps : List (Int × Int)) : Prop := ∀ j : Nat, j < ps.length → I (r + 1) (j : Int) = kOf ps (j : Int) ∧ I (r + 2) (j : Int) = vOf ps (j : Int)
def pRg (I : Nat → Int → Int) (r : Nat) : Prop := ∀ j : Nat, (0 ≤ I (r + 1) (j : Int) ∧ I (r + 1) (j : Int) < 60) ∧ 0 ≤ I (r + 2) (j : Int) ∧ I (r + 2) (j : Int) ≤ 100
theorem pHo.nil {I : Nat → Int → Int} {r : Nat} : pHo I r [] := fun j hj => absurd hj (Nat.not_lt_zero j)
theorem pHo.S {I : Nat → Int → Int} {r : Nat} {ps : List (Int × Int)} {k v : Int} (h : pHo I r ps) : pHo (upI (upI I (r + 1) (ps.length : Int) k) (r + 2) (ps.length : Int) v) r (ps ++ [(k, v)]) := by
  intro j hj
  rw [List.length_append] at hj
  have hj2 : j < ps.length + 1 := hj
  rw [kOf_app, vOf_app]
  by_cases c : j < ps.length
  · rw [if_pos c, if_pos c, upI_na _ _ _ _ (by omega), upI_nk _ _ _ _ (by omega), upI_nk _ _ _ _ (by omega), upI_na _ _ _ _ (by omega)]
    exact h j c
  · have e : j = ps.length := by omega
    subst e
    rw [if_neg c, if_neg c, if_pos rfl, if_pos rfl, upI_na _ _ _ _ (by omega), upI_at, upI_at]
    exact ⟨rfl, rfl⟩
theorem pRg.S {I : Nat → Int → Int} {r n : Nat} {k v : Int} (h : pRg I r) (hk : 0 ≤ k ∧ k < 60) (hv : 0 ≤ v ∧ v ≤ 100) : pRg (upI (upI I (r + 1) (n : Int) k) (r + 2) (n : Int) v) r := by
  intro j
  have hj := h j
  by_cases c : (j : Int) = (n : Int)
  · rw [c, upI_na _ _ _ _ (by omega), upI_at, upI_at]; exact ⟨hk, hv⟩
  · rw [upI_na _ _ _ _ (by omega), upI_nk _ _ _ _ c, upI_nk _ _ _ _ c, upI_na _ _ _ _ (by omega)]; exact hj
theorem pHo.fr {I I' : Nat → Int → Int} {r : Nat} {ps : List (Int × Int)} (h : pHo I r ps) (h1 : I' (r + 1) = I (r + 1)) (h2 : I' (r + 2) = I (r + 2)) : pHo I' r ps := by intro j hj; rw [h1, h2]; exact h j hj
theorem pRg.fr {I I' : Nat → Int → Int} {r : Nat} (h : pRg I r) (h1 : I' (r + 1) = I (r + 1)) (h2 : I' (r + 2) = I (r + 2)) : pRg I' r := by intro j; rw [h1, h2]; exact h j
def cPrs (z : Nat) (T : Nat → Nat × Int) (F : Nat → Nat → Int) (I : Nat → Int → Int) (P : Nat → Nat → Option Nat) (Y : Nat → Int → Option Nat) (t : Int → Int) (e : Int) (s r N : Nat) : gPz → Option Value → xH → Prop
  | .inl f => fun v h' => v = some (J 0) ∧ ∃ (F' : Nat → Nat → Int) (I' : Nat → Int → Int), F' s 5 = f ∧ pRg I' r ∧ (∀ b : Nat, b ≠ s → b ≠ r → F' b = F b) ∧ (∀ b : Nat, b ≠ r + 1 → b ≠ r + 2 → I' b = I b) ∧ h' = (z, T, F', I', P, Y)
  | .inr (ps, q') => fun v h' => v = some (J 1) ∧ ∃ (F' : Nat → Nat → Int) (I' : Nat → Int → Int) (i' : Nat), cAt t e F' I' s N i' q' ∧ pRg I' r ∧ pHo I' r ps ∧ F' r 3 = (ps.length : Int) ∧ F' r 4 = F r 4 ∧ (∀ b : Nat, b ≠ s → b ≠ r → F' b = F b) ∧ (∀ b : Nat, b ≠ r + 1 → b ≠ r + 2 → I' b = I b) ∧ h' = (z, T, F', I', P, Y)
theorem cPrs.cg {E : xE} {z kk : Nat} {T : Nat → Nat × Int} {F : Nat → Nat → Int} {I : Nat → Int → Int} {P : Nat → Nat → Option Nat} {Y : Nat → Int → Option Nat} {t : Int → Int} {e : Int} {s r N : Nat} {M : xM} {As : List Value} {hh : xH} {x y : gPz} (h : x = y) (ct : Ct E kk M 0 0 As hh (cPrs z T F I P Y t e s r N x)) : Ct E kk M 0 0 As hh (cPrs z T F I P Y t e s r N y) := h ▸ ct
set_option maxHeartbeats 4000000 in
set_option maxRecDepth 100000 in
theorem ct_X9_readPairs {E : xE} {z : Nat} {T : Nat → Nat × Int} {F : Nat → Nat → Int} {I : Nat → Int → Int} {P : Nat → Nat → Option Nat} {Y : Nat → Int → Option Nat} {s N : Nat} {t : Int → Int} {e : Int} (hs : wScn T P s) (ht4 : ∀ j : Int, 0 ≤ j → j < 400 → 0 ≤ t j ∧ t j ≤ 255) (he : 0 ≤ e ∧ e ≤ 400) {i : Nat} {q : Int} (hA : cAt t e F I s N i q) {r : Nat} (hr : wSrd T P r s) (hsr : s + 4 ≤ r) (hrg : pRg I r) {mo : Nat} {ri : Bool} (hmo : mo ≤ 20) : Ct E 1 mX9_readPairs 0 0 [.ref r, J (mo : Int), J (bI ri)] (z, T, F, I, P, Y) (cPrs z T F I P Y t e s r N (gPr t e ri mo q 0 [])) := by
  obtain ⟨r0, r1, ⟨ra1, ra2, ra3⟩, rb1, rb2, rb3⟩ := id hr
  have s0 := hs.1
  refine Ct.of [some (.ref r), some (J (mo : Int)), some (J (bI ri)), none, none, none, none] kt_X9_readPairs rfl (Nat.le_of_ble_eq_true rfl) rfl (fun d hd => ?_)
  generalize hX : xN E _ _ _ = X
  refine xg_iconst 1 dX9_readPairs_0 rfl ?_
  refine xg_istoren 2 _ dX9_readPairs_1 rfl rfl rfl (by decide) (Or.inr rfl) ?_
  refine xg_aloadn 3 dX9_readPairs_2 rfl rfl rfl ?_
  refine xg_iconst 4 dX9_readPairs_3 rfl ?_
  refine xg_putI 7 kf_RX9_59 dX9_readPairs_4 rfl r0 ?_
  refine xg_iconst 8 dX9_readPairs_7 rfl ?_
  refine xg_istore 10 _ dX9_readPairs_8 rfl rfl (by decide) (Or.inr rfl) ?_
  have loop10 : ∀ (mm : Nat) (ps : List (Int × Int)) (i1 : Nat) (q1 lo : Int) (F1 : Nat → Nat → Int) (I1 : Nat → Int → Int), ps.length ≤ mo → psOk ps → (0 ≤ lo ∧ lo ≤ 60) → cAt t e F1 I1 s N i1 q1 → (∀ b : Nat, b ≠ s → b ≠ r → F1 b = F b) → (∀ b : Nat, b ≠ r + 1 → b ≠ r + 2 → I1 b = I b) → F1 r 4 = F r 4 → pHo I1 r ps → pRg I1 r → gPr t e ri mo q 0 [] = gPr t e ri (mo - ps.length) q1 lo ps → 30 - (ps.length : Int) < (mm : Int) → xG E mX9_readPairs (xR d 0 0) X 10 [some (.ref r), some (J (mo : Int)), some (J (bI ri)), some (J lo), some (J (ps.length : Int)), none, none] [] (z, T, F1, I1, P, Y) 0 0 := by
    intro mm
    induction mm with
    | zero => intro ps i1 q1 lo F1 I1 hn hps hlo hA1 hF1 hI1 hw1 hH1 hR1 hg hm; exfalso; omega
    | succ mm ih =>
      intro ps i1 q1 lo F1 I1 hn hps hlo hA1 hF1 hI1 hw1 hH1 hR1 hg hm
      have hq1 := hA1.q0 he.1
      refine xg_iload 12 dX9_readPairs_10 rfl rfl ?_
      refine xg_iloadn 13 dX9_readPairs_12 rfl rfl rfl ?_
      refine xg_icge 122 16 dX9_readPairs_13 rfl rfl (by omega) (fun hb13 => ?_) (fun hb13 => ?_)
      · skip
        refine xg_aloadn 123 dX9_readPairs_122 rfl rfl rfl ?_
        refine xg_getP 126 kf_RX9_9 dX9_readPairs_123 rfl r0 r1 ?_
        refine xg_callV 129 7 [] _ kv_X7_fail ⟨_, _, rfl⟩ kl_RX9_45 dX9_readPairs_126 rfl (by assumption) (by omega) rfl rfl (Nat.le_of_ble_eq_true rfl) (by omega) ⟨Nat.le_refl _, Nat.le_refl _⟩ (c0_fail hs ht4 he hA1) rfl ?_
        subst hX
        refine xg_zreturn dX9_readPairs_129 rfl (by first | exact bI_01 _ | omega) ⟨Nat.le_refl _, Nat.le_refl _⟩ ?_
        rw [hg, show mo - ps.length = 0 by omega]
        exact ⟨rfl, _, _, upF_at _ _ _ _, hR1, fun b b1 b2 => by rw [upF_na _ _ _ _ b1]; exact hF1 b b1 b2, hI1, rfl⟩
      · skip
        refine xg_iload 18 dX9_readPairs_16 rfl rfl ?_
        refine xg_bipush 20 dX9_readPairs_18 rfl (by decide) ?_
        refine xg_icge 122 23 dX9_readPairs_20 rfl rfl (by omega) (fun hb20 => ?_) (fun hb20 => ?_)
        · exfalso; omega
        · skip
          refine xg_aloadn 24 dX9_readPairs_23 rfl rfl rfl ?_
          refine xg_getP 27 kf_RX9_9 dX9_readPairs_24 rfl r0 r1 ?_
          refine xg_iloadn 28 dX9_readPairs_27 rfl rfl rfl ?_
          refine xg_bipush 30 dX9_readPairs_28 rfl (by decide) ?_
          by_cases h5 : zK t e q1 = 51 ∧ lo ≤ zNm t e q1 ∧ zNm t e q1 ≤ 59
          · have b5 := zX_b (t := t) (zK_lt (t := t) (e := e) (q := q1) (by omega))
            have hA5 := hA1.nx (by omega)
            refine xg_callV 33 7 [_, _] _ kv_X7_needsNumber ⟨_, _, rfl⟩ kl_RX9_69 dX9_readPairs_30 rfl (by assumption) (by omega) rfl rfl (Nat.le_of_ble_eq_true rfl) (by omega) ⟨Nat.le_refl _, Nat.le_refl _⟩ (c0_needsNumber hs ht4 he hA1 (lo := lo) (hi9 := 59) (by omega)) rfl ?_
            rw [if_pos h5, show zNb0 t e q1 lo 59 = zNm t e q1 from if_pos h5]
            refine xg_istore 35 _ dX9_readPairs_33 rfl rfl (by decide) (Or.inr rfl) ?_
            refine xg_iload 37 dX9_readPairs_35 rfl rfl ?_
            refine xg_iconst 38 dX9_readPairs_37 rfl ?_
            refine xg_icne 43 41 dX9_readPairs_38 rfl rfl (by omega) (fun hb38 => ?_) (fun hb38 => ?_)
            · skip
              refine xg_aloadn 44 dX9_readPairs_43 rfl rfl rfl ?_
              refine xg_getP 47 kf_RX9_9 dX9_readPairs_44 rfl r0 r1 ?_
              refine xg_iconst 48 dX9_readPairs_47 rfl ?_
              refine xg_bipush 50 dX9_readPairs_48 rfl (by decide) ?_
              by_cases h6 : zK t e (zX t e q1) = 51 ∧ 0 ≤ zNm t e (zX t e q1) ∧ zNm t e (zX t e q1) ≤ 100
              · have b6 := zX_b (t := t) (zK_lt (t := t) (e := e) (q := zX t e q1) (by omega))
                have hA6 := hA5.nx (by omega)
                refine xg_callV 53 7 [_, _] _ kv_X7_needsNumber ⟨_, _, rfl⟩ kl_RX9_69 dX9_readPairs_50 rfl (by assumption) (by omega) rfl rfl (Nat.le_of_ble_eq_true rfl) (by omega) ⟨Nat.le_refl _, Nat.le_refl _⟩ (c0_needsNumber hs ht4 he hA5 (lo := 0) (hi9 := 100) (by omega)) rfl ?_
                rw [if_pos h6, show zNb0 t e (zX t e q1) 0 100 = zNm t e (zX t e q1) from if_pos h6]
                refine xg_istore 55 _ dX9_readPairs_53 rfl rfl (by decide) (Or.inr rfl) ?_
                refine xg_iload 57 dX9_readPairs_55 rfl rfl ?_
                refine xg_iconst 58 dX9_readPairs_57 rfl ?_
                refine xg_icne 63 61 dX9_readPairs_58 rfl rfl (by omega) (fun hb58 => ?_) (fun hb58 => ?_)
                · skip
                  refine xg_aloadn 64 dX9_readPairs_63 rfl rfl rfl ?_
                  refine xg_getP 67 kf_RX9_15 dX9_readPairs_64 rfl r0 ra1 ?_
                  refine xg_iload 69 dX9_readPairs_67 rfl rfl ?_
                  refine xg_iload 71 dX9_readPairs_69 rfl rfl ?_
                  refine xg_iast 72 dX9_readPairs_71 rfl ra2 (by rw [ra3]; omega) ?_
                  refine xg_aloadn 73 dX9_readPairs_72 rfl rfl rfl ?_
                  refine xg_getP 76 kf_RX9_19 dX9_readPairs_73 rfl r0 rb1 ?_
                  refine xg_iload 78 dX9_readPairs_76 rfl rfl ?_
                  refine xg_iload 80 dX9_readPairs_78 rfl rfl ?_
                  refine xg_iast 81 dX9_readPairs_80 rfl rb2 (by rw [rb3]; omega) ?_
                  refine xg_aloadn 82 dX9_readPairs_81 rfl rfl rfl ?_
                  refine xg_iload 84 dX9_readPairs_82 rfl rfl ?_
                  refine xg_iconst 85 dX9_readPairs_84 rfl ?_
                  refine xg_iadd 86 dX9_readPairs_85 rfl ?_
                  refine xg_putI 89 kf_RX9_59 dX9_readPairs_86 rfl r0 ?_
                  refine xg_iloadn 90 dX9_readPairs_89 rfl rfl rfl ?_
                  refine xg_join1 101 (fun x => x = gLo ri (zNm t e q1)) ?_ ?_
                  · intro x hx
                    have hx9 : x = gLo ri (zNm t e q1) := hx
                    subst hx9
                    have hlb := gLo_b (ri := ri) (k := zNm t e q1) (by omega)
                    refine xg_istoren 102 _ dX9_readPairs_101 rfl rfl rfl (by decide) (Or.inr rfl) ?_
                    have hA7 : cAt t e (upF (upF (upF F1 s 4 ((i1 + 1 : Nat) : Int)) s 4 ((i1 + 1 + 1 : Nat) : Int)) r 3 ((ps.length : Int) + 1)) (upI (upI I1 (r + 1) (ps.length : Int) (zNm t e q1)) (r + 2) (ps.length : Int) (zNm t e (zX t e q1))) s N (i1 + 1 + 1) (zX t e (zX t e q1)) := hA6.fr (upF_na _ _ _ _ (by omega)) (fun b b1 b2 => by rw [upI_na _ _ _ _ (by omega), upI_na _ _ _ _ (by omega)])
                    have hF7 : ∀ b : Nat, b ≠ s → b ≠ r → (upF (upF (upF F1 s 4 ((i1 + 1 : Nat) : Int)) s 4 ((i1 + 1 + 1 : Nat) : Int)) r 3 ((ps.length : Int) + 1)) b = F b := fun b b1 b2 => by rw [upF_na _ _ _ _ b2, upF_na _ _ _ _ b1, upF_na _ _ _ _ b1]; exact hF1 b b1 b2
                    have hI7 : ∀ b : Nat, b ≠ r + 1 → b ≠ r + 2 → (upI (upI I1 (r + 1) (ps.length : Int) (zNm t e q1)) (r + 2) (ps.length : Int) (zNm t e (zX t e q1))) b = I b := fun b b1 b2 => by rw [upI_na _ _ _ _ b2, upI_na _ _ _ _ b1]; exact hI1 b b1 b2
                    have hw7 : (upF (upF (upF F1 s 4 ((i1 + 1 : Nat) : Int)) s 4 ((i1 + 1 + 1 : Nat) : Int)) r 3 ((ps.length : Int) + 1)) r 4 = F r 4 := by rw [upF_nk _ _ _ _ (by decide), upF_na _ _ _ _ (by omega), upF_na _ _ _ _ (by omega)]; exact hw1
                    have hps1 := hps.app (k := zNm t e q1) (v := zNm t e (zX t e q1)) (by omega) (by omega)
                    refine xg_aloadn 103 dX9_readPairs_102 rfl rfl rfl ?_
                    refine xg_getP 106 kf_RX9_9 dX9_readPairs_103 rfl r0 r1 ?_
                    refine xg_bipush 108 dX9_readPairs_106 rfl (by decide) ?_
                    refine xg_callV 111 7 [_] _ kv_X7_is ⟨_, _, rfl⟩ kl_RX9_22 dX9_readPairs_108 rfl (by assumption) (by omega) rfl rfl (Nat.le_of_ble_eq_true rfl) (by omega) ⟨Nat.le_refl _, Nat.le_refl _⟩ (c0_is hs ht4 he hA7 (by omega)) rfl ?_
                    refine xg_dne 116 114 dX9_readPairs_111 rfl rfl (fun hb111 => ?_) (fun hb111 => ?_)
                    · skip
                      refine xg_iinc 119 _ dX9_readPairs_116 rfl rfl rfl rfl (by decide) (Or.inr rfl) ?_
                      refine xg_goto 10 dX9_readPairs_119 rfl ?_
                      exact xg_weak _ (xle_s rfl (xle_s rfl (xle_s rfl (xle_s rfl (xle_s (v := J (((ps ++ [(zNm t e q1, zNm t e (zX t e q1))]).length : Nat) : Int)) (congrArg (fun x => some (J x)) (by rw [List.length_append]; show _ = ((ps.length + 1 : Nat) : Int); omega)) (xle_n (xle_n xle_0))))))) (ih (ps ++ [(zNm t e q1, zNm t e (zX t e q1))]) (i1 + 1 + 1) (zX t e (zX t e q1)) _ (upF (upF (upF F1 s 4 ((i1 + 1 : Nat) : Int)) s 4 ((i1 + 1 + 1 : Nat) : Int)) r 3 ((ps.length : Int) + 1)) (upI (upI I1 (r + 1) (ps.length : Int) (zNm t e q1)) (r + 2) (ps.length : Int) (zNm t e (zX t e q1))) (by rw [List.length_append]; show ps.length + 1 ≤ mo; omega) hps1 hlb hA7 hF7 hI7 hw7 hH1.S (hR1.S (by omega) (by omega)) (by rw [hg, show mo - ps.length = mo - (ps.length + 1) + 1 by omega, gPr_3 h5 h6 (by omega), List.length_append]; rfl) (by rw [List.length_append]; show 30 - ((ps.length + 1 : Nat) : Int) < _; omega))
                    · skip
                      refine xg_iconst 115 dX9_readPairs_114 rfl ?_
                      subst hX
                      refine xg_zreturn dX9_readPairs_115 rfl (by first | exact bI_01 _ | omega) ⟨Nat.le_refl _, Nat.le_refl _⟩ ?_
                      rw [hg, show mo - ps.length = mo - (ps.length + 1) + 1 by omega, gPr_4 h5 h6 (by omega)]
                      exact ⟨rfl, _, _, _, hA7, hR1.S (by omega) (by omega), hH1.S, by rw [upF_at, List.length_append]; show (ps.length : Int) + 1 = ((ps.length + 1 : Nat) : Int); omega, hw7, hF7, hI7, rfl⟩
                  · intro hj
                    refine xg_beq 100 93 dX9_readPairs_90 rfl rfl (fun hb90 => ?_) (fun hb90 => ?_)
                    · skip
                      refine xg_iconst 101 dX9_readPairs_100 rfl ?_
                      exact hj _ (by unfold gLo; first | (rw [if_pos (by assumption)]) | (rw [if_neg (by simp_all)]))
                    · skip
                      refine xg_iload 95 dX9_readPairs_93 rfl rfl ?_
                      refine xg_iconst 96 dX9_readPairs_95 rfl ?_
                      refine xg_iadd 97 dX9_readPairs_96 rfl ?_
                      refine xg_goto 101 dX9_readPairs_97 rfl ?_
                      exact hj _ (by unfold gLo; first | (rw [if_pos (by assumption)]) | (rw [if_neg (by simp_all)]))
                · exfalso; omega
              · skip
                refine xg_callV 53 7 [_, _] _ kv_X7_needsNumber ⟨_, _, rfl⟩ kl_RX9_69 dX9_readPairs_50 rfl (by assumption) (by omega) rfl rfl (Nat.le_of_ble_eq_true rfl) (by omega) ⟨Nat.le_refl _, Nat.le_refl _⟩ (c0_needsNumber hs ht4 he hA5 (lo := 0) (hi9 := 100) (by omega)) rfl ?_
                rw [if_neg h6, show zNb0 t e (zX t e q1) 0 100 = -1 from if_neg h6]
                refine xg_istore 55 _ dX9_readPairs_53 rfl rfl (by decide) (Or.inr rfl) ?_
                refine xg_iload 57 dX9_readPairs_55 rfl rfl ?_
                refine xg_iconst 58 dX9_readPairs_57 rfl ?_
                refine xg_icne 63 61 dX9_readPairs_58 rfl rfl (by omega) (fun hb58 => ?_) (fun hb58 => ?_)
                · exfalso; omega
                · skip
                  refine xg_iconst 62 dX9_readPairs_61 rfl ?_
                  subst hX
                  refine xg_zreturn dX9_readPairs_62 rfl (by first | exact bI_01 _ | omega) ⟨Nat.le_refl _, Nat.le_refl _⟩ ?_
                  rw [hg, show mo - ps.length = mo - (ps.length + 1) + 1 by omega, gPr_2 h5 h6]
                  exact ⟨rfl, _, _, upF_at _ _ _ _, hR1, fun b b1 b2 => by rw [upF_na _ _ _ _ b1, upF_na _ _ _ _ b1]; exact hF1 b b1 b2, hI1, rfl⟩
            · exfalso; omega
          · skip
            refine xg_callV 33 7 [_, _] _ kv_X7_needsNumber ⟨_, _, rfl⟩ kl_RX9_69 dX9_readPairs_30 rfl (by assumption) (by omega) rfl rfl (Nat.le_of_ble_eq_true rfl) (by omega) ⟨Nat.le_refl _, Nat.le_refl _⟩ (c0_needsNumber hs ht4 he hA1 (lo := lo) (hi9 := 59) (by omega)) rfl ?_
            rw [if_neg h5, show zNb0 t e q1 lo 59 = -1 from if_neg h5]
            refine xg_istore 35 _ dX9_readPairs_33 rfl rfl (by decide) (Or.inr rfl) ?_
            refine xg_iload 37 dX9_readPairs_35 rfl rfl ?_
            refine xg_iconst 38 dX9_readPairs_37 rfl ?_
            refine xg_icne 43 41 dX9_readPairs_38 rfl rfl (by omega) (fun hb38 => ?_) (fun hb38 => ?_)
            · exfalso; omega
            · skip
              refine xg_iconst 42 dX9_readPairs_41 rfl ?_
              subst hX
              refine xg_zreturn dX9_readPairs_42 rfl (by first | exact bI_01 _ | omega) ⟨Nat.le_refl _, Nat.le_refl _⟩ ?_
              rw [hg, show mo - ps.length = mo - (ps.length + 1) + 1 by omega, gPr_1 h5]
              exact ⟨rfl, _, _, upF_at _ _ _ _, hR1, fun b b1 b2 => by rw [upF_na _ _ _ _ b1]; exact hF1 b b1 b2, hI1, rfl⟩
  exact xg_weak _ (xle_s rfl (xle_s rfl (xle_s rfl (xle_s rfl (xle_s rfl (xle_n (xle_n xle_0))))))) (loop10 50 [] i q 0 (upF F r 3 0) I (Nat.zero_le _) psOk.nil (by omega) (hA.fr (upF_na _ _ _ _ (by omega)) (fun _ _ _ => rfl)) (fun b b1 b2 => upF_na _ _ _ _ b2) (fun _ _ _ => rfl) (upF_nk _ _ _ _ (by decide)) pHo.nil hrg rfl (by show 30 - ((0 : Nat) : Int) < _; omega))

