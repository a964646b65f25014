theorem gStL_1 {t : Int → Int} {e q f : Int} {k : Nat} {w : Int → Int} (h : gSLn t e q w = .inl f) : gStL t e (k + 1) q w = .inl f := by rw [gStL, h]
theorem gStL_2 {t : Int → Int} {e q q' : Int} {k : Nat} {w w' : Int → Int} (h : gSLn t e q w = .inr (w', q')) (h2 : zK t e q' = 52) : gStL t e (k + 1) q w = .inr w' := by rw [gStL, h]; exact if_pos h2
theorem gStL_3 {t : Int → Int} {e q q' : Int} {k : Nat} {w w' : Int → Int} (h : gSLn t e q w = .inr (w', q')) (h2 : zK t e q' ≠ 52) (h3 : zK t e q' = 159) : gStL t e (k + 1) q w = gStL t e k (zX t e q') w' := by
  rw [gStL, h]; show (if zK t e q' = 52 then _ else if zK t e q' = 159 then _ else _) = _; rw [if_neg h2, if_pos h3]
theorem gStL_4 {t : Int → Int} {e q q' : Int} {k : Nat} {w w' : Int → Int} (h : gSLn t e q w = .inr (w', q')) (h2 : zK t e q' ≠ 52) (h3 : zK t e q' ≠ 159) : gStL t e (k + 1) q w = .inl q' := by
  rw [gStL, h]; show (if zK t e q' = 52 then _ else if zK t e q' = 159 then _ else _) = _; rw [if_neg h2, if_neg h3]
/-- all lines of a store's text -/
def rStA (m z : Nat) (T : Nat → Nat × Int) (F : Nat → Nat → Int) (I : Nat → Int → Int) (P : Nat → Nat → Option Nat) (Y : Nat → Int → Option Nat) : (Int ⊕ (Int → Int)) → Option Value → xH → Prop
  | .inl f => fun v h' => v = some (J (-1)) ∧ ∃ (p d c : Int) (w1 : Int → Int) (I1 : Nat → Int → Int), w32 w1 ∧ xScr m I I1 ∧ h' = (z, T, fR F m p f d c, upA I1 (m + 1) w1, P, Y)
  | .inr w' => fun v h' => ∃ n : Int, (0 ≤ n ∧ n ≤ 20) ∧ v = some (J n) ∧ ∃ (p b d c : Int) (I1 : Nat → Int → Int), xScr m I I1 ∧ h' = (z, T, fR F m p b d c, upA I1 (m + 1) w', P, Y)
theorem rStA.cg {E : xE} {m z kk : Nat} {T : Nat → Nat × Int} {F : Nat → Nat → Int} {I : Nat → Int → Int} {P : Nat → Nat → Option Nat} {Y : Nat → Int → Option Nat} {M : xM} {As : List Value} {hh : xH} {x y : (Int ⊕ (Int → Int))} (h : x = y) (ct : Ct E kk M 0 0 As hh (rStA m z T F I P Y x)) : Ct E kk M 0 0 As hh (rStA m z T F I P Y y) := h ▸ ct
/-- the world stays (its draft apart) -/
def rStN (m z : Nat) (T : Nat → Nat × Int) (F : Nat → Nat → Int) (I : Nat → Int → Int) (P : Nat → Nat → Option Nat) (Y : Nat → Int → Option Nat) (w : Int → Int) (f code : Int) : Option Value → xH → Prop :=
  fun v h' => v = some (J 0) ∧ ∃ (p b d c : Int) (w1 : Int → Int) (I1 : Nat → Int → Int), (∀ j : Int, 0 ≤ j → j < 2752 → w1 j = w j) ∧ w32 w1 ∧ (∀ b : Nat, b ≠ m + 3 → (b < m + 7 ∨ m + 11 < b) → I1 b = I b) ∧ h' = (z, T, upF (upF (fR (fUse F m) m p b d c) m 14 f) m 0 code, upA I1 (m + 1) w1, P, Y)
def rStP (m z : Nat) (T : Nat → Nat × Int) (F : Nat → Nat → Int) (I : Nat → Int → Int) (P : Nat → Nat → Option Nat) (Y : Nat → Int → Option Nat) (w : Int → Int) : (Int ⊕ (Int → Int)) → Option Value → xH → Prop
  | .inl f => rStN m z T F I P Y w f 1
  | .inr w' => fun v h' => (w 1 = 12 ∧ rStN m z T F I P Y w (-1) 2 v h') ∨ (w 1 ≠ 12 ∧ v = some (J (w 1 + 1)) ∧ ∃ (p b d c : Int) (I1 : Nat → Int → Int), (∀ b : Nat, b ≠ m + 3 → (b < m + 7 ∨ m + 11 < b) → I1 b = I b) ∧ h' = (z, T, upF (upF (fR (fUse F m) m p b d c) m 14 (-1)) m 7 0, upA I1 (m + 1) (wS w' 1 (w 1 + 1)), P, Y))
theorem gStL_ok {t : Int → Int} {e : Int} : ∀ (k : Nat) {q : Int} {w w' : Int → Int}, gStL t e k q w = .inr w' → wI2 w → wI2 w' ∧ w' 1 = w 1
  | 0, q, w, w', h, _ => by rw [gStL] at h; cases h
  | k + 1, q, w, w', h, hI => by
    have h1 := gSLn_ok (t := t) (e := e) (q := q) hI
    cases hs : gSLn t e q w with
    | inl f => rw [gStL_1 hs] at h; cases h
    | inr y =>
      obtain ⟨w1, q1⟩ := y
      rw [hs] at h1
      obtain ⟨a1, a2, a3, a4⟩ := h1
      by_cases c1 : zK t e q1 = 52
      · rw [gStL_2 hs c1] at h; cases h; exact ⟨a1, a2⟩
      · by_cases c2 : zK t e q1 = 159
        · rw [gStL_3 hs c1 c2] at h
          obtain ⟨b1, b2⟩ := gStL_ok k h a1
          exact ⟨b1, b2.trans a2⟩
        · rw [gStL_4 hs c1 c2] at h; cases h
theorem gSto_ok {t : Int → Int} {e : Int} {w w' : Int → Int} (h : gSto t e w = .inr w') (hI : wI2 w) : wI2 w' ∧ w' 1 = w 1 := by
  unfold gSto at h
  split at h
  · cases h; exact ⟨hI, rfl⟩
  · exact gStL_ok 14 h hI
theorem w32_Co {u w : Int → Int} (h : w32 u) (h2 : w32 w) (a n : Int) : w32 (wCo u w a n) := by
  intro j; unfold wCo; split
  · exact h2 _
  · exact h j

theorem cr_readNumber {E : xE} {z : Nat} {T : Nat → Nat × Int} {F : Nat → Nat → Int} {I : Nat → Int → Int} {P : Nat → Nat → Option Nat} {Y : Nat → Int → Option Nat} {m : Nat} {w : Int → Int} (hw : wM T P m) (hT : ∀ j : Int, -128 ≤ I (m + 6) j ∧ I (m + 6) j ≤ 127) {t : Int → Int} {e : Int} (ht : rTp t (I (m + 6)) e) (he : 0 ≤ e ∧ e ≤ 400) (h11 : F m 11 = e) {p b dp c q : Int} (hp : 0 ≤ p ∧ p ≤ e) (hq : zSk t e p = q) (hO : wOk w) {k lo hi9 : Int} (hk : 0 ≤ k ∧ k < 3601) (hlh : 0 ≤ lo ∧ lo ≤ hi9 ∧ hi9 ≤ 1000) : Ct E 3 mX12_readNumber 0 0 [.ref m, J k, J lo, J hi9] (z, T, fR F m (p) (b) (dp) (c), upA I (m + 1) (w), P, Y) (rSz m z T F I P Y t e dp c (gNo t e q lo hi9 (fun n => wS w k n))) := by
  have hqb := zSk_b (t := t) hp.2
  rw [hq] at hqb
  have htb : ∀ j : Int, 0 ≤ j → j < e → 0 ≤ t j ∧ t j ≤ 255 := fun j a b => (ht j a b).1
  have h := ct_X12_readNumber (E := E) (z := z) (F := fR F m p b dp c) (Y := Y) (w := w) (k := k) (lo := lo) (hi := hi9) hw hO.1 hT (by rw [fR_10, fR_o (by omega)]; omega) hk hlh
  rw [fR_10, show fR F m p b dp c m 11 = e from by rw [fR_o (by omega)]; exact h11, sSkp_z ht ⟨hp.1, hp.2, he.2⟩, hq, sSkp_9 ht (by omega), sNum_z ht (by omega) (by omega), fR_pos] at h
  refine Ct.post (fun v h' e9 => ?_) h
  obtain ⟨rfl, rfl⟩ := e9
  have hnb := zNb0_b (t := t) (e := e) (q := q) (lo := lo) (hi := hi9) (by omega)
  by_cases c1 : zK t e q = 51 ∧ lo ≤ zNm t e q ∧ zNm t e q ≤ hi9
  · have hd := zDg_51 htb (by omega) c1.1
    have hz : zSk t e (zDg t e q) = zX t e q := by rw [hd.2]; rfl
    have hL := zLen_b (t := t) hd.1
    unfold gNo
    rw [if_pos c1, show zNb0 t e q lo hi9 = zNm t e q by omega, if_pos (by omega)]
    exact ⟨congrArg (fun v => some (J v)) (bI_t (by omega)), _, _, _, hz, ⟨by omega, by omega⟩, xScr.rf, rfl⟩
  · unfold gNo
    rw [if_neg c1, show zNb0 t e q lo hi9 = -1 by omega, if_neg (by omega), wS_id]
    exact ⟨congrArg (fun v => some (J v)) (bI_f (by omega)), _, _, _, hO.1, xScr.rf, rfl⟩
theorem cr_readBound {E : xE} {z : Nat} {T : Nat → Nat × Int} {F : Nat → Nat → Int} {I : Nat → Int → Int} {P : Nat → Nat → Option Nat} {Y : Nat → Int → Option Nat} {m : Nat} {w : Int → Int} (hw : wM T P m) (hT : ∀ j : Int, -128 ≤ I (m + 6) j ∧ I (m + 6) j ≤ 127) {t : Int → Int} {e : Int} (ht : rTp t (I (m + 6)) e) (he : 0 ≤ e ∧ e ≤ 400) (h11 : F m 11 = e) {p b dp c q : Int} (hp : 0 ≤ p ∧ p ≤ e) (hq : zSk t e p = q) (hO : wOk w) {k hi9 : Int} (hk : k = 4 ∧ hi9 = 4 ∨ k = 5 ∧ hi9 = 6) : Ct E 4 mX12_readBound 0 0 [.ref m, J k, J hi9] (z, T, fR F m (p) (b) (dp) (c), upA I (m + 1) (w), P, Y) (rSz m z T F I P Y t e dp c (gNo t e q 2 hi9 (fun n => wS (sHalt w) k n))) := by
  have hqb := zSk_b (t := t) hp.2
  rw [hq] at hqb
  have htb : ∀ j : Int, 0 ≤ j → j < e → 0 ≤ t j ∧ t j ≤ 255 := fun j a b => (ht j a b).1
  have h := ct_X12_readBound (E := E) (z := z) (F := fR F m p b dp c) (Y := Y) (w := w) (k := k) (hi := hi9) hw hO.1 hT (by rw [fR_10, fR_o (by omega)]; omega) (by omega) (by omega) (fun v a b => wOk_S hO _ _ (by unfold wCell; omega))
  rw [fR_10, show fR F m p b dp c m 11 = e from by rw [fR_o (by omega)]; exact h11, sSkp_z ht ⟨hp.1, hp.2, he.2⟩, hq, sSkp_9 ht (by omega), sNum_z ht (by omega) (by omega), fR_pos] at h
  refine Ct.post (fun v h' e9 => ?_) h
  obtain ⟨rfl, rfl⟩ := e9
  have hnb := zNb0_b (t := t) (e := e) (q := q) (lo := 2) (hi := hi9) (by omega)
  by_cases c1 : zK t e q = 51 ∧ 2 ≤ zNm t e q ∧ zNm t e q ≤ hi9
  · have hd := zDg_51 htb (by omega) c1.1
    have hz : zSk t e (zDg t e q) = zX t e q := by rw [hd.2]; rfl
    have hL := zLen_b (t := t) hd.1
    unfold gNo
    rw [if_pos c1, show zNb0 t e q 2 hi9 = zNm t e q by omega, if_pos (by omega), hS_halt (by omega)]
    exact ⟨congrArg (fun v => some (J v)) (bI_t (by omega)), _, _, _, hz, ⟨by omega, by omega⟩, xScr.rf, rfl⟩
  · unfold gNo
    rw [if_neg c1, show zNb0 t e q 2 hi9 = -1 by omega, if_neg (by omega)]
    exact ⟨congrArg (fun v => some (J v)) (bI_f (by omega)), _, _, _, hO.1, xScr.rf, rfl⟩
theorem dX12_readStoreLine_0 : decode cX12_readStoreLine 0 = .ok (.aload_n 0, 1) := by decide +kernel
theorem dX12_readStoreLine_1 : decode cX12_readStoreLine 1 = .ok (.ldc 146, 2) := by decide +kernel
theorem dX12_readStoreLine_3 : decode cX12_readStoreLine 3 = .ok (.invokevirtual 111, 3) := by decide +kernel
theorem dX12_readStoreLine_6 : decode cX12_readStoreLine 6 = .ok (.ifCond .eq 8, 3) := by decide +kernel
theorem dX12_readStoreLine_9 : decode cX12_readStoreLine 9 = .ok (.aload_n 0, 1) := by decide +kernel
theorem dX12_readStoreLine_10 : decode cX12_readStoreLine 10 = .ok (.invokevirtual 148, 3) := by decide +kernel
theorem dX12_readStoreLine_13 : decode cX12_readStoreLine 13 = .ok (.ireturn, 1) := by decide +kernel
theorem dX12_readStoreLine_14 : decode cX12_readStoreLine 14 = .ok (.aload_n 0, 1) := by decide +kernel
theorem dX12_readStoreLine_15 : decode cX12_readStoreLine 15 = .ok (.ldc 151, 2) := by decide +kernel
theorem dX12_readStoreLine_17 : decode cX12_readStoreLine 17 = .ok (.invokevirtual 111, 3) := by decide +kernel
theorem dX12_readStoreLine_20 : decode cX12_readStoreLine 20 = .ok (.ifCond .eq 8, 3) := by decide +kernel
theorem dX12_readStoreLine_23 : decode cX12_readStoreLine 23 = .ok (.aload_n 0, 1) := by decide +kernel
theorem dX12_readStoreLine_24 : decode cX12_readStoreLine 24 = .ok (.invokevirtual 153, 3) := by decide +kernel
theorem dX12_readStoreLine_27 : decode cX12_readStoreLine 27 = .ok (.ireturn, 1) := by decide +kernel
theorem dX12_readStoreLine_28 : decode cX12_readStoreLine 28 = .ok (.aload_n 0, 1) := by decide +kernel
theorem dX12_readStoreLine_29 : decode cX12_readStoreLine 29 = .ok (.ldc 156, 2) := by decide +kernel
theorem dX12_readStoreLine_31 : decode cX12_readStoreLine 31 = .ok (.invokevirtual 111, 3) := by decide +kernel
theorem dX12_readStoreLine_34 : decode cX12_readStoreLine 34 = .ok (.ifCond .eq 11, 3) := by decide +kernel
theorem dX12_readStoreLine_37 : decode cX12_readStoreLine 37 = .ok (.aload_n 0, 1) := by decide +kernel
theorem dX12_readStoreLine_38 : decode cX12_readStoreLine 38 = .ok (.iconst 5, 1) := by decide +kernel
theorem dX12_readStoreLine_39 : decode cX12_readStoreLine 39 = .ok (.bipush 6, 2) := by decide +kernel
theorem dX12_readStoreLine_41 : decode cX12_readStoreLine 41 = .ok (.invokevirtual 158, 3) := by decide +kernel
theorem dX12_readStoreLine_44 : decode cX12_readStoreLine 44 = .ok (.ireturn, 1) := by decide +kernel
theorem dX12_readStoreLine_45 : decode cX12_readStoreLine 45 = .ok (.aload_n 0, 1) := by decide +kernel
theorem dX12_readStoreLine_46 : decode cX12_readStoreLine 46 = .ok (.ldc 161, 2) := by decide +kernel
theorem dX12_readStoreLine_48 : decode cX12_readStoreLine 48 = .ok (.invokevirtual 111, 3) := by decide +kernel
theorem dX12_readStoreLine_51 : decode cX12_readStoreLine 51 = .ok (.ifCond .eq 10, 3) := by decide +kernel
theorem dX12_readStoreLine_54 : decode cX12_readStoreLine 54 = .ok (.aload_n 0, 1) := by decide +kernel
theorem dX12_readStoreLine_55 : decode cX12_readStoreLine 55 = .ok (.iconst 4, 1) := by decide +kernel
theorem dX12_readStoreLine_56 : decode cX12_readStoreLine 56 = .ok (.iconst 4, 1) := by decide +kernel
theorem dX12_readStoreLine_57 : decode cX12_readStoreLine 57 = .ok (.invokevirtual 158, 3) := by decide +kernel
theorem dX12_readStoreLine_60 : decode cX12_readStoreLine 60 = .ok (.ireturn, 1) := by decide +kernel
theorem dX12_readStoreLine_61 : decode cX12_readStoreLine 61 = .ok (.aload_n 0, 1) := by decide +kernel
theorem dX12_readStoreLine_62 : decode cX12_readStoreLine 62 = .ok (.ldc 163, 2) := by decide +kernel
theorem dX12_readStoreLine_64 : decode cX12_readStoreLine 64 = .ok (.invokevirtual 111, 3) := by decide +kernel
theorem dX12_readStoreLine_67 : decode cX12_readStoreLine 67 = .ok (.ifCond .eq 13, 3) := by decide +kernel
theorem dX12_readStoreLine_70 : decode cX12_readStoreLine 70 = .ok (.aload_n 0, 1) := by decide +kernel
theorem dX12_readStoreLine_71 : decode cX12_readStoreLine 71 = .ok (.bipush 6, 2) := by decide +kernel
theorem dX12_readStoreLine_73 : decode cX12_readStoreLine 73 = .ok (.iconst 0, 1) := by decide +kernel
theorem dX12_readStoreLine_74 : decode cX12_readStoreLine 74 = .ok (.bipush 9, 2) := by decide +kernel
theorem dX12_readStoreLine_76 : decode cX12_readStoreLine 76 = .ok (.invokevirtual 143, 3) := by decide +kernel
theorem dX12_readStoreLine_79 : decode cX12_readStoreLine 79 = .ok (.ireturn, 1) := by decide +kernel
theorem dX12_readStoreLine_80 : decode cX12_readStoreLine 80 = .ok (.aload_n 0, 1) := by decide +kernel
theorem dX12_readStoreLine_81 : decode cX12_readStoreLine 81 = .ok (.ldc 165, 2) := by decide +kernel
theorem dX12_readStoreLine_83 : decode cX12_readStoreLine 83 = .ok (.invokevirtual 111, 3) := by decide +kernel
theorem dX12_readStoreLine_86 : decode cX12_readStoreLine 86 = .ok (.ifCond .eq 9, 3) := by decide +kernel
theorem dX12_readStoreLine_89 : decode cX12_readStoreLine 89 = .ok (.aload_n 0, 1) := by decide +kernel
theorem dX12_readStoreLine_90 : decode cX12_readStoreLine 90 = .ok (.iconst 0, 1) := by decide +kernel
theorem dX12_readStoreLine_91 : decode cX12_readStoreLine 91 = .ok (.invokevirtual 167, 3) := by decide +kernel
theorem dX12_readStoreLine_94 : decode cX12_readStoreLine 94 = .ok (.ireturn, 1) := by decide +kernel
theorem dX12_readStoreLine_95 : decode cX12_readStoreLine 95 = .ok (.aload_n 0, 1) := by decide +kernel
theorem dX12_readStoreLine_96 : decode cX12_readStoreLine 96 = .ok (.ldc 171, 2) := by decide +kernel
theorem dX12_readStoreLine_98 : decode cX12_readStoreLine 98 = .ok (.invokevirtual 111, 3) := by decide +kernel
theorem dX12_readStoreLine_101 : decode cX12_readStoreLine 101 = .ok (.ifCond .eq 9, 3) := by decide +kernel
theorem dX12_readStoreLine_104 : decode cX12_readStoreLine 104 = .ok (.aload_n 0, 1) := by decide +kernel
theorem dX12_readStoreLine_105 : decode cX12_readStoreLine 105 = .ok (.iconst 1, 1) := by decide +kernel
theorem dX12_readStoreLine_106 : decode cX12_readStoreLine 106 = .ok (.invokevirtual 167, 3) := by decide +kernel
theorem dX12_readStoreLine_109 : decode cX12_readStoreLine 109 = .ok (.ireturn, 1) := by decide +kernel
theorem dX12_readStoreLine_110 : decode cX12_readStoreLine 110 = .ok (.aload_n 0, 1) := by decide +kernel
theorem dX12_readStoreLine_111 : decode cX12_readStoreLine 111 = .ok (.ldc 173, 2) := by decide +kernel
theorem dX12_readStoreLine_113 : decode cX12_readStoreLine 113 = .ok (.invokevirtual 111, 3) := by decide +kernel
theorem dX12_readStoreLine_116 : decode cX12_readStoreLine 116 = .ok (.ifCond .eq 20, 3) := by decide +kernel
theorem dX12_readStoreLine_119 : decode cX12_readStoreLine 119 = .ok (.aload_n 0, 1) := by decide +kernel
theorem dX12_readStoreLine_120 : decode cX12_readStoreLine 120 = .ok (.bipush 13, 2) := by decide +kernel
theorem dX12_readStoreLine_122 : decode cX12_readStoreLine 122 = .ok (.iconst 0, 1) := by decide +kernel
theorem dX12_readStoreLine_123 : decode cX12_readStoreLine 123 = .ok (.sipush 999, 3) := by decide +kernel
theorem dX12_readStoreLine_126 : decode cX12_readStoreLine 126 = .ok (.invokevirtual 143, 3) := by decide +kernel
theorem dX12_readStoreLine_129 : decode cX12_readStoreLine 129 = .ok (.ifCond .eq 7, 3) := by decide +kernel
theorem dX12_readStoreLine_132 : decode cX12_readStoreLine 132 = .ok (.iconst 1, 1) := by decide +kernel
theorem dX12_readStoreLine_133 : decode cX12_readStoreLine 133 = .ok (.goto 4, 3) := by decide +kernel
theorem dX12_readStoreLine_136 : decode cX12_readStoreLine 136 = .ok (.iconst 0, 1) := by decide +kernel
theorem dX12_readStoreLine_137 : decode cX12_readStoreLine 137 = .ok (.ireturn, 1) := by decide +kernel
theorem dX12_store_0 : decode cX12_store 0 = .ok (.iconst 0, 1) := by decide +kernel
theorem dX12_store_1 : decode cX12_store 1 = .ok (.istore_n 1, 1) := by decide +kernel
theorem dX12_store_2 : decode cX12_store 2 = .ok (.iload_n 1, 1) := by decide +kernel
theorem dX12_store_3 : decode cX12_store 3 = .ok (.sipush 2752, 3) := by decide +kernel
theorem dX12_store_6 : decode cX12_store 6 = .ok (.if_icmp .ge 21, 3) := by decide +kernel
theorem dX12_store_9 : decode cX12_store 9 = .ok (.aload_n 0, 1) := by decide +kernel
theorem dX12_store_10 : decode cX12_store 10 = .ok (.getfield 20, 3) := by decide +kernel
theorem dX12_store_13 : decode cX12_store 13 = .ok (.iload_n 1, 1) := by decide +kernel
theorem dX12_store_14 : decode cX12_store 14 = .ok (.aload_n 0, 1) := by decide +kernel
theorem dX12_store_15 : decode cX12_store 15 = .ok (.getfield 13, 3) := by decide +kernel
theorem dX12_store_18 : decode cX12_store 18 = .ok (.iload_n 1, 1) := by decide +kernel
theorem dX12_store_19 : decode cX12_store 19 = .ok (.iaload, 1) := by decide +kernel
theorem dX12_store_20 : decode cX12_store 20 = .ok (.iastore, 1) := by decide +kernel
theorem dX12_store_21 : decode cX12_store 21 = .ok (.iinc 1 1, 3) := by decide +kernel
theorem dX12_store_24 : decode cX12_store 24 = .ok (.goto (-22), 3) := by decide +kernel
theorem dX12_store_27 : decode cX12_store 27 = .ok (.aload_n 0, 1) := by decide +kernel
theorem dX12_store_28 : decode cX12_store 28 = .ok (.iconst 1, 1) := by decide +kernel
theorem dX12_store_29 : decode cX12_store 29 = .ok (.invokevirtual 247, 3) := by decide +kernel
theorem dX12_store_32 : decode cX12_store 32 = .ok (.istore_n 1, 1) := by decide +kernel
theorem dX12_store_33 : decode cX12_store 33 = .ok (.aload_n 0, 1) := by decide +kernel
theorem dX12_store_34 : decode cX12_store 34 = .ok (.iload_n 1, 1) := by decide +kernel
theorem dX12_store_35 : decode cX12_store 35 = .ok (.ifCond .ge 10, 3) := by decide +kernel
theorem dX12_store_38 : decode cX12_store 38 = .ok (.aload_n 0, 1) := by decide +kernel
theorem dX12_store_39 : decode cX12_store 39 = .ok (.getfield 93, 3) := by decide +kernel
theorem dX12_store_42 : decode cX12_store 42 = .ok (.goto 4, 3) := by decide +kernel
theorem dX12_store_45 : decode cX12_store 45 = .ok (.iconst (-1), 1) := by decide +kernel
theorem dX12_store_46 : decode cX12_store 46 = .ok (.putfield 33, 3) := by decide +kernel
theorem dX12_store_49 : decode cX12_store 49 = .ok (.aload_n 0, 1) := by decide +kernel
theorem dX12_store_50 : decode cX12_store 50 = .ok (.iload_n 1, 1) := by decide +kernel
theorem dX12_store_51 : decode cX12_store 51 = .ok (.ifCond .ge 7, 3) := by decide +kernel
theorem dX12_store_54 : decode cX12_store 54 = .ok (.iconst 1, 1) := by decide +kernel
theorem dX12_store_55 : decode cX12_store 55 = .ok (.goto 4, 3) := by decide +kernel
theorem dX12_store_58 : decode cX12_store 58 = .ok (.iconst 0, 1) := by decide +kernel
theorem dX12_store_59 : decode cX12_store 59 = .ok (.iconst 1, 1) := by decide +kernel
theorem dX12_store_60 : decode cX12_store 60 = .ok (.invokevirtual 251, 3) := by decide +kernel
theorem dX12_store_63 : decode cX12_store 63 = .ok (.ifCond .ne 27, 3) := by decide +kernel
theorem dX12_store_66 : decode cX12_store 66 = .ok (.aload_n 0, 1) := by decide +kernel
theorem dX12_store_67 : decode cX12_store 67 = .ok (.aload_n 0, 1) := by decide +kernel
theorem dX12_store_68 : decode cX12_store 68 = .ok (.getfield 13, 3) := by decide +kernel
theorem dX12_store_71 : decode cX12_store 71 = .ok (.iconst 1, 1) := by decide +kernel
theorem dX12_store_72 : decode cX12_store 72 = .ok (.iaload, 1) := by decide +kernel
theorem dX12_store_73 : decode cX12_store 73 = .ok (.bipush 12, 2) := by decide +kernel
theorem dX12_store_75 : decode cX12_store 75 = .ok (.if_icmp .ne 7, 3) := by decide +kernel
theorem dX12_store_78 : decode cX12_store 78 = .ok (.iconst 1, 1) := by decide +kernel
theorem dX12_store_79 : decode cX12_store 79 = .ok (.goto 4, 3) := by decide +kernel
theorem dX12_store_82 : decode cX12_store 82 = .ok (.iconst 0, 1) := by decide +kernel
theorem dX12_store_83 : decode cX12_store 83 = .ok (.iconst 2, 1) := by decide +kernel
theorem dX12_store_84 : decode cX12_store 84 = .ok (.invokevirtual 251, 3) := by decide +kernel
theorem dX12_store_87 : decode cX12_store 87 = .ok (.ifCond .eq 32, 3) := by decide +kernel
theorem dX12_store_90 : decode cX12_store 90 = .ok (.iconst 0, 1) := by decide +kernel
theorem dX12_store_91 : decode cX12_store 91 = .ok (.istore_n 2, 1) := by decide +kernel
theorem dX12_store_92 : decode cX12_store 92 = .ok (.iload_n 2, 1) := by decide +kernel
theorem dX12_store_93 : decode cX12_store 93 = .ok (.sipush 2752, 3) := by decide +kernel
theorem dX12_store_96 : decode cX12_store 96 = .ok (.if_icmp .ge 21, 3) := by decide +kernel
theorem dX12_store_99 : decode cX12_store 99 = .ok (.aload_n 0, 1) := by decide +kernel
theorem dX12_store_100 : decode cX12_store 100 = .ok (.getfield 13, 3) := by decide +kernel
theorem dX12_store_103 : decode cX12_store 103 = .ok (.iload_n 2, 1) := by decide +kernel
theorem dX12_store_104 : decode cX12_store 104 = .ok (.aload_n 0, 1) := by decide +kernel
theorem dX12_store_105 : decode cX12_store 105 = .ok (.getfield 20, 3) := by decide +kernel
theorem dX12_store_108 : decode cX12_store 108 = .ok (.iload_n 2, 1) := by decide +kernel
theorem dX12_store_109 : decode cX12_store 109 = .ok (.iaload, 1) := by decide +kernel
theorem dX12_store_110 : decode cX12_store 110 = .ok (.iastore, 1) := by decide +kernel
theorem dX12_store_111 : decode cX12_store 111 = .ok (.iinc 2 1, 3) := by decide +kernel
theorem dX12_store_114 : decode cX12_store 114 = .ok (.goto (-22), 3) := by decide +kernel
theorem dX12_store_117 : decode cX12_store 117 = .ok (.iconst 0, 1) := by decide +kernel
theorem dX12_store_118 : decode cX12_store 118 = .ok (.ireturn, 1) := by decide +kernel
theorem dX12_store_119 : decode cX12_store 119 = .ok (.aload_n 0, 1) := by decide +kernel
theorem dX12_store_120 : decode cX12_store 120 = .ok (.getfield 13, 3) := by decide +kernel
theorem dX12_store_123 : decode cX12_store 123 = .ok (.iconst 1, 1) := by decide +kernel
theorem dX12_store_124 : decode cX12_store 124 = .ok (.dup2, 1) := by decide +kernel
theorem dX12_store_125 : decode cX12_store 125 = .ok (.iaload, 1) := by decide +kernel
theorem dX12_store_126 : decode cX12_store 126 = .ok (.iconst 1, 1) := by decide +kernel
theorem dX12_store_127 : decode cX12_store 127 = .ok (.iadd, 1) := by decide +kernel
theorem dX12_store_128 : decode cX12_store 128 = .ok (.iastore, 1) := by decide +kernel
theorem dX12_store_129 : decode cX12_store 129 = .ok (.aload_n 0, 1) := by decide +kernel
theorem dX12_store_130 : decode cX12_store 130 = .ok (.iconst 0, 1) := by decide +kernel
theorem dX12_store_131 : decode cX12_store 131 = .ok (.putfield 59, 3) := by decide +kernel
theorem dX12_store_134 : decode cX12_store 134 = .ok (.aload_n 0, 1) := by decide +kernel
theorem dX12_store_135 : decode cX12_store 135 = .ok (.getfield 13, 3) := by decide +kernel
theorem dX12_store_138 : decode cX12_store 138 = .ok (.iconst 1, 1) := by decide +kernel
theorem dX12_store_139 : decode cX12_store 139 = .ok (.iaload, 1) := by decide +kernel
theorem dX12_store_140 : decode cX12_store 140 = .ok (.ireturn, 1) := by decide +kernel
set_option maxHeartbeats 4000000 in
set_option maxRecDepth 100000 in
theorem ct_X12_readStoreLine {E : xE} {z : Nat} {T : Nat → Nat × Int} {F : Nat → Nat → Int} {I : Nat → Int → Int} {P : Nat → Nat → Option Nat} {Y : Nat → Int → Option Nat} {m : Nat} {w : Int → Int} (hw : wM T P m) (hT : ∀ j : Int, -128 ≤ I (m + 6) j ∧ I (m + 6) j ≤ 127) {t : Int → Int} {e : Int} (ht : rTp t (I (m + 6)) e) (he : 0 ≤ e ∧ e ≤ 400) (h11 : F m 11 = e) {ad adv : Nat → Nat} {sio : Option Nat} (hW : ∀ u : State, E.2.2.2.2 u → oWs E.2.2.2.1 ad adv sio u) (hI : wI2 w) {dp c q : Int} (hqb : 0 ≤ q ∧ q ≤ e) (hqq : zSk t e q = q) : Ct E 14 mX12_readStoreLine 0 0 [.ref m] (z, T, fR F m (zLt t e q) (q) (dp) (c), upA I (m + 1) (w), P, Y) (rSz m z T F I P Y t e dp c (gSLn t e q w)) := by
  obtain ⟨⟨q0, q1, q2, q3⟩, -⟩ := id hw
  have htb : ∀ j : Int, 0 ≤ j → j < e → 0 ≤ t j ∧ t j ≤ 255 := fun j a b => (ht j a b).1
  have hO := hI.1.1.1
  have hlb := zLt_b (t := t) hqb.2
  refine Ct.of [some (.ref m)] kt_X12_readStoreLine rfl (Nat.le_of_ble_eq_true rfl) rfl (fun d hd => ?_)
  generalize hX : xN E _ _ _ = X
  refine xg_aloadn 1 dX12_readStoreLine_0 rfl rfl rfl ?_
  refine xg_ldcS 3 rfl (fun u hu => oWs_146 (hW u hu)) dX12_readStoreLine_1 rfl ?_
  refine xg_callV 6 12 [_] _ kv_X12_isWord ⟨_, _, rfl⟩ kl_RX12_111 dX12_readStoreLine_3 rfl (by assumption) (by omega) rfl rfl (Nat.le_of_ble_eq_true rfl) (by omega) ⟨Nat.le_refl _, Nat.le_refl _⟩ (cr_isWord hw hT ht he h11 (by omega) hW (i := 13) (by omega)) rfl ?_
  refine xg_deq 14 9 dX12_readStoreLine_6 rfl rfl (fun hb6 => ?_) (fun hb6 => ?_)
  · skip
    refine xg_aloadn 15 dX12_readStoreLine_14 rfl rfl rfl ?_
    refine xg_ldcS 17 rfl (fun u hu => oWs_151 (hW u hu)) dX12_readStoreLine_15 rfl ?_
    refine xg_callV 20 12 [_] _ kv_X12_isWord ⟨_, _, rfl⟩ kl_RX12_111 dX12_readStoreLine_17 rfl (by assumption) (by omega) rfl rfl (Nat.le_of_ble_eq_true rfl) (by omega) ⟨Nat.le_refl _, Nat.le_refl _⟩ (cr_isWord hw hT ht he h11 (by omega) hW (i := 4) (by omega)) rfl ?_
    refine xg_deq 28 23 dX12_readStoreLine_20 rfl rfl (fun hb20 => ?_) (fun hb20 => ?_)
    · skip
      refine xg_aloadn 29 dX12_readStoreLine_28 rfl rfl rfl ?_
      refine xg_ldcS 31 rfl (fun u hu => oWs_156 (hW u hu)) dX12_readStoreLine_29 rfl ?_
      refine xg_callV 34 12 [_] _ kv_X12_isWord ⟨_, _, rfl⟩ kl_RX12_111 dX12_readStoreLine_31 rfl (by assumption) (by omega) rfl rfl (Nat.le_of_ble_eq_true rfl) (by omega) ⟨Nat.le_refl _, Nat.le_refl _⟩ (cr_isWord hw hT ht he h11 (by omega) hW (i := 15) (by omega)) rfl ?_
      refine xg_deq 45 37 dX12_readStoreLine_34 rfl rfl (fun hb34 => ?_) (fun hb34 => ?_)
      · skip
        refine xg_aloadn 46 dX12_readStoreLine_45 rfl rfl rfl ?_
        refine xg_ldcS 48 rfl (fun u hu => oWs_161 (hW u hu)) dX12_readStoreLine_46 rfl ?_
        refine xg_callV 51 12 [_] _ kv_X12_isWord ⟨_, _, rfl⟩ kl_RX12_111 dX12_readStoreLine_48 rfl (by assumption) (by omega) rfl rfl (Nat.le_of_ble_eq_true rfl) (by omega) ⟨Nat.le_refl _, Nat.le_refl _⟩ (cr_isWord hw hT ht he h11 (by omega) hW (i := 5) (by omega)) rfl ?_
        refine xg_deq 61 54 dX12_readStoreLine_51 rfl rfl (fun hb51 => ?_) (fun hb51 => ?_)
        · skip
          refine xg_aloadn 62 dX12_readStoreLine_61 rfl rfl rfl ?_
          refine xg_ldcS 64 rfl (fun u hu => oWs_163 (hW u hu)) dX12_readStoreLine_62 rfl ?_
          refine xg_callV 67 12 [_] _ kv_X12_isWord ⟨_, _, rfl⟩ kl_RX12_111 dX12_readStoreLine_64 rfl (by assumption) (by omega) rfl rfl (Nat.le_of_ble_eq_true rfl) (by omega) ⟨Nat.le_refl _, Nat.le_refl _⟩ (cr_isWord hw hT ht he h11 (by omega) hW (i := 10) (by omega)) rfl ?_
          refine xg_deq 80 70 dX12_readStoreLine_67 rfl rfl (fun hb67 => ?_) (fun hb67 => ?_)
          · skip
            refine xg_aloadn 81 dX12_readStoreLine_80 rfl rfl rfl ?_
            refine xg_ldcS 83 rfl (fun u hu => oWs_165 (hW u hu)) dX12_readStoreLine_81 rfl ?_
            refine xg_callV 86 12 [_] _ kv_X12_isWord ⟨_, _, rfl⟩ kl_RX12_111 dX12_readStoreLine_83 rfl (by assumption) (by omega) rfl rfl (Nat.le_of_ble_eq_true rfl) (by omega) ⟨Nat.le_refl _, Nat.le_refl _⟩ (cr_isWord hw hT ht he h11 (by omega) hW (i := 8) (by omega)) rfl ?_
            refine xg_deq 95 89 dX12_readStoreLine_86 rfl rfl (fun hb86 => ?_) (fun hb86 => ?_)
            · skip
              refine xg_aloadn 96 dX12_readStoreLine_95 rfl rfl rfl ?_
              refine xg_ldcS 98 rfl (fun u hu => oWs_171 (hW u hu)) dX12_readStoreLine_96 rfl ?_
              refine xg_callV 101 12 [_] _ kv_X12_isWord ⟨_, _, rfl⟩ kl_RX12_111 dX12_readStoreLine_98 rfl (by assumption) (by omega) rfl rfl (Nat.le_of_ble_eq_true rfl) (by omega) ⟨Nat.le_refl _, Nat.le_refl _⟩ (cr_isWord hw hT ht he h11 (by omega) hW (i := 16) (by omega)) rfl ?_
              refine xg_deq 110 104 dX12_readStoreLine_101 rfl rfl (fun hb101 => ?_) (fun hb101 => ?_)
              · skip
                refine xg_aloadn 111 dX12_readStoreLine_110 rfl rfl rfl ?_
                refine xg_ldcS 113 rfl (fun u hu => oWs_173 (hW u hu)) dX12_readStoreLine_111 rfl ?_
                refine xg_callV 116 12 [_] _ kv_X12_isWord ⟨_, _, rfl⟩ kl_RX12_111 dX12_readStoreLine_113 rfl (by assumption) (by omega) rfl rfl (Nat.le_of_ble_eq_true rfl) (by omega) ⟨Nat.le_refl _, Nat.le_refl _⟩ (cr_isWord hw hT ht he h11 (by omega) hW (i := 6) (by omega)) rfl ?_
                refine xg_deq 136 119 dX12_readStoreLine_116 rfl rfl (fun hb116 => ?_) (fun hb116 => ?_)
                · skip
                  refine xg_iconst 137 dX12_readStoreLine_136 rfl ?_
                  subst hX
                  refine xg_zreturn dX12_readStoreLine_137 rfl (by first | exact bI_01 _ | omega) ⟨Nat.le_refl _, Nat.le_refl _⟩ ?_
                  rw [show gSLn t e q w = .inl q from by unfold gSLn; rw [if_neg (by omega), if_neg (by omega), if_neg (by omega), if_neg (by omega), if_neg (by omega), if_neg (by omega), if_neg (by omega), if_neg (by omega)]]
                  exact ⟨rfl, _, _, _, hO.1, xScr.rf, rfl⟩
                · have hw7 := zK_word (i := 6) (by omega) (by omega) htb (by omega : zK t e q = ((6 : Nat) : Int))
                  have hx7 := zX_b (t := t) hw7.1
                  have hz0 : zSk t e (zLt t e q) = zX t e q := by rw [hw7.2]; rfl
                  have hq0 : zSk t e (zX t e q) = zX t e q := zSk_sk (t := t) (e := e) (p := zLen t q e) (zLen_b (t := t) hw7.1).2 ⟨by have := zLen_b (t := t) hw7.1; omega, he.2⟩
                  refine xg_aloadn 120 dX12_readStoreLine_119 rfl rfl rfl ?_
                  refine xg_bipush 122 dX12_readStoreLine_120 rfl (by decide) ?_
                  refine xg_iconst 123 dX12_readStoreLine_122 rfl ?_
                  refine xg_sipush 126 dX12_readStoreLine_123 rfl (by decide) ?_
                  rcases hs7 : gNo t e (zX t e q) 0 999 (fun n => wS w 13 n) with f7 | ⟨w7, q7⟩
                  · skip
                    refine xg_callVe 129 12 [_, _, _] _ kv_X12_readNumber ⟨_, _, rfl⟩ kl_RX12_143 dX12_readStoreLine_126 rfl (by assumption) (by omega) rfl rfl (Nat.le_of_ble_eq_true rfl) (by omega) ⟨Nat.le_refl _, Nat.le_refl _⟩ (rSz.cg hs7 (cr_readNumber hw hT ht he h11 (p := zLt t e q) (q := zX t e q) (by omega) hz0 hO (k := 13) (lo := 0) (hi9 := 999) (by omega) (by omega))) rfl (fun v9 h9 e9 => ?_)
                    obtain ⟨rfl, p7, w7, I7, hR7, hX7, rfl⟩ := e9
                    refine xg_ifeq 136 132 dX12_readStoreLine_129 rfl rfl (by omega) (fun hb129 => ?_) (fun hb129 => ?_)
                    · skip
                      refine xg_iconst 137 dX12_readStoreLine_136 rfl ?_
                      subst hX
                      refine xg_zreturn dX12_readStoreLine_137 rfl (by first | exact bI_01 _ | omega) ⟨Nat.le_refl _, Nat.le_refl _⟩ ?_
                      rw [show gSLn t e q w = .inl f7 from by unfold gSLn; rw [if_neg (by omega), if_neg (by omega), if_neg (by omega), if_neg (by omega), if_neg (by omega), if_neg (by omega), if_neg (by omega), if_pos (by omega)]; exact hs7]
                      exact ⟨rfl, _, _, _, hR7, hX7, rfl⟩
                    · exfalso; omega
                  · skip
                    refine xg_callVe 129 12 [_, _, _] _ kv_X12_readNumber ⟨_, _, rfl⟩ kl_RX12_143 dX12_readStoreLine_126 rfl (by assumption) (by omega) rfl rfl (Nat.le_of_ble_eq_true rfl) (by omega) ⟨Nat.le_refl _, Nat.le_refl _⟩ (rSz.cg hs7 (cr_readNumber hw hT ht he h11 (p := zLt t e q) (q := zX t e q) (by omega) hz0 hO (k := 13) (lo := 0) (hi9 := 999) (by omega) (by omega))) rfl (fun v9 h9 e9 => ?_)
                    obtain ⟨rfl, p7, b7, I7, hz7, hp7, hX7, rfl⟩ := e9
                    refine xg_ifeq 136 132 dX12_readStoreLine_129 rfl rfl (by omega) (fun hb129 => ?_) (fun hb129 => ?_)
                    · exfalso; omega
                    · skip
                      refine xg_iconst 133 dX12_readStoreLine_132 rfl ?_
                      refine xg_goto 137 dX12_readStoreLine_133 rfl ?_
                      subst hX
                      refine xg_zreturn dX12_readStoreLine_137 rfl (by first | exact bI_01 _ | omega) ⟨Nat.le_refl _, Nat.le_refl _⟩ ?_
                      rw [show gSLn t e q w = .inr (w7, q7) from by unfold gSLn; rw [if_neg (by omega), if_neg (by omega), if_neg (by omega), if_neg (by omega), if_neg (by omega), if_neg (by omega), if_neg (by omega), if_pos (by omega)]; exact hs7]
                      exact ⟨rfl, _, _, _, hz7, hp7, hX7, rfl⟩
              · have hw6 := zK_word (i := 16) (by omega) (by omega) htb (by omega : zK t e q = ((16 : Nat) : Int))
                have hx6 := zX_b (t := t) hw6.1
                have hz0 : zSk t e (zLt t e q) = zX t e q := by rw [hw6.2]; rfl
                have hq0 : zSk t e (zX t e q) = zX t e q := zSk_sk (t := t) (e := e) (p := zLen t q e) (zLen_b (t := t) hw6.1).2 ⟨by have := zLen_b (t := t) hw6.1; omega, he.2⟩
                refine xg_aloadn 105 dX12_readStoreLine_104 rfl rfl rfl ?_
                refine xg_iconst 106 dX12_readStoreLine_105 rfl ?_
                refine xg_callV 109 12 [_] _ kv_X12_readPlan ⟨_, _, rfl⟩ kl_RX12_167 dX12_readStoreLine_106 rfl (by assumption) (by omega) rfl rfl (Nat.le_of_ble_eq_true rfl) (by omega) ⟨Nat.le_refl _, Nat.le_refl _⟩ (ct_X12_readPlan hw hO (b := true)) rfl ?_
                subst hX
                refine xg_zreturn dX12_readStoreLine_109 rfl (by first | exact bI_01 _ | omega) ⟨Nat.le_refl _, Nat.le_refl _⟩ ?_
                rw [show gSLn t e q w = .inr (wS (sHalt w) 3 1, zX t e q) from by unfold gSLn; rw [if_neg (by omega), if_neg (by omega), if_neg (by omega), if_neg (by omega), if_neg (by omega), if_neg (by omega), if_pos (by omega)]]
                exact ⟨rfl, _, _, _, hz0, ⟨by omega, by omega⟩, xScr.rf, rfl⟩
            · have hw5 := zK_word (i := 8) (by omega) (by omega) htb (by omega : zK t e q = ((8 : Nat) : Int))
              have hx5 := zX_b (t := t) hw5.1
              have hz0 : zSk t e (zLt t e q) = zX t e q := by rw [hw5.2]; rfl
              have hq0 : zSk t e (zX t e q) = zX t e q := zSk_sk (t := t) (e := e) (p := zLen t q e) (zLen_b (t := t) hw5.1).2 ⟨by have := zLen_b (t := t) hw5.1; omega, he.2⟩
              refine xg_aloadn 90 dX12_readStoreLine_89 rfl rfl rfl ?_
              refine xg_iconst 91 dX12_readStoreLine_90 rfl ?_
              refine xg_callV 94 12 [_] _ kv_X12_readPlan ⟨_, _, rfl⟩ kl_RX12_167 dX12_readStoreLine_91 rfl (by assumption) (by omega) rfl rfl (Nat.le_of_ble_eq_true rfl) (by omega) ⟨Nat.le_refl _, Nat.le_refl _⟩ (ct_X12_readPlan hw hO (b := false)) rfl ?_
              subst hX
              refine xg_zreturn dX12_readStoreLine_94 rfl (by first | exact bI_01 _ | omega) ⟨Nat.le_refl _, Nat.le_refl _⟩ ?_
              rw [show gSLn t e q w = .inr (wS (sHalt w) 3 0, zX t e q) from by unfold gSLn; rw [if_neg (by omega), if_neg (by omega), if_neg (by omega), if_neg (by omega), if_neg (by omega), if_pos (by omega)]]
              exact ⟨rfl, _, _, _, hz0, ⟨by omega, by omega⟩, xScr.rf, rfl⟩
          · have hw4 := zK_word (i := 10) (by omega) (by omega) htb (by omega : zK t e q = ((10 : Nat) : Int))
            have hx4 := zX_b (t := t) hw4.1
            have hz0 : zSk t e (zLt t e q) = zX t e q := by rw [hw4.2]; rfl
            have hq0 : zSk t e (zX t e q) = zX t e q := zSk_sk (t := t) (e := e) (p := zLen t q e) (zLen_b (t := t) hw4.1).2 ⟨by have := zLen_b (t := t) hw4.1; omega, he.2⟩
            refine xg_aloadn 71 dX12_readStoreLine_70 rfl rfl rfl ?_
            refine xg_bipush 73 dX12_readStoreLine_71 rfl (by decide) ?_
            refine xg_iconst 74 dX12_readStoreLine_73 rfl ?_
            refine xg_bipush 76 dX12_readStoreLine_74 rfl (by decide) ?_
            rcases hs4 : gNo t e (zX t e q) 0 9 (fun n => wS w 6 n) with f4 | ⟨w4, q4⟩
            · skip
              refine xg_callVe 79 12 [_, _, _] _ kv_X12_readNumber ⟨_, _, rfl⟩ kl_RX12_143 dX12_readStoreLine_76 rfl (by assumption) (by omega) rfl rfl (Nat.le_of_ble_eq_true rfl) (by omega) ⟨Nat.le_refl _, Nat.le_refl _⟩ (rSz.cg hs4 (cr_readNumber hw hT ht he h11 (p := zLt t e q) (q := zX t e q) (by omega) hz0 hO (k := 6) (lo := 0) (hi9 := 9) (by omega) (by omega))) rfl (fun v9 h9 e9 => ?_)
              obtain ⟨rfl, p4, w4, I4, hR4, hX4, rfl⟩ := e9
              subst hX
              refine xg_zreturn dX12_readStoreLine_79 rfl (by first | exact bI_01 _ | omega) ⟨Nat.le_refl _, Nat.le_refl _⟩ ?_
              rw [show gSLn t e q w = .inl f4 from by unfold gSLn; rw [if_neg (by omega), if_neg (by omega), if_neg (by omega), if_neg (by omega), if_pos (by omega)]; exact hs4]
              exact ⟨rfl, _, _, _, hR4, hX4, rfl⟩
            · skip
              refine xg_callVe 79 12 [_, _, _] _ kv_X12_readNumber ⟨_, _, rfl⟩ kl_RX12_143 dX12_readStoreLine_76 rfl (by assumption) (by omega) rfl rfl (Nat.le_of_ble_eq_true rfl) (by omega) ⟨Nat.le_refl _, Nat.le_refl _⟩ (rSz.cg hs4 (cr_readNumber hw hT ht he h11 (p := zLt t e q) (q := zX t e q) (by omega) hz0 hO (k := 6) (lo := 0) (hi9 := 9) (by omega) (by omega))) rfl (fun v9 h9 e9 => ?_)
              obtain ⟨rfl, p4, b4, I4, hz4, hp4, hX4, rfl⟩ := e9
              subst hX
              refine xg_zreturn dX12_readStoreLine_79 rfl (by first | exact bI_01 _ | omega) ⟨Nat.le_refl _, Nat.le_refl _⟩ ?_
              rw [show gSLn t e q w = .inr (w4, q4) from by unfold gSLn; rw [if_neg (by omega), if_neg (by omega), if_neg (by omega), if_neg (by omega), if_pos (by omega)]; exact hs4]
              exact ⟨rfl, _, _, _, hz4, hp4, hX4, rfl⟩
        · have hw3 := zK_word (i := 5) (by omega) (by omega) htb (by omega : zK t e q = ((5 : Nat) : Int))
          have hx3 := zX_b (t := t) hw3.1
          have hz0 : zSk t e (zLt t e q) = zX t e q := by rw [hw3.2]; rfl
          have hq0 : zSk t e (zX t e q) = zX t e q := zSk_sk (t := t) (e := e) (p := zLen t q e) (zLen_b (t := t) hw3.1).2 ⟨by have := zLen_b (t := t) hw3.1; omega, he.2⟩
          refine xg_aloadn 55 dX12_readStoreLine_54 rfl rfl rfl ?_
          refine xg_iconst 56 dX12_readStoreLine_55 rfl ?_
          refine xg_iconst 57 dX12_readStoreLine_56 rfl ?_
          rcases hs3 : gNo t e (zX t e q) 2 4 (fun n => wS (sHalt w) 4 n) with f3 | ⟨w3, q3⟩
          · skip
            refine xg_callVe 60 12 [_, _] _ kv_X12_readBound ⟨_, _, rfl⟩ kl_RX12_158 dX12_readStoreLine_57 rfl (by assumption) (by omega) rfl rfl (Nat.le_of_ble_eq_true rfl) (by omega) ⟨Nat.le_refl _, Nat.le_refl _⟩ (rSz.cg hs3 (cr_readBound hw hT ht he h11 (p := zLt t e q) (q := zX t e q) (by omega) hz0 hO (k := 4) (hi9 := 4) (by omega))) rfl (fun v9 h9 e9 => ?_)
            obtain ⟨rfl, p3, w3, I3, hR3, hX3, rfl⟩ := e9
            subst hX
            refine xg_zreturn dX12_readStoreLine_60 rfl (by first | exact bI_01 _ | omega) ⟨Nat.le_refl _, Nat.le_refl _⟩ ?_
            rw [show gSLn t e q w = .inl f3 from by unfold gSLn; rw [if_neg (by omega), if_neg (by omega), if_neg (by omega), if_pos (by omega)]; exact hs3]
            exact ⟨rfl, _, _, _, hR3, hX3, rfl⟩
          · skip
            refine xg_callVe 60 12 [_, _] _ kv_X12_readBound ⟨_, _, rfl⟩ kl_RX12_158 dX12_readStoreLine_57 rfl (by assumption) (by omega) rfl rfl (Nat.le_of_ble_eq_true rfl) (by omega) ⟨Nat.le_refl _, Nat.le_refl _⟩ (rSz.cg hs3 (cr_readBound hw hT ht he h11 (p := zLt t e q) (q := zX t e q) (by omega) hz0 hO (k := 4) (hi9 := 4) (by omega))) rfl (fun v9 h9 e9 => ?_)
            obtain ⟨rfl, p3, b3, I3, hz3, hp3, hX3, rfl⟩ := e9
            subst hX
            refine xg_zreturn dX12_readStoreLine_60 rfl (by first | exact bI_01 _ | omega) ⟨Nat.le_refl _, Nat.le_refl _⟩ ?_
            rw [show gSLn t e q w = .inr (w3, q3) from by unfold gSLn; rw [if_neg (by omega), if_neg (by omega), if_neg (by omega), if_pos (by omega)]; exact hs3]
            exact ⟨rfl, _, _, _, hz3, hp3, hX3, rfl⟩
      · have hw2 := zK_word (i := 15) (by omega) (by omega) htb (by omega : zK t e q = ((15 : Nat) : Int))
        have hx2 := zX_b (t := t) hw2.1
        have hz0 : zSk t e (zLt t e q) = zX t e q := by rw [hw2.2]; rfl
        have hq0 : zSk t e (zX t e q) = zX t e q := zSk_sk (t := t) (e := e) (p := zLen t q e) (zLen_b (t := t) hw2.1).2 ⟨by have := zLen_b (t := t) hw2.1; omega, he.2⟩
        refine xg_aloadn 38 dX12_readStoreLine_37 rfl rfl rfl ?_
        refine xg_iconst 39 dX12_readStoreLine_38 rfl ?_
        refine xg_bipush 41 dX12_readStoreLine_39 rfl (by decide) ?_
        rcases hs2 : gNo t e (zX t e q) 2 6 (fun n => wS (sHalt w) 5 n) with f2 | ⟨w2, q2⟩
        · skip
          refine xg_callVe 44 12 [_, _] _ kv_X12_readBound ⟨_, _, rfl⟩ kl_RX12_158 dX12_readStoreLine_41 rfl (by assumption) (by omega) rfl rfl (Nat.le_of_ble_eq_true rfl) (by omega) ⟨Nat.le_refl _, Nat.le_refl _⟩ (rSz.cg hs2 (cr_readBound hw hT ht he h11 (p := zLt t e q) (q := zX t e q) (by omega) hz0 hO (k := 5) (hi9 := 6) (by omega))) rfl (fun v9 h9 e9 => ?_)
          obtain ⟨rfl, p2, w2, I2, hR2, hX2, rfl⟩ := e9
          subst hX
          refine xg_zreturn dX12_readStoreLine_44 rfl (by first | exact bI_01 _ | omega) ⟨Nat.le_refl _, Nat.le_refl _⟩ ?_
          rw [show gSLn t e q w = .inl f2 from by unfold gSLn; rw [if_neg (by omega), if_neg (by omega), if_pos (by omega)]; exact hs2]
          exact ⟨rfl, _, _, _, hR2, hX2, rfl⟩
        · skip
          refine xg_callVe 44 12 [_, _] _ kv_X12_readBound ⟨_, _, rfl⟩ kl_RX12_158 dX12_readStoreLine_41 rfl (by assumption) (by omega) rfl rfl (Nat.le_of_ble_eq_true rfl) (by omega) ⟨Nat.le_refl _, Nat.le_refl _⟩ (rSz.cg hs2 (cr_readBound hw hT ht he h11 (p := zLt t e q) (q := zX t e q) (by omega) hz0 hO (k := 5) (hi9 := 6) (by omega))) rfl (fun v9 h9 e9 => ?_)
          obtain ⟨rfl, p2, b2, I2, hz2, hp2, hX2, rfl⟩ := e9
          subst hX
          refine xg_zreturn dX12_readStoreLine_44 rfl (by first | exact bI_01 _ | omega) ⟨Nat.le_refl _, Nat.le_refl _⟩ ?_
          rw [show gSLn t e q w = .inr (w2, q2) from by unfold gSLn; rw [if_neg (by omega), if_neg (by omega), if_pos (by omega)]; exact hs2]
          exact ⟨rfl, _, _, _, hz2, hp2, hX2, rfl⟩
    · have hw1 := zK_word (i := 4) (by omega) (by omega) htb (by omega : zK t e q = ((4 : Nat) : Int))
      have hx1 := zX_b (t := t) hw1.1
      have hz0 : zSk t e (zLt t e q) = zX t e q := by rw [hw1.2]; rfl
      have hq0 : zSk t e (zX t e q) = zX t e q := zSk_sk (t := t) (e := e) (p := zLen t q e) (zLen_b (t := t) hw1.1).2 ⟨by have := zLen_b (t := t) hw1.1; omega, he.2⟩
      refine xg_aloadn 24 dX12_readStoreLine_23 rfl rfl rfl ?_
      rcases hs1 : gTab t e (zX t e q) w with f1 | ⟨w1, q1⟩
      · skip
        refine xg_callVe 27 12 [] _ kv_X12_readTable ⟨_, _, rfl⟩ kl_RX12_153 dX12_readStoreLine_24 rfl (by assumption) (by omega) rfl rfl (Nat.le_of_ble_eq_true rfl) (by omega) ⟨Nat.le_refl _, Nat.le_refl _⟩ (rSz.cg hs1 (ct_X12_readTable hw hT ht he h11 hW hI (p := zLt t e q) (q := zX t e q) (by omega) hz0 (by omega))) rfl (fun v9 h9 e9 => ?_)
        obtain ⟨rfl, p1, w1, I1, hR1, hX1, rfl⟩ := e9
        subst hX
        refine xg_zreturn dX12_readStoreLine_27 rfl (by first | exact bI_01 _ | omega) ⟨Nat.le_refl _, Nat.le_refl _⟩ ?_
        rw [show gSLn t e q w = .inl f1 from by unfold gSLn; rw [if_neg (by omega), if_pos (by omega)]; exact hs1]
        exact ⟨rfl, _, _, _, hR1, hX1, rfl⟩
      · skip
        refine xg_callVe 27 12 [] _ kv_X12_readTable ⟨_, _, rfl⟩ kl_RX12_153 dX12_readStoreLine_24 rfl (by assumption) (by omega) rfl rfl (Nat.le_of_ble_eq_true rfl) (by omega) ⟨Nat.le_refl _, Nat.le_refl _⟩ (rSz.cg hs1 (ct_X12_readTable hw hT ht he h11 hW hI (p := zLt t e q) (q := zX t e q) (by omega) hz0 (by omega))) rfl (fun v9 h9 e9 => ?_)
        obtain ⟨rfl, p1, b1, I1, hz1, hp1, hX1, rfl⟩ := e9
        subst hX
        refine xg_zreturn dX12_readStoreLine_27 rfl (by first | exact bI_01 _ | omega) ⟨Nat.le_refl _, Nat.le_refl _⟩ ?_
        rw [show gSLn t e q w = .inr (w1, q1) from by unfold gSLn; rw [if_neg (by omega), if_pos (by omega)]; exact hs1]
        exact ⟨rfl, _, _, _, hz1, hp1, hX1, rfl⟩
  · have hw0 := zK_word (i := 13) (by omega) (by omega) htb (by omega : zK t e q = ((13 : Nat) : Int))
    have hx0 := zX_b (t := t) hw0.1
    have hz0 : zSk t e (zLt t e q) = zX t e q := by rw [hw0.2]; rfl
    have hq0 : zSk t e (zX t e q) = zX t e q := zSk_sk (t := t) (e := e) (p := zLen t q e) (zLen_b (t := t) hw0.1).2 ⟨by have := zLen_b (t := t) hw0.1; omega, he.2⟩
    refine xg_aloadn 10 dX12_readStoreLine_9 rfl rfl rfl ?_
    rcases hs0 : gRun t e q w with f0 | ⟨w0, q0⟩
    · skip
      refine xg_callVe 13 12 [] _ kv_X12_readRun ⟨_, _, rfl⟩ kl_RX12_148 dX12_readStoreLine_10 rfl (by assumption) (by omega) rfl rfl (Nat.le_of_ble_eq_true rfl) (by omega) ⟨Nat.le_refl _, Nat.le_refl _⟩ (rSz.cg hs0 (ct_X12_readRun hw hT ht he h11 hW hI (p := zLt t e q) (q := q) (by omega) hz0 hqb (by omega))) rfl (fun v9 h9 e9 => ?_)
      obtain ⟨rfl, p0, w0, I0, hR0, hX0, rfl⟩ := e9
      subst hX
      refine xg_zreturn dX12_readStoreLine_13 rfl (by first | exact bI_01 _ | omega) ⟨Nat.le_refl _, Nat.le_refl _⟩ ?_
      rw [show gSLn t e q w = .inl f0 from by unfold gSLn; rw [if_pos (by omega)]; exact hs0]
      exact ⟨rfl, _, _, _, hR0, hX0, rfl⟩
    · skip
      refine xg_callVe 13 12 [] _ kv_X12_readRun ⟨_, _, rfl⟩ kl_RX12_148 dX12_readStoreLine_10 rfl (by assumption) (by omega) rfl rfl (Nat.le_of_ble_eq_true rfl) (by omega) ⟨Nat.le_refl _, Nat.le_refl _⟩ (rSz.cg hs0 (ct_X12_readRun hw hT ht he h11 hW hI (p := zLt t e q) (q := q) (by omega) hz0 hqb (by omega))) rfl (fun v9 h9 e9 => ?_)
      obtain ⟨rfl, p0, b0, I0, hz0, hp0, hX0, rfl⟩ := e9
      subst hX
      refine xg_zreturn dX12_readStoreLine_13 rfl (by first | exact bI_01 _ | omega) ⟨Nat.le_refl _, Nat.le_refl _⟩ ?_
      rw [show gSLn t e q w = .inr (w0, q0) from by unfold gSLn; rw [if_pos (by omega)]; exact hs0]
      exact ⟨rfl, _, _, _, hz0, hp0, hX0, rfl⟩

set_option maxHeartbeats 4000000 in
set_option maxRecDepth 100000 in
theorem ct_X12_readLine_store {E : xE} {z : Nat} {T : Nat → Nat × Int} {F : Nat → Nat → Int} {I : Nat → Int → Int} {P : Nat → Nat → Option Nat} {Y : Nat → Int → Option Nat} {m : Nat} {w : Int → Int} (hw : wM T P m) (hT : ∀ j : Int, -128 ≤ I (m + 6) j ∧ I (m + 6) j ≤ 127) {t : Int → Int} {e : Int} (ht : rTp t (I (m + 6)) e) (he : 0 ≤ e ∧ e ≤ 400) (h11 : F m 11 = e) {p b dp c q : Int} (hp : 0 ≤ p ∧ p ≤ e) (hq : zSk t e p = q) {ad adv : Nat → Nat} {sio : Option Nat} (hW : ∀ u : State, E.2.2.2.2 u → oWs E.2.2.2.1 ad adv sio u) (hI : wI2 w) {n : Int} (hn : 0 ≤ n ∧ n < 14) : Ct E 15 mX12_readLine 0 0 [.ref m, J 1, J n] (z, T, fR F m (p) (b) (dp) (c), upA I (m + 1) (w), P, Y) (rSz m z T F I P Y t e dp c (gSLn t e q w)) := by
  obtain ⟨⟨q0, q1, q2, q3⟩, -⟩ := id hw
  have hqb := zSk_b (t := t) hp.2
  rw [hq] at hqb
  have htb : ∀ j : Int, 0 ≤ j → j < e → 0 ≤ t j ∧ t j ≤ 255 := fun j a b => (ht j a b).1
  have hqq := zSk_at hp he.2 hq
  refine Ct.of [some (.ref m), some (J 1), some (J n)] kt_X12_readLine rfl (Nat.le_of_ble_eq_true rfl) rfl (fun d hd => ?_)
  generalize hX : xN E _ _ _ = X
  refine xg_aloadn 1 dX12_readLine_0 rfl rfl rfl ?_
  refine xg_callV 4 12 [] _ kv_X12_letters ⟨_, _, rfl⟩ kl_RX12_108 dX12_readLine_1 rfl (by assumption) (by omega) rfl rfl (Nat.le_of_ble_eq_true rfl) (by omega) ⟨Nat.le_refl _, Nat.le_refl _⟩ (cr_letters hw hT ht he h11 hp hq) rfl ?_
  refine xg_iloadn 5 dX12_readLine_4 rfl rfl rfl ?_
  refine xg_iloadn 6 dX12_readLine_5 rfl rfl rfl ?_
  refine xg_ifeq 14 9 dX12_readLine_6 rfl rfl (by omega) (fun hb6 => ?_) (fun hb6 => ?_)
  · exfalso; omega
  · skip
    refine xg_bipush 11 dX12_readLine_9 rfl (by decide) ?_
    refine xg_goto 16 dX12_readLine_11 rfl ?_
    refine xg_icge 45 19 dX12_readLine_16 rfl rfl (by omega) (fun hb16 => ?_) (fun hb16 => ?_)
    · exfalso; omega
    · skip
      refine xg_iloadn 20 dX12_readLine_19 rfl rfl rfl ?_
      refine xg_ifeq 33 23 dX12_readLine_20 rfl rfl (by omega) (fun hb20 => ?_) (fun hb20 => ?_)
      · exfalso; omega
      · skip
        refine xg_aloadn 24 dX12_readLine_23 rfl rfl rfl ?_
        rcases hs3 : gSLn t e q w with f3 | ⟨w3, q3⟩
        · skip
          refine xg_callVe 27 12 [] _ kv_X12_readStoreLine ⟨_, _, rfl⟩ kl_RX12_234 dX12_readLine_24 rfl (by assumption) (by omega) rfl rfl (Nat.le_of_ble_eq_true rfl) (by omega) ⟨Nat.le_refl _, Nat.le_refl _⟩ (rSz.cg hs3 (ct_X12_readStoreLine hw hT ht he h11 hW hI (by omega) hqq)) rfl (fun v9 h9 e9 => ?_)
          obtain ⟨rfl, p3, w3, I3, hR3, hX3, rfl⟩ := e9
          refine xg_ifeq 45 30 dX12_readLine_27 rfl rfl (by omega) (fun hb27 => ?_) (fun hb27 => ?_)
          · skip
            refine xg_iconst 46 dX12_readLine_45 rfl ?_
            subst hX
            refine xg_zreturn dX12_readLine_46 rfl (by first | exact bI_01 _ | omega) ⟨Nat.le_refl _, Nat.le_refl _⟩ ?_
            rw [hs3]
            exact ⟨rfl, _, _, _, hR3, hX3, rfl⟩
          · exfalso; omega
        · skip
          refine xg_callVe 27 12 [] _ kv_X12_readStoreLine ⟨_, _, rfl⟩ kl_RX12_234 dX12_readLine_24 rfl (by assumption) (by omega) rfl rfl (Nat.le_of_ble_eq_true rfl) (by omega) ⟨Nat.le_refl _, Nat.le_refl _⟩ (rSz.cg hs3 (ct_X12_readStoreLine hw hT ht he h11 hW hI (by omega) hqq)) rfl (fun v9 h9 e9 => ?_)
          obtain ⟨rfl, p3, b3, I3, hz3, hp3, hX3, rfl⟩ := e9
          refine xg_ifeq 45 30 dX12_readLine_27 rfl rfl (by omega) (fun hb27 => ?_) (fun hb27 => ?_)
          · exfalso; omega
          · skip
            refine xg_goto 41 dX12_readLine_30 rfl ?_
            refine xg_iconst 42 dX12_readLine_41 rfl ?_
            refine xg_goto 46 dX12_readLine_42 rfl ?_
            subst hX
            refine xg_zreturn dX12_readLine_46 rfl (by first | exact bI_01 _ | omega) ⟨Nat.le_refl _, Nat.le_refl _⟩ ?_
            rw [hs3]
            exact ⟨rfl, _, _, _, hz3, hp3, hX3, rfl⟩

set_option maxHeartbeats 4000000 in
set_option maxRecDepth 100000 in
theorem ct_X12_readAll_store {E : xE} {z : Nat} {T : Nat → Nat × Int} {F : Nat → Nat → Int} {I : Nat → Int → Int} {P : Nat → Nat → Option Nat} {Y : Nat → Int → Option Nat} {m : Nat} {w : Int → Int} (hw : wM T P m) (hT : ∀ j : Int, -128 ≤ I (m + 6) j ∧ I (m + 6) j ≤ 127) {t : Int → Int} {e : Int} (ht : rTp t (I (m + 6)) e) (he : 0 ≤ e ∧ e ≤ 400) (h9 : F m 9 = e) {ad adv : Nat → Nat} {sio : Option Nat} (hW : ∀ u : State, E.2.2.2.2 u → oWs E.2.2.2.1 ad adv sio u) (hI : wI2 w) : Ct E 49 mX12_readAll 0 0 [.ref m, J 1] (z, T, F, upA I (m + 1) w, P, Y) (rStA m z T (fUse F m) I P Y (gSto t e w)) := by
  obtain ⟨⟨q0, q1, q2, q3⟩, -⟩ := id hw
  have h11 : fUse F m m 11 = e := (fUse_n F m).1.trans h9
  have htb : ∀ j : Int, 0 ≤ j → j < e → 0 ≤ t j ∧ t j ≤ 255 := fun j a b => (ht j a b).1
  have hq0 := zSk_b (t := t) he.1
  have hqq0 := zSk_sk (t := t) he.1 ⟨Int.le_refl 0, he.2⟩
  refine Ct.of [some (.ref m), some (J 1), none] kt_X12_readAll rfl (Nat.le_of_ble_eq_true rfl) rfl (fun d hd => ?_)
  generalize hX : xN E _ _ _ = X
  refine xg_aloadn 1 dX12_readAll_0 rfl rfl rfl ?_
  refine xg_callV 4 12 [] _ kv_X12_uses ⟨_, _, rfl⟩ kl_RX12_240 dX12_readAll_1 rfl (by assumption) (by omega) rfl rfl (Nat.le_of_ble_eq_true rfl) (by omega) ⟨Nat.le_refl _, Nat.le_refl _⟩ (ct_X12_uses hw) rfl ?_
  refine xg_aloadn 5 dX12_readAll_4 rfl rfl rfl ?_
  refine xg_iconst 6 dX12_readAll_5 rfl ?_
  refine xg_putI 9 kf_RX12_175 dX12_readAll_6 rfl (by assumption) ?_
  rw [fUse_R]
  refine xg_aloadn 10 dX12_readAll_9 rfl rfl rfl ?_
  refine xg_callV 13 12 [] _ kv_X12_blanks ⟨_, _, rfl⟩ kl_RX12_96 dX12_readAll_10 rfl (by assumption) (by omega) rfl rfl (Nat.le_of_ble_eq_true rfl) (by omega) ⟨Nat.le_refl _, Nat.le_refl _⟩ (cr_blanks hw hT ht he h11 (p := 0) (q := (zSk t e 0)) (by omega) rfl) rfl ?_
  have hk0 := zK_52 (t := t) (e := e) (q := (zSk t e 0)) htb (by omega) (by omega)
  refine xg_aloadn 14 dX12_readAll_13 rfl rfl rfl ?_
  refine xg_getI 17 kf_RX12_83 dX12_readAll_14 rfl (by assumption) ?_
  rw [fR_10]
  refine xg_aloadn 18 dX12_readAll_17 rfl rfl rfl ?_
  refine xg_getI 21 kf_RX12_86 dX12_readAll_18 rfl (by assumption) ?_
  rw [fR_o (by omega), h11]
  refine xg_icne 26 24 dX12_readAll_21 rfl rfl (by omega) (fun hb21 => ?_) (fun hb21 => ?_)
  · skip
    refine xg_iconst 27 dX12_readAll_26 rfl ?_
    refine xg_istoren 28 _ dX12_readAll_27 rfl rfl rfl (by decide) (Or.inr rfl) ?_
    have loop28 : ∀ (mm : Nat) (n : Nat) (q p b dd c1 : Int) (w1 : Int → Int) (I1 : Nat → Int → Int), n ≤ 14 → (0 ≤ p ∧ p ≤ e) → zSk t e p = q → (0 ≤ q ∧ q ≤ e) → wI2 w1 → xScr m I I1 → gSto t e w = gStL t e (14 - n) q w1 → 20 - (n : Int) < (mm : Int) → xG E mX12_readAll (xR d 0 0) X 28 [some (.ref m), some (J 1), some (J (n : Int))] [] (z, T, fR (fUse F m) m (p) (b) (dd) (c1), upA I1 (m + 1) (w1), P, Y) 0 0 := by
      intro mm
      induction mm with
      | zero => intro n q p b dd c1 w1 I1 hn hp hq hqb hI1 hX1 hg hm; exfalso; omega
      | succ mm ih =>
        intro n q p b dd c1 w1 I1 hn hp hq hqb hI1 hX1 hg hm
        have hqq := zSk_at hp he.2 hq
        have hT1 : ∀ j : Int, -128 ≤ I1 (m + 6) j ∧ I1 (m + 6) j ≤ 127 := by rw [hX1 _ (by omega)]; exact hT
        have ht1 : rTp t (I1 (m + 6)) e := by rw [hX1 _ (by omega)]; exact ht
        refine xg_aloadn 29 dX12_readAll_28 rfl rfl rfl ?_
        refine xg_iloadn 30 dX12_readAll_29 rfl rfl rfl ?_
        refine xg_iloadn 31 dX12_readAll_30 rfl rfl rfl ?_
        rcases (show n = 14 ∨ n < 14 by omega) with hn12 | hn12
        rotate_left
        rcases hs3 : gSLn t e q w1 with f3 | ⟨w3, q3⟩
        rotate_left 2
        rotate_left
        · skip
          refine xg_callVe 34 12 [_, _] _ kv_X12_readLine ⟨_, _, rfl⟩ kl_RX12_243 dX12_readAll_31 rfl (by assumption) (by omega) rfl rfl (Nat.le_of_ble_eq_true rfl) (by omega) ⟨Nat.le_refl _, Nat.le_refl _⟩ ((rSz.cg hs3 (ct_X12_readLine_store hw hT1 ht1 he h11 hp hq hW hI1 (n := (n : Int)) (by omega)))) rfl (fun v9 h9 e9 => ?_)
          obtain ⟨rfl, p3, w4, I3, hR3, hX3, rfl⟩ := e9
          refine xg_ifne 39 37 dX12_readAll_34 rfl rfl (by omega) (fun hb34 => ?_) (fun hb34 => ?_)
          · exfalso; omega
          · skip
            refine xg_iconst 38 dX12_readAll_37 rfl ?_
            subst hX
            refine xg_ireturn dX12_readAll_38 rfl ⟨Nat.le_refl _, Nat.le_refl _⟩ ?_
            rw [hg, show 14 - n = 14 - (n + 1) + 1 by omega, gStL_1 hs3]
            exact ⟨rfl, _, _, _, _, _, hR3, hX1.tr hX3, rfl⟩
        · have hok := gSLn_ok (t := t) (e := e) (q := q) hI1
          rw [hs3] at hok
          obtain ⟨ho1, ho2, ho3, ho4⟩ := hok
          refine xg_callVe 34 12 [_, _] _ kv_X12_readLine ⟨_, _, rfl⟩ kl_RX12_243 dX12_readAll_31 rfl (by assumption) (by omega) rfl rfl (Nat.le_of_ble_eq_true rfl) (by omega) ⟨Nat.le_refl _, Nat.le_refl _⟩ ((rSz.cg hs3 (ct_X12_readLine_store hw hT1 ht1 he h11 hp hq hW hI1 (n := (n : Int)) (by omega)))) rfl (fun v9 h9 e9 => ?_)
          obtain ⟨rfl, p3, b3, I3, hz3, hp3, hX3, rfl⟩ := e9
          have hX4 := hX1.tr hX3
          have hT3 : ∀ j : Int, -128 ≤ I3 (m + 6) j ∧ I3 (m + 6) j ≤ 127 := by rw [hX4 _ (by omega)]; exact hT
          have ht3 : rTp t (I3 (m + 6)) e := by rw [hX4 _ (by omega)]; exact ht
          refine xg_ifne 39 37 dX12_readAll_34 rfl rfl (by omega) (fun hb34 => ?_) (fun hb34 => ?_)
          · skip
            refine xg_aloadn 40 dX12_readAll_39 rfl rfl rfl ?_
            refine xg_callV 43 12 [] _ kv_X12_blanks ⟨_, _, rfl⟩ kl_RX12_96 dX12_readAll_40 rfl (by assumption) (by omega) rfl rfl (Nat.le_of_ble_eq_true rfl) (by omega) ⟨Nat.le_refl _, Nat.le_refl _⟩ (cr_blanks hw hT3 ht3 he h11 (p := p3) (q := q3) hp3 hz3) rfl ?_
            have hk3 := zK_52 (t := t) (e := e) (q := q3) htb (by omega) (by omega)
            refine xg_aloadn 44 dX12_readAll_43 rfl rfl rfl ?_
            refine xg_getI 47 kf_RX12_83 dX12_readAll_44 rfl (by assumption) ?_
            rw [fR_10]
            refine xg_aloadn 48 dX12_readAll_47 rfl rfl rfl ?_
            refine xg_getI 51 kf_RX12_86 dX12_readAll_48 rfl (by assumption) ?_
            rw [fR_o (by omega), h11]
            refine xg_icne 58 54 dX12_readAll_51 rfl rfl (by omega) (fun hb51 => ?_) (fun hb51 => ?_)
            · skip
              refine xg_aloadn 59 dX12_readAll_58 rfl rfl rfl ?_
              refine xg_bipush 61 dX12_readAll_59 rfl (by decide) ?_
              refine xg_bipush 63 dX12_readAll_61 rfl (by decide) ?_
              refine xg_callV 66 12 [_, _] _ kv_X12_isAt ⟨_, _, rfl⟩ kl_RX12_89 dX12_readAll_63 rfl (by assumption) (by omega) rfl rfl (Nat.le_of_ble_eq_true rfl) (by omega) ⟨Nat.le_refl _, Nat.le_refl _⟩ (cr_isAt hw hT3 ht3 he h11 (q := q3) (by omega) (ch := 59) (by decide)) rfl ?_
              refine xg_dne 71 69 dX12_readAll_66 rfl rfl (fun hb66 => ?_) (fun hb66 => ?_)
              · have hs9 := zX_s htb (by omega) (c := 59) (by decide) hb66
                have hx9 := zX_b (t := t) hs9.1
                refine xg_aloadn 72 dX12_readAll_71 rfl rfl rfl ?_
                refine xg_dup 73 dX12_readAll_72 rfl rfl ?_
                refine xg_getI 76 kf_RX12_83 dX12_readAll_73 rfl (by assumption) ?_
                rw [fR_10]
                refine xg_iconst 77 dX12_readAll_76 rfl ?_
                refine xg_iadd 78 dX12_readAll_77 rfl ?_
                refine xg_putI 81 kf_RX12_83 dX12_readAll_78 rfl (by assumption) ?_
                rw [fR_s10]
                refine xg_iinc 84 _ dX12_readAll_81 rfl rfl rfl rfl (by decide) (Or.inr rfl) ?_
                refine xg_goto 28 dX12_readAll_84 rfl ?_
                exact xg_weak _ (xle_s rfl (xle_s rfl (xle_s (by rw [show ((n + 1 : Nat) : Int) = (n : Int) + 1 by omega]) xle_0))) (ih (n + 1) (zX t e q3) (q3 + 1) _ _ _ w3 I3 (by omega) (by omega) hs9.2 ⟨by omega, by omega⟩ ho1 hX4 (by rw [hg, show 14 - n = 14 - (n + 1) + 1 by omega, gStL_3 hs3 (by omega) (by omega)]) (by omega))
              · skip
                refine xg_iconst 70 dX12_readAll_69 rfl ?_
                subst hX
                refine xg_ireturn dX12_readAll_70 rfl ⟨Nat.le_refl _, Nat.le_refl _⟩ ?_
                rw [hg, show 14 - n = 14 - (n + 1) + 1 by omega, gStL_4 hs3 (by omega) (by omega)]
                exact ⟨rfl, _, _, _, _, _, ho1.1.1.1.1, hX4, rfl⟩
            · skip
              refine xg_iloadn 55 dX12_readAll_54 rfl rfl rfl ?_
              refine xg_iconst 56 dX12_readAll_55 rfl ?_
              refine xg_iadd 57 dX12_readAll_56 rfl ?_
              subst hX
              refine xg_ireturn dX12_readAll_57 rfl ⟨Nat.le_refl _, Nat.le_refl _⟩ ?_
              rw [hg, show 14 - n = 14 - (n + 1) + 1 by omega, gStL_2 hs3 (by omega)]
              exact ⟨(n : Int) + 1, by omega, rfl, _, _, _, _, _, hX4, rfl⟩
          · exfalso; omega
        · subst hn12
          refine xg_callVe 34 12 [_, _] _ kv_X12_readLine ⟨_, _, rfl⟩ kl_RX12_243 dX12_readAll_31 rfl (by assumption) (by omega) rfl rfl (Nat.le_of_ble_eq_true rfl) (by omega) ⟨Nat.le_refl _, Nat.le_refl _⟩ (ct_X12_readLine_far hw hT1 ht1 he h11 hp hq hI1.1.1.1.1 (b0 := true) (n := ((14 : Nat) : Int)) (by decide)) rfl (fun v9 h9 e9 => ?_)
          obtain ⟨rfl, rfl⟩ := e9
          refine xg_ifne 39 37 dX12_readAll_34 rfl rfl (by omega) (fun hb34 => ?_) (fun hb34 => ?_)
          · exfalso; omega
          · skip
            refine xg_iconst 38 dX12_readAll_37 rfl ?_
            subst hX
            refine xg_ireturn dX12_readAll_38 rfl ⟨Nat.le_refl _, Nat.le_refl _⟩ ?_
            rw [hg]
            exact ⟨rfl, _, _, _, _, _, hI1.1.1.1.1, hX1, rfl⟩
    exact xg_weak _ (xle_s rfl (xle_s rfl (xle_s rfl xle_0))) (loop28 50 0 (zSk t e 0) (zSk t e 0) _ _ 0 w I (by omega) (by omega) hqq0 ⟨by omega, by omega⟩ hI xScr.rf (by unfold gSto; rw [if_neg (by omega)]) (by omega))
  · skip
    refine xg_iconst 25 dX12_readAll_24 rfl ?_
    subst hX
    refine xg_ireturn dX12_readAll_25 rfl ⟨Nat.le_refl _, Nat.le_refl _⟩ ?_
    rw [show gSto t e w = .inr w by unfold gSto; rw [if_pos (by omega)]]
    exact ⟨0, by omega, rfl, _, _, _, _, _, xScr.rf, rfl⟩

