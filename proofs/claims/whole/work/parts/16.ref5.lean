theorem wS_id (w : Int → Int) (k : Int) : wS w k (w k) = w := by funext j; unfold wS; split <;> simp_all
theorem wS_wS (w : Int → Int) (k a b : Int) : wS (wS w k a) k b = wS w k b := by funext j; unfold wS; split <;> rfl
/-- what a cell of the world may hold -/
def wCell (i v : Int) : Prop := (-2147483648 ≤ v ∧ v < 2147483648) ∧ (i ≠ 0 ∨ (0 ≤ v ∧ v ≤ 12)) ∧ (i ≠ 1 ∨ (0 ≤ v ∧ v ≤ 12)) ∧ (i ≠ 2 ∨ v = 0 ∨ v = 1) ∧ (i ≠ 3 ∨ v = 0 ∨ v = 1) ∧ (i ≠ 4 ∨ (2 ≤ v ∧ v ≤ 4)) ∧ (i ≠ 5 ∨ (2 ≤ v ∧ v ≤ 6)) ∧ (i ≠ 6 ∨ (0 ≤ v ∧ v ≤ 9)) ∧ (i < 7 ∨ 12 < i ∨ (0 ≤ v ∧ v ≤ 99999)) ∧ (i ≠ 13 ∨ (0 ≤ v ∧ v ≤ 9999)) ∧ (i ≠ 14 ∨ (0 ≤ v ∧ v ≤ 60)) ∧ (i ≠ 16 ∨ v = 0 ∨ v = 1) ∧ (i ≠ 17 ∨ (0 ≤ v ∧ v ≤ 3)) ∧ (i ≠ 18 ∨ (0 ≤ v ∧ v ≤ 60)) ∧ (i < 19 ∨ 1663 ≤ i ∨ (-1 ≤ v ∧ v ≤ 100))
theorem wOk_iff {w : Int → Int} : wOk w ↔ ∀ i, wCell i (w i) := by
  constructor
  · intro h i
    obtain ⟨hR, o0, o1, o2, o3, o4, o5, o6, oc, o13, o14, o16, o17, o18, ov⟩ := h
    have h1 := hR i
    have h2 := oc i
    have h3 := ov i
    unfold wCell
    by_cases e0 : i = 0; · subst e0; omega
    by_cases e1 : i = 1; · subst e1; omega
    by_cases e2 : i = 2; · subst e2; omega
    by_cases e3 : i = 3; · subst e3; omega
    by_cases e4 : i = 4; · subst e4; omega
    by_cases e5 : i = 5; · subst e5; omega
    by_cases e6 : i = 6; · subst e6; omega
    by_cases e13 : i = 13; · subst e13; omega
    by_cases e14 : i = 14; · subst e14; omega
    by_cases e16 : i = 16; · subst e16; omega
    by_cases e17 : i = 17; · subst e17; omega
    by_cases e18 : i = 18; · subst e18; omega
    by_cases e7 : 7 ≤ i ∧ i ≤ 12
    · have := h2 e7.1 e7.2; omega
    by_cases e19 : 19 ≤ i ∧ i < 1663
    · have := h3 e19.1 e19.2; omega
    omega
  · intro h
    have g := fun i => (show wCell i (w i) from h i)
    unfold wCell at g
    refine ⟨fun i => (g i).1, ?_, ?_, ?_, ?_, ?_, ?_, ?_, fun i h1 h2 => ?_, ?_, ?_, ?_, ?_, ?_, fun i h1 h2 => ?_⟩
    · have := g 0; omega
    · have := g 1; omega
    · have := g 2; omega
    · have := g 3; omega
    · have := g 4; omega
    · have := g 5; omega
    · have := g 6; omega
    · have := g i; omega
    · have := g 13; omega
    · have := g 14; omega
    · have := g 16; omega
    · have := g 17; omega
    · have := g 18; omega
    · have := g i; omega
theorem wOk_S {w : Int → Int} (h : wOk w) (i v : Int) (hv : wCell i v) : wOk (wS w i v) := by
  rw [wOk_iff] at h ⊢
  intro j
  unfold wS
  split
  · rename_i e; subst e; exact hv
  · exact h j
def wLk (w : Int → Int) (k : Int) : Int → Int := fun j => if 1663 + k < j ∧ j < 1903 then w (j - 4) else w j
theorem wLk_0 (w : Int → Int) : wLk w 239 = w := by funext j; exact if_neg (by omega)
theorem wLk_s (w : Int → Int) (k : Int) (h : 4 ≤ k ∧ k ≤ 239) : wS (wLk w k) (1663 + k) (wLk w k (1663 + k - 4)) = wLk w (k + -1) := by
  funext j
  have e : wLk w k (1663 + k - 4) = w (1663 + k - 4) := if_neg (by omega)
  rw [e]
  unfold wS wLk
  by_cases hj : j = 1663 + k
  · subst hj
    rw [if_pos rfl, if_pos (by omega)]
  · rw [if_neg hj]
    by_cases h1 : 1663 + k < j ∧ j < 1903
    · rw [if_pos h1, if_pos (by omega)]
    · rw [if_neg h1, if_neg (by omega)]
theorem wOk_Lk {w : Int → Int} (h : wOk w) (k : Int) (hk : 3 ≤ k) : wOk (wLk w k) := by
  rw [wOk_iff] at h ⊢
  intro j
  unfold wLk
  split
  · have h1 := (h (j - 4)).1
    unfold wCell
    omega
  · exact h j
def sTold (w : Int → Int) (a b c : Int) : Int → Int :=
  wS (wS (wS (wS (wS (wLk w 3) 1663 (wLk w 3 13)) 1664 a) 1665 b) 1666 c) 14 (min 60 (wS (wS (wS (wS (wLk w 3) 1663 (wLk w 3 13)) 1664 a) 1665 b) 1666 c 14 + 1))
theorem wLk_lo (w : Int → Int) {k j : Int} (hj : j < 1663) (hk : 3 ≤ k) : wLk w k j = w j := if_neg (by omega)
theorem sTold_14 (w : Int → Int) (a b c : Int) : sTold w a b c = wS (wS (wS (wS (wS (wLk w 3) 1663 (w 13)) 1664 a) 1665 b) 1666 c) 14 (min 60 (w 14 + 1)) := by
  unfold sTold
  rw [wLk_lo w (by omega) (by omega), wS_ne _ _ _ (by omega), wS_ne _ _ _ (by omega), wS_ne _ _ _ (by omega), wS_ne _ _ _ (by omega), wLk_lo w (by omega) (by omega)]
theorem wOk_told {w : Int → Int} (h : wOk w) {a b c : Int} (ha : -2147483648 ≤ a ∧ a < 2147483648) (hb : -2147483648 ≤ b ∧ b < 2147483648) (hc : -2147483648 ≤ c ∧ c < 2147483648) : wOk (sTold w a b c) := by
  rw [sTold_14]
  obtain ⟨hR, o0, o1, o2, o3, o4, o5, o6, oc, o13, o14, o16, o17, o18, ov⟩ := id h
  refine wOk_S (wOk_S (wOk_S (wOk_S (wOk_S (wOk_Lk h 3 (by omega)) _ _ ?_) _ _ ?_) _ _ ?_) _ _ ?_) _ _ ?_
  all_goals unfold wCell; omega
theorem sTold_lo (w : Int → Int) (a b c : Int) {j : Int} (hj : j < 1663) (h14 : j ≠ 14) : sTold w a b c j = w j := by
  rw [sTold_14, wS_ne _ _ _ h14, wS_ne _ _ _ (by omega), wS_ne _ _ _ (by omega), wS_ne _ _ _ (by omega), wS_ne _ _ _ (by omega), wLk_lo w hj (by omega)]
def wC (w : Int → Int) (a b n : Int) : Int → Int := fun j => if b ≤ j ∧ j < b + n then w (a + (j - b)) else w j
theorem wC_0 (w : Int → Int) (a b : Int) : wC w a b 0 = w := by funext j; exact if_neg (by omega)
theorem wC_s (w : Int → Int) (a b k n : Int) (hk : 0 ≤ k ∧ k < n) (h : b ≤ a ∨ a + n ≤ b) : wS (wC w a b k) (b + k) (wC w a b k (a + k)) = wC w a b (k + 1) := by
  have e : wC w a b k (a + k) = w (a + k) := if_neg (by omega)
  funext j
  rw [e]
  unfold wS wC
  by_cases hj : j = b + k
  · subst hj
    rw [if_pos rfl, if_pos (by omega)]
    congr 1; omega
  · rw [if_neg hj]
    by_cases h1 : b ≤ j ∧ j < b + k
    · rw [if_pos h1, if_pos (by omega)]
    · rw [if_neg h1, if_neg (by omega)]
theorem w32_C {w : Int → Int} (h : w32 w) (a b n : Int) : w32 (wC w a b n) := by intro i; unfold wC; split <;> exact h _
theorem wOk_C {w : Int → Int} (h : wOk w) (a b n : Int) (ha : 19 ≤ a ∧ a + n ≤ 1663) (hb : 19 ≤ b ∧ b + n ≤ 1663) : wOk (wC w a b n) := by
  rw [wOk_iff] at h ⊢
  intro j
  unfold wC
  split
  · have := h (a + (j - b))
    unfold wCell at this ⊢
    omega
  · exact h j
def wI0 (w : Int → Int) (k : Int) : Int → Int := fun j => if 200 ≤ j ∧ j < 200 + 122 * k ∧ (j - 200) % 122 = 0 then 0 else w j
theorem wI0_0 (w : Int → Int) : wI0 w 0 = w := by funext j; exact if_neg (by omega)
theorem wI0_s (w : Int → Int) (k : Int) (hk : 0 ≤ k) : wS (wI0 w k) (199 + 122 * k + 1) 0 = wI0 w (k + 1) := by
  funext j
  unfold wS wI0
  by_cases hj : j = 199 + 122 * k + 1
  · rw [if_pos hj, if_pos (by omega)]
  · rw [if_neg hj]
    by_cases h1 : 200 ≤ j ∧ j < 200 + 122 * k ∧ (j - 200) % 122 = 0
    · rw [if_pos h1, if_pos (by omega)]
    · rw [if_neg h1, if_neg (by omega)]
theorem wOk_I0 {w : Int → Int} (h : wOk w) (k : Int) (hk : k ≤ 12) : wOk (wI0 w k) := by
  rw [wOk_iff] at h ⊢
  intro j
  unfold wI0
  split
  · unfold wCell; omega
  · exact h j
theorem wOk_E {w : Int → Int} (h : wOk w) (a : Int) (ha : 19 ≤ a ∧ a + 60 ≤ 1663) : wOk (wE w a 60) := by
  rw [wOk_iff] at h ⊢
  intro j
  unfold wE
  split
  · unfold wCell; omega
  · exact h j
def sNoMore (w : Int → Int) : Int → Int := wS (wE (wI0 w (w 0)) 79 60) 16 0
theorem wOk_nomore {w : Int → Int} (h : wOk w) : wOk (sNoMore w) :=
  wOk_S (wOk_E (wOk_I0 h _ h.2.1.2) 79 (by omega)) 16 0 (by unfold wCell; omega)
def sHaltN (w : Int → Int) : Int := if w 16 = 1 then sEnt w 79 else 0
def sHalt (w : Int → Int) : Int → Int := if w 16 = 1 then sNoMore (sTold w 3 (w 17) (sEnt w 79)) else w
theorem wOk_halt {w : Int → Int} (h : wOk w) : wOk (sHalt w) := by
  unfold sHalt
  split
  · have h1 := sEnt_bd w 79
    have h2 := h.1 17
    exact wOk_nomore (wOk_told h (by omega) h2 (by omega))
  · exact h
theorem dX12_isTold_0 : decode cX12_isTold 0 = .ok (.sipush 239, 3) := by decide +kernel
theorem dX12_isTold_3 : decode cX12_isTold 3 = .ok (.istore 4, 2) := by decide +kernel
theorem dX12_isTold_5 : decode cX12_isTold 5 = .ok (.iload 4, 2) := by decide +kernel
theorem dX12_isTold_7 : decode cX12_isTold 7 = .ok (.iconst 4, 1) := by decide +kernel
theorem dX12_isTold_8 : decode cX12_isTold 8 = .ok (.if_icmp .lt 33, 3) := by decide +kernel
theorem dX12_isTold_11 : decode cX12_isTold 11 = .ok (.aload_n 0, 1) := by decide +kernel
theorem dX12_isTold_12 : decode cX12_isTold 12 = .ok (.getfield 13, 3) := by decide +kernel
theorem dX12_isTold_15 : decode cX12_isTold 15 = .ok (.sipush 1663, 3) := by decide +kernel
theorem dX12_isTold_18 : decode cX12_isTold 18 = .ok (.iload 4, 2) := by decide +kernel
theorem dX12_isTold_20 : decode cX12_isTold 20 = .ok (.iadd, 1) := by decide +kernel
theorem dX12_isTold_21 : decode cX12_isTold 21 = .ok (.aload_n 0, 1) := by decide +kernel
theorem dX12_isTold_22 : decode cX12_isTold 22 = .ok (.getfield 13, 3) := by decide +kernel
theorem dX12_isTold_25 : decode cX12_isTold 25 = .ok (.sipush 1663, 3) := by decide +kernel
theorem dX12_isTold_28 : decode cX12_isTold 28 = .ok (.iload 4, 2) := by decide +kernel
theorem dX12_isTold_30 : decode cX12_isTold 30 = .ok (.iadd, 1) := by decide +kernel
theorem dX12_isTold_31 : decode cX12_isTold 31 = .ok (.iconst 4, 1) := by decide +kernel
theorem dX12_isTold_32 : decode cX12_isTold 32 = .ok (.isub, 1) := by decide +kernel
theorem dX12_isTold_33 : decode cX12_isTold 33 = .ok (.iaload, 1) := by decide +kernel
theorem dX12_isTold_34 : decode cX12_isTold 34 = .ok (.iastore, 1) := by decide +kernel
theorem dX12_isTold_35 : decode cX12_isTold 35 = .ok (.iinc 4 (-1), 3) := by decide +kernel
theorem dX12_isTold_38 : decode cX12_isTold 38 = .ok (.goto (-33), 3) := by decide +kernel
theorem dX12_isTold_41 : decode cX12_isTold 41 = .ok (.aload_n 0, 1) := by decide +kernel
theorem dX12_isTold_42 : decode cX12_isTold 42 = .ok (.getfield 13, 3) := by decide +kernel
theorem dX12_isTold_45 : decode cX12_isTold 45 = .ok (.sipush 1663, 3) := by decide +kernel
theorem dX12_isTold_48 : decode cX12_isTold 48 = .ok (.aload_n 0, 1) := by decide +kernel
theorem dX12_isTold_49 : decode cX12_isTold 49 = .ok (.getfield 13, 3) := by decide +kernel
theorem dX12_isTold_52 : decode cX12_isTold 52 = .ok (.bipush 13, 2) := by decide +kernel
theorem dX12_isTold_54 : decode cX12_isTold 54 = .ok (.iaload, 1) := by decide +kernel
theorem dX12_isTold_55 : decode cX12_isTold 55 = .ok (.iastore, 1) := by decide +kernel
theorem dX12_isTold_56 : decode cX12_isTold 56 = .ok (.aload_n 0, 1) := by decide +kernel
theorem dX12_isTold_57 : decode cX12_isTold 57 = .ok (.getfield 13, 3) := by decide +kernel
theorem dX12_isTold_60 : decode cX12_isTold 60 = .ok (.sipush 1664, 3) := by decide +kernel
theorem dX12_isTold_63 : decode cX12_isTold 63 = .ok (.iload_n 1, 1) := by decide +kernel
theorem dX12_isTold_64 : decode cX12_isTold 64 = .ok (.iastore, 1) := by decide +kernel
theorem dX12_isTold_65 : decode cX12_isTold 65 = .ok (.aload_n 0, 1) := by decide +kernel
theorem dX12_isTold_66 : decode cX12_isTold 66 = .ok (.getfield 13, 3) := by decide +kernel
theorem dX12_isTold_69 : decode cX12_isTold 69 = .ok (.sipush 1665, 3) := by decide +kernel
theorem dX12_isTold_72 : decode cX12_isTold 72 = .ok (.iload_n 2, 1) := by decide +kernel
theorem dX12_isTold_73 : decode cX12_isTold 73 = .ok (.iastore, 1) := by decide +kernel
theorem dX12_isTold_74 : decode cX12_isTold 74 = .ok (.aload_n 0, 1) := by decide +kernel
theorem dX12_isTold_75 : decode cX12_isTold 75 = .ok (.getfield 13, 3) := by decide +kernel
theorem dX12_isTold_78 : decode cX12_isTold 78 = .ok (.sipush 1666, 3) := by decide +kernel
theorem dX12_isTold_81 : decode cX12_isTold 81 = .ok (.iload_n 3, 1) := by decide +kernel
theorem dX12_isTold_82 : decode cX12_isTold 82 = .ok (.iastore, 1) := by decide +kernel
theorem dX12_isTold_83 : decode cX12_isTold 83 = .ok (.aload_n 0, 1) := by decide +kernel
theorem dX12_isTold_84 : decode cX12_isTold 84 = .ok (.bipush 14, 2) := by decide +kernel
theorem dX12_isTold_86 : decode cX12_isTold 86 = .ok (.iconst 1, 1) := by decide +kernel
theorem dX12_isTold_87 : decode cX12_isTold 87 = .ok (.bipush 60, 2) := by decide +kernel
theorem dX12_isTold_89 : decode cX12_isTold 89 = .ok (.invokevirtual 302, 3) := by decide +kernel
theorem dX12_isTold_92 : decode cX12_isTold 92 = .ok (.return_, 1) := by decide +kernel
set_option maxHeartbeats 4000000 in
set_option maxRecDepth 100000 in
theorem ct_X12_isTold {E : xE} {z : Nat} {T : Nat → Nat × Int} {F : Nat → Nat → Int} {I : Nat → Int → Int} {P : Nat → Nat → Option Nat} {Y : Nat → Int → Option Nat} {m : Nat} {w : Int → Int} (hw : wM T P m) (hO : wOk w){a b c : Int} (ha : -2147483648 ≤ a ∧ a < 2147483648) (hb : -2147483648 ≤ b ∧ b < 2147483648) (hc : -2147483648 ≤ c ∧ c < 2147483648) : Ct E 2 mX12_isTold 0 0 [.ref m, J a, J b, J c] (z, T, F, upA I (m + 1) w, P, Y) (xd none (z, T, F, upA I (m + 1) (sTold w a b c), P, Y)) := by
  obtain ⟨⟨q0, q1, q2, q3⟩, -⟩ := id hw
  obtain ⟨hR, o0, o1, o2, o3, o4, o5, o6, oc, o13, o14, o16, o17, o18, ov⟩ := id hO
  have hN := wN_i o0.1
  refine Ct.of [some (.ref m), some (J a), some (J b), some (J c), none] kt_X12_isTold rfl (Nat.le_of_ble_eq_true rfl) rfl (fun d hd => ?_)
  generalize hX : xN E _ _ _ = X
  refine xg_sipush 3 dX12_isTold_0 rfl (by decide) ?_
  refine xg_istore 5 _ dX12_isTold_3 rfl rfl (by decide) (Or.inr rfl) ?_
  have loop5 : ∀ (mm : Nat) (k : Int), (3 ≤ k ∧ k ≤ 239) → k < (mm : Int) → xG E mX12_isTold (xR d 0 0) X 5 [some (.ref m), some (J a), some (J b), some (J c), some (J k)] [] (z, T, F, upA I (m + 1) (wLk w k), P, Y) 0 0 := by
    intro mm
    induction mm with
    | zero => intro k hk hm; exfalso; omega
    | succ mm ih =>
      intro k hk hm
      refine xg_iload 7 dX12_isTold_5 rfl rfl ?_
      refine xg_iconst 8 dX12_isTold_7 rfl ?_
      refine xg_iclt 41 11 dX12_isTold_8 rfl rfl (by first | omega | exact hR _ | exact ⟨hR _, by omega⟩ | exact ⟨by omega, hR _⟩ | exact ⟨hR _, hR _⟩) (fun hb8 => ?_) (fun hb8 => ?_)
      · skip
        refine xg_aloadn 42 dX12_isTold_41 rfl rfl rfl ?_
        refine xg_getP 45 kf_RX12_13 dX12_isTold_42 rfl (by assumption) (by assumption) ?_
        refine xg_sipush 48 dX12_isTold_45 rfl (by decide) ?_
        refine xg_aloadn 49 dX12_isTold_48 rfl rfl rfl ?_
        refine xg_getP 52 kf_RX12_13 dX12_isTold_49 rfl (by assumption) (by assumption) ?_
        refine xg_bipush 54 dX12_isTold_52 rfl (by decide) ?_
        refine xg_ialdW 55 dX12_isTold_54 rfl (by assumption) (by first | omega | exact hR _ | exact ⟨hR _, by omega⟩ | exact ⟨by omega, hR _⟩ | exact ⟨hR _, hR _⟩) ?_
        refine xg_iastW 56 dX12_isTold_55 rfl (by assumption) (by first | omega | exact hR _ | exact ⟨hR _, by omega⟩ | exact ⟨by omega, hR _⟩ | exact ⟨hR _, hR _⟩) ?_
        refine xg_aloadn 57 dX12_isTold_56 rfl rfl rfl ?_
        refine xg_getP 60 kf_RX12_13 dX12_isTold_57 rfl (by assumption) (by assumption) ?_
        refine xg_sipush 63 dX12_isTold_60 rfl (by decide) ?_
        refine xg_iloadn 64 dX12_isTold_63 rfl rfl rfl ?_
        refine xg_iastW 65 dX12_isTold_64 rfl (by assumption) (by first | omega | exact hR _ | exact ⟨hR _, by omega⟩ | exact ⟨by omega, hR _⟩ | exact ⟨hR _, hR _⟩) ?_
        refine xg_aloadn 66 dX12_isTold_65 rfl rfl rfl ?_
        refine xg_getP 69 kf_RX12_13 dX12_isTold_66 rfl (by assumption) (by assumption) ?_
        refine xg_sipush 72 dX12_isTold_69 rfl (by decide) ?_
        refine xg_iloadn 73 dX12_isTold_72 rfl rfl rfl ?_
        refine xg_iastW 74 dX12_isTold_73 rfl (by assumption) (by first | omega | exact hR _ | exact ⟨hR _, by omega⟩ | exact ⟨by omega, hR _⟩ | exact ⟨hR _, hR _⟩) ?_
        refine xg_aloadn 75 dX12_isTold_74 rfl rfl rfl ?_
        refine xg_getP 78 kf_RX12_13 dX12_isTold_75 rfl (by assumption) (by assumption) ?_
        refine xg_sipush 81 dX12_isTold_78 rfl (by decide) ?_
        refine xg_iloadn 82 dX12_isTold_81 rfl rfl rfl ?_
        refine xg_iastW 83 dX12_isTold_82 rfl (by assumption) (by first | omega | exact hR _ | exact ⟨hR _, by omega⟩ | exact ⟨by omega, hR _⟩ | exact ⟨hR _, hR _⟩) ?_
        refine xg_aloadn 84 dX12_isTold_83 rfl rfl rfl ?_
        refine xg_bipush 86 dX12_isTold_84 rfl (by decide) ?_
        refine xg_iconst 87 dX12_isTold_86 rfl ?_
        refine xg_bipush 89 dX12_isTold_87 rfl (by decide) ?_
        refine xg_callV 92 12 [_, _, _] _ kv_X12_more ⟨_, _, rfl⟩ kl_RX12_302 dX12_isTold_89 rfl (by assumption) (by omega) rfl rfl (Nat.le_of_ble_eq_true rfl) (by omega) ⟨Nat.le_refl _, Nat.le_refl _⟩ (ct_X12_more hw (by omega) (by rw [wS_ne _ _ _ (by omega), wS_ne _ _ _ (by omega), wS_ne _ _ _ (by omega), wS_ne _ _ _ (by omega), wLk_lo w (by omega) (by omega)]; omega) (by omega)) rfl ?_
        subst hX
        exact xg_return dX12_isTold_92 rfl ⟨Nat.le_refl _, Nat.le_refl _⟩ ⟨rfl, by rw [show k = 3 by omega]; rfl⟩
      · skip
        refine xg_aloadn 12 dX12_isTold_11 rfl rfl rfl ?_
        refine xg_getP 15 kf_RX12_13 dX12_isTold_12 rfl (by assumption) (by assumption) ?_
        refine xg_sipush 18 dX12_isTold_15 rfl (by decide) ?_
        refine xg_iload 20 dX12_isTold_18 rfl rfl ?_
        refine xg_iadd 21 dX12_isTold_20 rfl ?_
        refine xg_aloadn 22 dX12_isTold_21 rfl rfl rfl ?_
        refine xg_getP 25 kf_RX12_13 dX12_isTold_22 rfl (by assumption) (by assumption) ?_
        refine xg_sipush 28 dX12_isTold_25 rfl (by decide) ?_
        refine xg_iload 30 dX12_isTold_28 rfl rfl ?_
        refine xg_iadd 31 dX12_isTold_30 rfl ?_
        refine xg_iconst 32 dX12_isTold_31 rfl ?_
        refine xg_isub 33 dX12_isTold_32 rfl ?_
        refine xg_ialdW 34 dX12_isTold_33 rfl (by assumption) (by first | omega | exact hR _ | exact ⟨hR _, by omega⟩ | exact ⟨by omega, hR _⟩ | exact ⟨hR _, hR _⟩) ?_
        refine xg_iastW 35 dX12_isTold_34 rfl (by assumption) (by first | omega | exact hR _ | exact ⟨hR _, by omega⟩ | exact ⟨by omega, hR _⟩ | exact ⟨hR _, hR _⟩) ?_
        refine xg_iinc 38 _ dX12_isTold_35 rfl rfl rfl rfl (by decide) (Or.inr rfl) ?_
        refine xg_goto 5 dX12_isTold_38 rfl ?_
        rw [wLk_s w k (by omega)]
        exact xg_weak _ (xle_s rfl (xle_s rfl (xle_s rfl (xle_s rfl (xle_s rfl xle_0))))) (ih (k + -1) (by omega) (by omega))
  have l0 := loop5 240 239 (by omega) (by omega)
  rw [wLk_0] at l0
  exact xg_weak _ (xle_s rfl (xle_s rfl (xle_s rfl (xle_s rfl (xle_s rfl xle_0))))) l0

theorem dX12_copies_0 : decode cX12_copies 0 = .ok (.iconst 0, 1) := by decide +kernel
theorem dX12_copies_1 : decode cX12_copies 1 = .ok (.istore 4, 2) := by decide +kernel
theorem dX12_copies_3 : decode cX12_copies 3 = .ok (.iload 4, 2) := by decide +kernel
theorem dX12_copies_5 : decode cX12_copies 5 = .ok (.iload_n 3, 1) := by decide +kernel
theorem dX12_copies_6 : decode cX12_copies 6 = .ok (.if_icmp .ge 27, 3) := by decide +kernel
theorem dX12_copies_9 : decode cX12_copies 9 = .ok (.aload_n 0, 1) := by decide +kernel
theorem dX12_copies_10 : decode cX12_copies 10 = .ok (.getfield 13, 3) := by decide +kernel
theorem dX12_copies_13 : decode cX12_copies 13 = .ok (.iload_n 2, 1) := by decide +kernel
theorem dX12_copies_14 : decode cX12_copies 14 = .ok (.iload 4, 2) := by decide +kernel
theorem dX12_copies_16 : decode cX12_copies 16 = .ok (.iadd, 1) := by decide +kernel
theorem dX12_copies_17 : decode cX12_copies 17 = .ok (.aload_n 0, 1) := by decide +kernel
theorem dX12_copies_18 : decode cX12_copies 18 = .ok (.getfield 13, 3) := by decide +kernel
theorem dX12_copies_21 : decode cX12_copies 21 = .ok (.iload_n 1, 1) := by decide +kernel
theorem dX12_copies_22 : decode cX12_copies 22 = .ok (.iload 4, 2) := by decide +kernel
theorem dX12_copies_24 : decode cX12_copies 24 = .ok (.iadd, 1) := by decide +kernel
theorem dX12_copies_25 : decode cX12_copies 25 = .ok (.iaload, 1) := by decide +kernel
theorem dX12_copies_26 : decode cX12_copies 26 = .ok (.iastore, 1) := by decide +kernel
theorem dX12_copies_27 : decode cX12_copies 27 = .ok (.iinc 4 1, 3) := by decide +kernel
theorem dX12_copies_30 : decode cX12_copies 30 = .ok (.goto (-27), 3) := by decide +kernel
theorem dX12_copies_33 : decode cX12_copies 33 = .ok (.return_, 1) := by decide +kernel
set_option maxHeartbeats 4000000 in
set_option maxRecDepth 100000 in
theorem ct_X12_copies {E : xE} {z : Nat} {T : Nat → Nat × Int} {F : Nat → Nat → Int} {I : Nat → Int → Int} {P : Nat → Nat → Option Nat} {Y : Nat → Int → Option Nat} {m : Nat} {w : Int → Int} (hw : wM T P m){a b c : Int} (ha : 0 ≤ a ∧ a + c ≤ 3601) (hb : 0 ≤ b ∧ b + c ≤ 3601) (hc : 0 ≤ c) (hd : b ≤ a ∨ a + c ≤ b) : Ct E 0 mX12_copies 0 0 [.ref m, J a, J b, J c] (z, T, F, upA I (m + 1) w, P, Y) (xd none (z, T, F, upA I (m + 1) (wC w a b c), P, Y)) := by
  obtain ⟨⟨q0, q1, q2, q3⟩, -⟩ := id hw
  refine Ct.of [some (.ref m), some (J a), some (J b), some (J c), none] kt_X12_copies rfl (Nat.le_of_ble_eq_true rfl) rfl (fun d hd => ?_)
  generalize hX : xN E _ _ _ = X
  refine xg_iconst 1 dX12_copies_0 rfl ?_
  refine xg_istore 3 _ dX12_copies_1 rfl rfl (by decide) (Or.inr rfl) ?_
  have loop3 : ∀ (mm : Nat) (k : Int), (0 ≤ k ∧ k ≤ c) → c - k < (mm : Int) → xG E mX12_copies (xR d 0 0) X 3 [some (.ref m), some (J a), some (J b), some (J c), some (J k)] [] (z, T, F, upA I (m + 1) (wC w a b k), P, Y) 0 0 := by
    intro mm
    induction mm with
    | zero => intro k hk hm; exfalso; omega
    | succ mm ih =>
      intro k hk hm
      refine xg_iload 5 dX12_copies_3 rfl rfl ?_
      refine xg_iloadn 6 dX12_copies_5 rfl rfl rfl ?_
      refine xg_icge 33 9 dX12_copies_6 rfl rfl (by first | omega | exact hR _ | exact ⟨hR _, by omega⟩ | exact ⟨by omega, hR _⟩ | exact ⟨hR _, hR _⟩) (fun hb6 => ?_) (fun hb6 => ?_)
      · skip
        subst hX
        exact xg_return dX12_copies_33 rfl ⟨Nat.le_refl _, Nat.le_refl _⟩ ⟨rfl, by rw [show k = c by omega]⟩
      · skip
        refine xg_aloadn 10 dX12_copies_9 rfl rfl rfl ?_
        refine xg_getP 13 kf_RX12_13 dX12_copies_10 rfl (by assumption) (by assumption) ?_
        refine xg_iloadn 14 dX12_copies_13 rfl rfl rfl ?_
        refine xg_iload 16 dX12_copies_14 rfl rfl ?_
        refine xg_iadd 17 dX12_copies_16 rfl ?_
        refine xg_aloadn 18 dX12_copies_17 rfl rfl rfl ?_
        refine xg_getP 21 kf_RX12_13 dX12_copies_18 rfl (by assumption) (by assumption) ?_
        refine xg_iloadn 22 dX12_copies_21 rfl rfl rfl ?_
        refine xg_iload 24 dX12_copies_22 rfl rfl ?_
        refine xg_iadd 25 dX12_copies_24 rfl ?_
        refine xg_ialdW 26 dX12_copies_25 rfl (by assumption) (by first | omega | exact hR _ | exact ⟨hR _, by omega⟩ | exact ⟨by omega, hR _⟩ | exact ⟨hR _, hR _⟩) ?_
        refine xg_iastW 27 dX12_copies_26 rfl (by assumption) (by first | omega | exact hR _ | exact ⟨hR _, by omega⟩ | exact ⟨by omega, hR _⟩ | exact ⟨hR _, hR _⟩) ?_
        refine xg_iinc 30 _ dX12_copies_27 rfl rfl rfl rfl (by decide) (Or.inr rfl) ?_
        refine xg_goto 3 dX12_copies_30 rfl ?_
        rw [wC_s w a b k c (by omega) (by omega)]
        exact xg_weak _ (xle_s rfl (xle_s rfl (xle_s rfl (xle_s rfl (xle_s rfl xle_0))))) (ih (k + 1) (by omega) (by omega))
  have l0 := loop3 (c.toNat + 1) 0 (by omega) (by omega)
  rw [wC_0] at l0
  exact xg_weak _ (xle_s rfl (xle_s rfl (xle_s rfl (xle_s rfl (xle_s rfl xle_0))))) l0

theorem dX12_isNoMore_0 : decode cX12_isNoMore 0 = .ok (.iconst 0, 1) := by decide +kernel
theorem dX12_isNoMore_1 : decode cX12_isNoMore 1 = .ok (.istore_n 1, 1) := by decide +kernel
theorem dX12_isNoMore_2 : decode cX12_isNoMore 2 = .ok (.iload_n 1, 1) := by decide +kernel
theorem dX12_isNoMore_3 : decode cX12_isNoMore 3 = .ok (.aload_n 0, 1) := by decide +kernel
theorem dX12_isNoMore_4 : decode cX12_isNoMore 4 = .ok (.invokevirtual 66, 3) := by decide +kernel
theorem dX12_isNoMore_7 : decode cX12_isNoMore 7 = .ok (.if_icmp .ge 20, 3) := by decide +kernel
theorem dX12_isNoMore_10 : decode cX12_isNoMore 10 = .ok (.aload_n 0, 1) := by decide +kernel
theorem dX12_isNoMore_11 : decode cX12_isNoMore 11 = .ok (.getfield 13, 3) := by decide +kernel
theorem dX12_isNoMore_14 : decode cX12_isNoMore 14 = .ok (.iload_n 1, 1) := by decide +kernel
theorem dX12_isNoMore_15 : decode cX12_isNoMore 15 = .ok (.iconst 1, 1) := by decide +kernel
theorem dX12_isNoMore_16 : decode cX12_isNoMore 16 = .ok (.invokestatic 62, 3) := by decide +kernel
theorem dX12_isNoMore_19 : decode cX12_isNoMore 19 = .ok (.iconst 0, 1) := by decide +kernel
theorem dX12_isNoMore_20 : decode cX12_isNoMore 20 = .ok (.iastore, 1) := by decide +kernel
theorem dX12_isNoMore_21 : decode cX12_isNoMore 21 = .ok (.iinc 1 1, 3) := by decide +kernel
theorem dX12_isNoMore_24 : decode cX12_isNoMore 24 = .ok (.goto (-22), 3) := by decide +kernel
theorem dX12_isNoMore_27 : decode cX12_isNoMore 27 = .ok (.aload_n 0, 1) := by decide +kernel
theorem dX12_isNoMore_28 : decode cX12_isNoMore 28 = .ok (.bipush 79, 2) := by decide +kernel
theorem dX12_isNoMore_30 : decode cX12_isNoMore 30 = .ok (.invokevirtual 51, 3) := by decide +kernel
theorem dX12_isNoMore_33 : decode cX12_isNoMore 33 = .ok (.aload_n 0, 1) := by decide +kernel
theorem dX12_isNoMore_34 : decode cX12_isNoMore 34 = .ok (.getfield 13, 3) := by decide +kernel
theorem dX12_isNoMore_37 : decode cX12_isNoMore 37 = .ok (.bipush 16, 2) := by decide +kernel
theorem dX12_isNoMore_39 : decode cX12_isNoMore 39 = .ok (.iconst 0, 1) := by decide +kernel
theorem dX12_isNoMore_40 : decode cX12_isNoMore 40 = .ok (.iastore, 1) := by decide +kernel
theorem dX12_isNoMore_41 : decode cX12_isNoMore 41 = .ok (.return_, 1) := by decide +kernel
set_option maxHeartbeats 4000000 in
set_option maxRecDepth 100000 in
theorem ct_X12_isNoMore {E : xE} {z : Nat} {T : Nat → Nat × Int} {F : Nat → Nat → Int} {I : Nat → Int → Int} {P : Nat → Nat → Option Nat} {Y : Nat → Int → Option Nat} {m : Nat} {w : Int → Int} (hw : wM T P m)(hN : 0 ≤ w 0 ∧ w 0 ≤ 12) : Ct E 1 mX12_isNoMore 0 0 [.ref m] (z, T, F, upA I (m + 1) w, P, Y) (xd none (z, T, F, upA I (m + 1) (sNoMore w), P, Y)) := by
  obtain ⟨⟨q0, q1, q2, q3⟩, -⟩ := id hw
  refine Ct.of [some (.ref m), none] kt_X12_isNoMore rfl (Nat.le_of_ble_eq_true rfl) rfl (fun d hd => ?_)
  generalize hX : xN E _ _ _ = X
  refine xg_iconst 1 dX12_isNoMore_0 rfl ?_
  refine xg_istoren 2 _ dX12_isNoMore_1 rfl rfl rfl (by decide) (Or.inr rfl) ?_
  have loop2 : ∀ (mm : Nat) (r : Nat), ((r : Int) ≤ w 0) → w 0 - r < (mm : Int) → xG E mX12_isNoMore (xR d 0 0) X 2 [some (.ref m), some (J (r : Int))] [] (z, T, F, upA I (m + 1) (wI0 w r), P, Y) 0 0 := by
    intro mm
    induction mm with
    | zero => intro r hr hm; exfalso; omega
    | succ mm ih =>
      intro r hr hm
      refine xg_iloadn 3 dX12_isNoMore_2 rfl rfl rfl ?_
      refine xg_aloadn 4 dX12_isNoMore_3 rfl rfl rfl ?_
      refine xg_callV 7 12 [] _ kv_X12_runs ⟨_, _, rfl⟩ kl_RX12_66 dX12_isNoMore_4 rfl (by assumption) (by omega) rfl rfl (Nat.le_of_ble_eq_true rfl) (by omega) ⟨Nat.le_refl _, Nat.le_refl _⟩ (ct_X12_runs hw) rfl ?_
      rw [show wI0 w r 0 = w 0 from if_neg (by omega)]
      refine xg_icge 27 10 dX12_isNoMore_7 rfl rfl (by first | omega | exact hR _ | exact ⟨hR _, by omega⟩ | exact ⟨by omega, hR _⟩ | exact ⟨hR _, hR _⟩) (fun hb7 => ?_) (fun hb7 => ?_)
      · skip
        refine xg_aloadn 28 dX12_isNoMore_27 rfl rfl rfl ?_
        refine xg_bipush 30 dX12_isNoMore_28 rfl (by decide) ?_
        refine xg_callV 33 12 [_] _ kv_X12_empties ⟨_, _, rfl⟩ kl_RX12_51 dX12_isNoMore_30 rfl (by assumption) (by omega) rfl rfl (Nat.le_of_ble_eq_true rfl) (by omega) ⟨Nat.le_refl _, Nat.le_refl _⟩ (ct_X12_empties hw (by omega)) rfl ?_
        refine xg_aloadn 34 dX12_isNoMore_33 rfl rfl rfl ?_
        refine xg_getP 37 kf_RX12_13 dX12_isNoMore_34 rfl (by assumption) (by assumption) ?_
        refine xg_bipush 39 dX12_isNoMore_37 rfl (by decide) ?_
        refine xg_iconst 40 dX12_isNoMore_39 rfl ?_
        refine xg_iastW 41 dX12_isNoMore_40 rfl (by assumption) (by first | omega | exact hR _ | exact ⟨hR _, by omega⟩ | exact ⟨by omega, hR _⟩ | exact ⟨hR _, hR _⟩) ?_
        subst hX
        exact xg_return dX12_isNoMore_41 rfl ⟨Nat.le_refl _, Nat.le_refl _⟩ ⟨rfl, by rw [show (r : Int) = w 0 by omega]; rfl⟩
      · skip
        refine xg_aloadn 11 dX12_isNoMore_10 rfl rfl rfl ?_
        refine xg_getP 14 kf_RX12_13 dX12_isNoMore_11 rfl (by assumption) (by assumption) ?_
        refine xg_iloadn 15 dX12_isNoMore_14 rfl rfl rfl ?_
        refine xg_iconst 16 dX12_isNoMore_15 rfl ?_
        refine xg_callS 19 [_, _] _ ks_X12_runAt kl_RX12_62 dX12_isNoMore_16 rfl rfl rfl (Nat.le_of_ble_eq_true rfl) (by omega) ⟨Nat.le_refl _, Nat.le_refl _⟩ (ct_X12_runAt) rfl ?_
        refine xg_iconst 20 dX12_isNoMore_19 rfl ?_
        refine xg_iastW 21 dX12_isNoMore_20 rfl (by assumption) (by first | omega | exact hR _ | exact ⟨hR _, by omega⟩ | exact ⟨by omega, hR _⟩ | exact ⟨hR _, hR _⟩) ?_
        refine xg_iinc 24 _ dX12_isNoMore_21 rfl rfl rfl rfl (by decide) (Or.inr rfl) ?_
        refine xg_goto 2 dX12_isNoMore_24 rfl ?_
        rw [wI0_s w r (by omega)]
        exact xg_weak _ (xle_s rfl (xle_s rfl xle_0)) (ih (r + 1) (by omega) (by omega))
  have l0 := loop2 20 0 (by omega) (by omega)
  rw [show ((0 : Nat) : Int) = 0 from rfl, wI0_0] at l0
  exact xg_weak _ (xle_s rfl (xle_s rfl xle_0)) l0

theorem dX12_isHalted_0 : decode cX12_isHalted 0 = .ok (.aload_n 0, 1) := by decide +kernel
theorem dX12_isHalted_1 : decode cX12_isHalted 1 = .ok (.invokevirtual 278, 3) := by decide +kernel
theorem dX12_isHalted_4 : decode cX12_isHalted 4 = .ok (.ifCond .ne 5, 3) := by decide +kernel
theorem dX12_isHalted_7 : decode cX12_isHalted 7 = .ok (.iconst 0, 1) := by decide +kernel
theorem dX12_isHalted_8 : decode cX12_isHalted 8 = .ok (.ireturn, 1) := by decide +kernel
theorem dX12_isHalted_9 : decode cX12_isHalted 9 = .ok (.aload_n 0, 1) := by decide +kernel
theorem dX12_isHalted_10 : decode cX12_isHalted 10 = .ok (.bipush 79, 2) := by decide +kernel
theorem dX12_isHalted_12 : decode cX12_isHalted 12 = .ok (.invokevirtual 268, 3) := by decide +kernel
theorem dX12_isHalted_15 : decode cX12_isHalted 15 = .ok (.istore_n 1, 1) := by decide +kernel
theorem dX12_isHalted_16 : decode cX12_isHalted 16 = .ok (.aload_n 0, 1) := by decide +kernel
theorem dX12_isHalted_17 : decode cX12_isHalted 17 = .ok (.iconst 3, 1) := by decide +kernel
theorem dX12_isHalted_18 : decode cX12_isHalted 18 = .ok (.aload_n 0, 1) := by decide +kernel
theorem dX12_isHalted_19 : decode cX12_isHalted 19 = .ok (.getfield 13, 3) := by decide +kernel
theorem dX12_isHalted_22 : decode cX12_isHalted 22 = .ok (.bipush 17, 2) := by decide +kernel
theorem dX12_isHalted_24 : decode cX12_isHalted 24 = .ok (.iaload, 1) := by decide +kernel
theorem dX12_isHalted_25 : decode cX12_isHalted 25 = .ok (.iload_n 1, 1) := by decide +kernel
theorem dX12_isHalted_26 : decode cX12_isHalted 26 = .ok (.invokevirtual 312, 3) := by decide +kernel
theorem dX12_isHalted_29 : decode cX12_isHalted 29 = .ok (.aload_n 0, 1) := by decide +kernel
theorem dX12_isHalted_30 : decode cX12_isHalted 30 = .ok (.invokevirtual 315, 3) := by decide +kernel
theorem dX12_isHalted_33 : decode cX12_isHalted 33 = .ok (.iload_n 1, 1) := by decide +kernel
theorem dX12_isHalted_34 : decode cX12_isHalted 34 = .ok (.ireturn, 1) := by decide +kernel
set_option maxHeartbeats 4000000 in
set_option maxRecDepth 100000 in
theorem ct_X12_isHalted {E : xE} {z : Nat} {T : Nat → Nat × Int} {F : Nat → Nat → Int} {I : Nat → Int → Int} {P : Nat → Nat → Option Nat} {Y : Nat → Int → Option Nat} {m : Nat} {w : Int → Int} (hw : wM T P m) (hO : wOk w) : Ct E 3 mX12_isHalted 0 0 [.ref m] (z, T, F, upA I (m + 1) w, P, Y) (xd (some (J (sHaltN w))) (z, T, F, upA I (m + 1) (sHalt w), P, Y)) := by
  obtain ⟨⟨q0, q1, q2, q3⟩, -⟩ := id hw
  obtain ⟨hR, o0, o1, o2, o3, o4, o5, o6, oc, o13, o14, o16, o17, o18, ov⟩ := id hO
  have hN := wN_i o0.1
  have heb := sEnt_bd w 79
  have hT0 : 0 ≤ sTold w 3 (w 17) (sEnt w 79) 0 ∧ sTold w 3 (w 17) (sEnt w 79) 0 ≤ 12 := by rw [sTold_lo _ _ _ _ (by omega) (by omega)]; exact o0
  refine Ct.of [some (.ref m), none] kt_X12_isHalted rfl (Nat.le_of_ble_eq_true rfl) rfl (fun d hd => ?_)
  generalize hX : xN E _ _ _ = X
  refine xg_aloadn 1 dX12_isHalted_0 rfl rfl rfl ?_
  refine xg_callV 4 12 [] _ kv_X12_isBusy ⟨_, _, rfl⟩ kl_RX12_278 dX12_isHalted_1 rfl (by assumption) (by omega) rfl rfl (Nat.le_of_ble_eq_true rfl) (by omega) ⟨Nat.le_refl _, Nat.le_refl _⟩ (ct_X12_isBusy hw hR) rfl ?_
  refine xg_dne 9 7 dX12_isHalted_4 rfl rfl (fun hb4 => ?_) (fun hb4 => ?_)
  · skip
    refine xg_aloadn 10 dX12_isHalted_9 rfl rfl rfl ?_
    refine xg_bipush 12 dX12_isHalted_10 rfl (by decide) ?_
    refine xg_callV 15 12 [_] _ kv_X12_entriesOf ⟨_, _, rfl⟩ kl_RX12_268 dX12_isHalted_12 rfl (by assumption) (by omega) rfl rfl (Nat.le_of_ble_eq_true rfl) (by omega) ⟨Nat.le_refl _, Nat.le_refl _⟩ (ct_X12_entriesOf hw hR (by omega)) rfl ?_
    refine xg_istoren 16 _ dX12_isHalted_15 rfl rfl rfl (by decide) (Or.inr rfl) ?_
    refine xg_aloadn 17 dX12_isHalted_16 rfl rfl rfl ?_
    refine xg_iconst 18 dX12_isHalted_17 rfl ?_
    refine xg_aloadn 19 dX12_isHalted_18 rfl rfl rfl ?_
    refine xg_getP 22 kf_RX12_13 dX12_isHalted_19 rfl (by assumption) (by assumption) ?_
    refine xg_bipush 24 dX12_isHalted_22 rfl (by decide) ?_
    refine xg_ialdW 25 dX12_isHalted_24 rfl (by assumption) (by first | omega | exact hR _ | exact ⟨hR _, by omega⟩ | exact ⟨by omega, hR _⟩ | exact ⟨hR _, hR _⟩) ?_
    refine xg_iloadn 26 dX12_isHalted_25 rfl rfl rfl ?_
    refine xg_callV 29 12 [_, _, _] _ kv_X12_isTold ⟨_, _, rfl⟩ kl_RX12_312 dX12_isHalted_26 rfl (by assumption) (by omega) rfl rfl (Nat.le_of_ble_eq_true rfl) (by omega) ⟨Nat.le_refl _, Nat.le_refl _⟩ (ct_X12_isTold hw hO (by omega) (by omega) (by omega)) rfl ?_
    refine xg_aloadn 30 dX12_isHalted_29 rfl rfl rfl ?_
    refine xg_callV 33 12 [] _ kv_X12_isNoMore ⟨_, _, rfl⟩ kl_RX12_315 dX12_isHalted_30 rfl (by assumption) (by omega) rfl rfl (Nat.le_of_ble_eq_true rfl) (by omega) ⟨Nat.le_refl _, Nat.le_refl _⟩ (ct_X12_isNoMore hw (by assumption)) rfl ?_
    refine xg_iloadn 34 dX12_isHalted_33 rfl rfl rfl ?_
    subst hX
    exact xg_ireturn dX12_isHalted_34 rfl ⟨Nat.le_refl _, Nat.le_refl _⟩ ⟨by unfold sHaltN; rw [if_pos hb4], by unfold sHalt; rw [if_pos hb4]⟩
  · skip
    refine xg_iconst 8 dX12_isHalted_7 rfl ?_
    subst hX
    exact xg_ireturn dX12_isHalted_8 rfl ⟨Nat.le_refl _, Nat.le_refl _⟩ ⟨by unfold sHaltN; rw [if_neg hb4], by unfold sHalt; rw [if_neg hb4]⟩

