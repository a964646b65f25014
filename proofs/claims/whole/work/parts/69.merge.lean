section RBK
variable {T : Nat → Nat × Int} {F F' : Nat → Nat → Int} {I I' : Nat → Int → Int} {P P' : Nat → Nat → Option Nat} {Y Y' : Nat → Int → Option Nat} {a : Nat} {π : Nat → Nat} {w w' : Int → Int}
/-- how many inputs below r have the key -/
def sSeen (w : Int → Int) (key : Int) : Nat → Int := pSum (fun r => if w (200 + 122 * r) = 1 ∧ w (201 + 122 * r + key) ≠ -1 then 1 else 0)
theorem sSeen_s (w : Int → Int) (key : Int) (r : Nat) : sSeen w key (r + 1) = sSeen w key r + (if (wInp w r && wHas w key r) = true then 1 else 0) := by
  unfold sSeen
  rw [pSum_s]
  congr 1
  unfold wInp wHas
  by_cases h1 : w (200 + 122 * (r : Int)) = 1 <;> by_cases h2 : w (201 + 122 * (r : Int) + key) = -1 <;> simp [h1, h2]
theorem sSeen_bd (w : Int → Int) (key : Int) (r : Nat) : 0 ≤ sSeen w key r ∧ sSeen w key r ≤ r := by
  have := pSum_bd (f := fun r => if w (200 + 122 * r) = 1 ∧ w (201 + 122 * r + key) ≠ -1 then 1 else 0) (b := 1) (k := r) (fun j _ => by split <;> omega)
  unfold sSeen; omega
def sNw (w : Int → Int) (key : Int) : Nat → Int
  | 0 => -1
  | r + 1 => if sNw w key r = -1 ∧ (wInp w r && wHas w key r) = true then (r : Int) else sNw w key r
theorem sNw_bd {key : Int} : ∀ r : Nat, -1 ≤ sNw w key r ∧ sNw w key r < r
  | 0 => by simp [sNw]
  | r + 1 => by have := sNw_bd (key := key) r; rw [sNw]; split <;> omega
theorem sFind_lt {p : Nat → Bool} : ∀ {k lo j : Nat}, lo ≤ j → j < sFind p k lo → p j = false
  | 0, lo, j, h1, h2 => by simp [sFind] at h2; omega
  | k + 1, lo, j, h1, h2 => by
    rw [sFind] at h2
    by_cases h : p lo = true
    · rw [if_pos h] at h2; omega
    · rw [if_neg h] at h2
      by_cases e : j = lo
      · subst e; exact Bool.eq_false_iff.mpr h
      · exact sFind_lt (by omega) h2
theorem sNw_none {key : Int} : ∀ {r : Nat}, (∀ s : Nat, s < r → (wInp w s && wHas w key s) = false) → sNw w key r = -1 ∧ sSeen w key r = 0
  | 0, _ => ⟨rfl, rfl⟩
  | r + 1, h => by
    obtain ⟨h1, h2⟩ := sNw_none (r := r) (fun s hs => h s (by omega))
    have h3 := h r (by omega)
    rw [sNw, sSeen_s, h3, h2]
    exact ⟨(if_neg (fun q => by cases q.2)).trans h1, rfl⟩
theorem sNw_at {key : Int} {m : Nat} (hm : (wInp w m && wHas w key m) = true) (hlt : ∀ s : Nat, s < m → (wInp w s && wHas w key s) = false) : ∀ {r : Nat}, m < r → sNw w key r = (m : Int)
  | 0, h => absurd h (Nat.not_lt_zero _)
  | r + 1, h => by
    rw [sNw]
    by_cases e : r = m
    · subst e; rw [if_pos ⟨(sNw_none hlt).1, hm⟩]
    · have := sNw_at hm hlt (r := r) (by omega)
      rw [this, if_neg (fun q => by omega)]
theorem sNewI_p {key : Int} (h : sNewI w key < wN w) : (wInp w (sNewI w key) && wHas w key (sNewI w key)) = true ∧ ∀ s : Nat, s < sNewI w key → (wInp w s && wHas w key s) = false := by
  unfold sNewI at h ⊢
  exact ⟨sFind_p (p := fun r => wInp w r && wHas w key r) (k := wN w) (lo := 0) (by omega), fun s hs => sFind_lt (p := fun r => wInp w r && wHas w key r) (Nat.zero_le _) hs⟩
theorem sNewI_none {key : Int} (h : sNewI w key = wN w) : ∀ s : Nat, s < wN w → (wInp w s && wHas w key s) = false := fun s hs => sFind_lt (p := fun r => wInp w r && wHas w key r) (Nat.zero_le _) (by unfold sNewI at h; rw [h]; exact hs)
theorem sRd_sum (h7 : w 7 ≤ 99999) (key : Int) (lo : Nat) : ∀ k : Nat, sRd w key lo k = min 99999 (w 7 + (sSeen w key (lo + k) - sSeen w key lo))
  | 0 => by rw [sRd, Nat.add_zero]; omega
  | k + 1 => by
    have h1 := sRd_sum h7 key lo k
    rw [sRd, ← Nat.add_assoc, sSeen_s]
    by_cases h : (wInp w (lo + k) && wHas w key (lo + k)) = true
    · rw [if_pos h, if_pos h, h1]; omega
    · rw [if_neg h, if_neg h, h1]; omega
theorem sNext_no {k : Nat} (h18 : 0 ≤ w 18) (h1 : w 18 ≤ (k : Int)) (h2 : k < sNext w) : ∀ r : Nat, r < wN w → w (200 + 122 * (r : Int)) = 1 → w (201 + 122 * (r : Int) + (k : Int)) = -1 := by
  intro r hr hi
  have h3 := sFind_lt (p := fun k => decide (sNewW w (k : Int) ≠ -1)) (k := 60 - (w 18).toNat) (lo := (w 18).toNat) (j := k) (by omega) (by unfold sNext at h2; exact h2)
  have h4 : sNewW w (k : Int) = -1 := by
    have := of_decide_eq_false h3
    omega
  unfold sNewW at h4
  have h5 : sNewI w (k : Int) = wN w := by
    refine Classical.byContradiction (fun q => ?_)
    rw [if_neg q] at h4; omega
  have h6 := sNewI_none h5 r hr
  refine Classical.byContradiction (fun q => ?_)
  rw [show wInp w r = true from decide_eq_true hi, show wHas w (k : Int) r = true from decide_eq_true q] at h6
  cases h6
theorem sNext_60 (hO : wOk w) : sNext w = 60 ↔ sLeft w = 0 := by
  obtain ⟨hR, o0, o1, o2, o3, o4, o5, o6, oc, o13, o14, o16, o17, o18, ov⟩ := id hO
  have hN := wN_i o0.1
  have hn := sNext_le w o18
  constructor
  · intro h
    have key : ∀ n : Nat, n ≤ wN w → pSum (fun r => if w (200 + 122 * r) = 1 then sLeftR w r 60 else 0) n = 0 := by
      intro n
      induction n with
      | zero => intro _; rfl
      | succ n ih =>
        intro hn1
        rw [pSum_s, ih (by omega)]
        by_cases hi : w (200 + 122 * (n : Int)) = 1
        · rw [if_pos hi]
          have h0 : ∀ k : Nat, k ≤ 60 → sLeftR w (n : Int) k = 0 := by
            intro k
            induction k with
            | zero => intro _; rfl
            | succ k ihk =>
              intro hk
              have := ihk (by omega)
              unfold sLeftR at this ⊢
              rw [pSum_s, this]
              by_cases h18 : (k : Int) < w 18
              · rw [if_pos h18]; rfl
              · rw [if_neg h18, if_pos (sNext_no o18.1 (by omega) (by omega) n (by omega) hi)]; rfl
          rw [h0 60 (Nat.le_refl _)]; rfl
        · rw [if_neg hi]; rfl
    exact key _ (Nat.le_refl _)
  · intro h
    refine Classical.byContradiction (fun hne => ?_)
    have hlt : sNext w < 60 := by omega
    have hm := sNext_hit o18 hlt
    obtain ⟨h1, -⟩ := sNewI_p hm
    obtain ⟨m, hm2⟩ : ∃ m : Nat, m = sNewI w (sNext w : Int) := ⟨_, rfl⟩
    rw [← hm2] at h1 hm
    have hi : w (200 + 122 * (m : Int)) = 1 := by
      cases q : wInp w m
      · rw [q] at h1; cases h1
      · exact of_decide_eq_true q
    have hv : w (201 + 122 * (m : Int) + (sNext w : Int)) ≠ -1 := by
      cases q : wHas w (sNext w : Int) m
      · rw [q, Bool.and_false] at h1; cases h1
      · exact of_decide_eq_true q
    have g1 := pSum_ge (f := fun k => if k < w 18 then 0 else if w (201 + 122 * (m : Int) + k) = -1 then 0 else 1) (k := sNext w) (n := 60) (fun j _ => by split; omega; split <;> omega) hlt
    rw [if_neg (by omega), if_neg hv] at g1
    have g2 := pSum_ge (f := fun r => if w (200 + 122 * r) = 1 then sLeftR w r 60 else 0) (k := m) (n := wN w) (fun j _ => by have := sLeftR_bd w (j : Int) 60; split <;> omega) hm
    rw [if_pos hi] at g2
    have g3 : 1 ≤ sLeftR w (m : Int) 60 := g1
    unfold sLeft at h
    omega
theorem sTakes_c {key : Int} {j : Int} (h : j < 7 ∨ (8 < j ∧ j < 18) ∨ (18 < j ∧ j < 79) ∨ 199 ≤ j) (hk : 0 ≤ key ∧ key < 60) : sTakes w key j = w j := by
  unfold sTakes
  rw [wS_ne _ _ _ (by omega)]
  split
  · unfold sTk2 sTk1
    rw [wS_ne _ _ _ (by omega), wS_ne _ _ _ (by omega), wS_ne _ _ _ (by omega), wS_ne _ _ _ (by omega)]
  · unfold sTk1
    rw [wS_ne _ _ _ (by omega)]
theorem sTakes_18b {key : Int} : sTakes w key 18 = key + 1 := by unfold sTakes; exact wS_at _ _ _
theorem eqR_takes {key : Int} (hk : 0 ≤ key ∧ key < 60) : eqR w (sTakes w key) := ⟨sTakes_c (by omega) hk, fun j h1 h2 => sTakes_c (by omega) hk⟩
theorem sLeft_takes (hO : wOk w) (hlt : sNext w < 60) : sLeft (sTakes w (sNext w : Int)) = sLeft w - sSeen w (sNext w : Int) (wN w) := by
  obtain ⟨hR, o0, o1, o2, o3, o4, o5, o6, oc, o13, o14, o16, o17, o18, ov⟩ := id hO
  have hN := wN_i o0.1
  have hn := sNext_le w o18
  have hk : 0 ≤ (sNext w : Int) ∧ (sNext w : Int) < 60 := by omega
  have he := eqR_takes (w := w) hk
  have hrow : ∀ r : Nat, r < wN w → (if w (200 + 122 * (r : Int)) = 1 then sLeftR (sTakes w (sNext w : Int)) (r : Int) 60 else 0) = (if w (200 + 122 * (r : Int)) = 1 then sLeftR w (r : Int) 60 else 0) - (if w (200 + 122 * (r : Int)) = 1 ∧ w (201 + 122 * (r : Int) + (sNext w : Int)) ≠ -1 then 1 else 0) := by
    intro r hr
    by_cases hi : w (200 + 122 * (r : Int)) = 1
    · rw [if_pos hi, if_pos hi]
      unfold sLeftR
      rw [sTakes_18b]
      have h1 := pSum_one (f := fun k => if k < w 18 then 0 else if w (201 + 122 * (r : Int) + k) = -1 then 0 else 1) (g := fun k => if k < (sNext w : Int) + 1 then 0 else if sTakes w (sNext w : Int) (201 + 122 * (r : Int) + k) = -1 then 0 else 1) (k := sNext w) (fun j hj => by
        show (if (j : Int) < (sNext w : Int) + 1 then (0 : Int) else if sTakes w (sNext w : Int) (201 + 122 * (r : Int) + (j : Int)) = -1 then 0 else 1) = if (j : Int) < w 18 then 0 else if w (201 + 122 * (r : Int) + (j : Int)) = -1 then 0 else 1
        rw [sTakes_c (by omega) hk]
        by_cases c1 : (j : Int) < w 18
        · rw [if_pos (by omega), if_pos c1]
        · rw [if_neg c1]
          by_cases c2 : (j : Int) < (sNext w : Int) + 1
          · rw [if_pos c2, if_pos (sNext_no o18.1 (by omega) (by omega) r hr hi)]
          · rw [if_neg c2]) 60
      rw [h1, if_pos hlt, if_pos (by omega), if_neg (by omega)]
      by_cases hv : w (201 + 122 * (r : Int) + (sNext w : Int)) = -1
      · rw [if_pos hv, if_neg (fun q => q.2 hv)]; omega
      · rw [if_neg hv, if_pos ⟨hi, hv⟩]; omega
    · rw [if_neg hi, if_neg hi, if_neg (fun q => hi q.1)]; rfl
  have key : ∀ n : Nat, n ≤ wN w → pSum (fun r => if sTakes w (sNext w : Int) (200 + 122 * r) = 1 then sLeftR (sTakes w (sNext w : Int)) r 60 else 0) n = pSum (fun r => if w (200 + 122 * r) = 1 then sLeftR w r 60 else 0) n - sSeen w (sNext w : Int) n := by
    intro n
    induction n with
    | zero => intro _; rfl
    | succ n ih =>
      intro hn1
      have := hrow n (by omega)
      unfold sSeen at ih ⊢
      rw [pSum_s, pSum_s, pSum_s, ih (by omega), sTakes_c (by omega) hk, this]
      omega
  unfold sLeft
  rw [he.n]
  exact key _ (Nat.le_refl _)
theorem wRn_takes (h : wRn w) (hO : wOk w) (hby : w 16 = 1) {key : Int} (hk : 0 ≤ key ∧ key < 60) : wRn (sTakes w key) := by
  have he := eqR_takes (w := w) hk
  have hN := hO.2.1
  refine ⟨fun r hr => ?_, fun q => by rw [sTakes_c (by omega) hk] at q; omega⟩
  rw [he.1] at hr
  rw [he.2 _ (by omega) (by omega), he.2 _ (by omega) (by omega), he.ent ⟨by omega, by omega⟩]
  exact h.1 r hr
/-- the last of the inputs -/
theorem sOld_max : ∀ {r s : Nat}, s < r → wInp w s = true → (s : Int) ≤ sOld w r
  | 0, s, h, _ => absurd h (Nat.not_lt_zero _)
  | r + 1, s, h, hi => by
    rw [sOld]
    by_cases q : wInp w r = true
    · rw [if_pos q]; omega
    · rw [if_neg q]
      have : s ≠ r := fun e => q (e ▸ hi)
      exact sOld_max (by omega) hi
theorem pAll_f {p : Nat → Bool} {lo j : Nat} (hj : p j = false) : ∀ {k : Nat}, lo ≤ j → j < lo + k → pAll p lo k = false
  | 0, h1, h2 => by omega
  | k + 1, h1, h2 => by
    rw [pAll]
    by_cases e : j = lo + k
    · rw [← e, hj, Bool.and_false]
    · rw [pAll_f hj h1 (by omega)]; rfl
theorem pAll_t {p : Nat → Bool} {lo : Nat} : ∀ {k : Nat}, (∀ j : Nat, lo ≤ j → j < lo + k → p j = true) → pAll p lo k = true
  | 0, _ => rfl
  | k + 1, h => by rw [pAll, pAll_t (fun j h1 h2 => h j h1 (by omega)), h (lo + k) (by omega) (by omega)]; rfl
theorem sBh_s (key : Int) : ∀ (k lo : Nat), sBh w key (k + 1) lo = (sBh w key k lo || wHas w key (lo + k))
  | 0, lo => by simp [sBh]
  | k + 1, lo => by rw [sBh, sBh_s key k (lo + 1), sBh, show lo + 1 + k = lo + (k + 1) by omega, Bool.or_assoc]
theorem sLow_bh {key : Int} {o : Nat} (ho : (o : Int) = sOld w (wN w)) : sLow w key (wN w) = sBh w key (wN w - (o + 1)) (o + 1) := by
  obtain ⟨s, s1, s2, s3⟩ := sOld_inp (w := w) (r := wN w) (by omega)
  have e : s = o := by omega
  subst e
  have h1 : ∀ r : Nat, r ≤ s + 1 → sLow w key r = false := by
    intro r
    induction r with
    | zero => intro _; rfl
    | succ r ih =>
      intro hr
      rw [sLow, ih (by omega)]
      by_cases e : r = s
      · subst e; rw [s3]; rfl
      · rw [pAll_f (j := s) (by rw [s3]; rfl) (by omega) (by omega), Bool.and_false]; simp
  have h2 : ∀ k : Nat, s + 1 + k ≤ wN w → sLow w key (s + 1 + k) = sBh w key k (s + 1) := by
    intro k
    induction k with
    | zero => intro _; exact h1 _ (by omega)
    | succ k ih =>
      intro hk
      have hni : ∀ j : Nat, s + 1 ≤ j → j < wN w → wInp w j = false := fun j j1 j2 => by
        cases q : wInp w j
        · rfl
        · have := sOld_max j2 q; omega
      rw [← Nat.add_assoc, sLow, ih (by omega), sBh_s, hni _ (by omega) (by omega), pAll_t (fun j j1 j2 => by rw [hni j (by omega) (by omega)]; rfl)]
      simp
  have := h2 (wN w - (s + 1)) (by omega)
  rw [show s + 1 + (wN w - (s + 1)) = wN w by omega] at this
  exact this
theorem SR.at {key : Int} {m : Int} (h : SR T F I P Y a w) (hby : w 16 = 1) (hk : 0 ≤ key ∧ key < 60) (hm : m = sLeft (wS w 18 (key + 1))) : SR T (upF (upF F (a + 44) 2 (key + 1)) (a + 44) 3 m) I P Y a (wS w 18 (key + 1)) := by
  obtain ⟨g1, g2, ⟨π, g3⟩, g4, g5⟩ := id h
  have N := g1.1.2.1
  obtain ⟨-, ⟨s1, s2, s3⟩, -, -, -, s4⟩ := g3
  have hw : ∀ j : Int, j ≠ 18 → wS w 18 (key + 1) j = w j := fun j hj => wS_ne _ _ _ hj
  have he : eqR w (wS w 18 (key + 1)) := eqR_S _ _ _ (by omega)
  have fn : ∀ b : Nat, b ≠ a + 44 → upF (upF F (a + 44) 2 (key + 1)) (a + 44) 3 m b = F b := fun b hb => by rw [upF_na _ _ _ _ hb, upF_na _ _ _ _ hb]
  refine h.mv (fun b hb hb2 => fn b (by omega)) (fun _ _ _ _ => rfl) (wOk_S g1.1 _ _ (by unfold wCell; omega)) (wHi_S _ _ _ (by omega)) (hw _ (by omega)) (fun j _ _ => hw _ (by omega)) ⟨s1.mv (fn _ (by omega)) (fun j _ _ _ => hw _ (by omega)), s2.mv (fn _ (by omega)) (fun j _ _ => hw _ (by omega)), ?_⟩
    ((s4.heap (fn _ (by omega)) (fun _ _ => rfl)).congr (hw _ (by omega)) (fun j _ _ => hw _ (by omega)) g1.1.2.2.2.2.2.2.2.2.2.2.1.2) ((g4.heap (fn _ (by omega)) rfl rfl rfl rfl).congr he N (hw _ (by omega)) (hw _ (by omega)) (hw _ (by omega))) (by rw [upF_at]; exact hm)
  obtain ⟨j0, j1, j2⟩ := s3
  refine ⟨by rw [upF_nk _ _ _ _ (by omega), upF_nk _ _ _ _ (by omega), hw _ (by omega)]; exact j0, ?_, ?_⟩
  · rw [upF_nk _ _ _ _ (by omega), upF_nk _ _ _ _ (by omega), j1]; unfold sGoal; rw [hw _ (by omega), hw _ (by omega)]
  · rw [upF_nk _ _ _ _ (by omega), upF_at, hw 16 (by omega), if_pos hby, wS_at]
theorem sGoal_S {i v : Int} (h : i ≠ 16 ∧ i ≠ 17) : sGoal (wS w i v) = sGoal w := by unfold sGoal; rw [wS_ne _ _ _ (by omega), wS_ne _ _ _ (by omega)]
end RBK

