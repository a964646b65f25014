/-! the ledger and its model, side by side -/
section LIN
variable {T T1 : Nat → Nat × Int} {F F1 F2 F' : Nat → Nat → Int} {I I1 I2 I' : Nat → Int → Int} {P P1 : Nat → Nat → Option Nat} {Y Y1 : Nat → Int → Option Nat} {o m z z1 s : Nat} {u u' w w2 : wWo} {ws ws1 ws' : Nat → Option wWo}
theorem wsU_at {x : Option wWo} : wsU ws s x s = x := if_pos rfl
theorem wsU_na {x : Option wWo} {j : Nat} (h : j ≠ s) : wsU ws s x j = ws j := if_neg h
theorem wsU_id (h : ws s = some u) : wsU ws s (some u) = ws := by
  funext j; unfold wsU
  by_cases e : j = s
  · rw [if_pos e, e, h]
  · rw [if_neg e]
/-- another name of a world that is the same but for its draft -/
theorem LK.weq (h : LK T F I P Y o m z ws) (hu : ws s = some u) (he : wEq u u') (hR : w32 u') : LK T F I P Y o m z (wsU ws s (some u')) := by
  obtain ⟨hs, hd, v1, v2, hg⟩ := h
  refine ⟨hs, hd, v1, fun s1 u1 h9 h1 => ?_, hg⟩
  by_cases e : s1 = s
  · subst e
    rw [wsU_at] at h1; cases h1
    obtain ⟨x, e1, e2, e3⟩ := v2 s1 u h9 hu
    exact ⟨x, e1, e2.wq he hR, e3.wq he hR⟩
  · rw [wsU_na e] at h1
    exact v2 s1 u1 h9 h1
/-- some worlds are forgotten -/
theorem LK.less (h : LK T F I P Y o m z ws) (hw : ∀ (s : Nat) (u : wWo), ws' s = some u → ws s = some u) : LK T F I P Y o m z ws' := by
  obtain ⟨hs, hd, v1, v2, hg⟩ := h
  exact ⟨hs, hd, v1, fun s1 u1 h9 h1 => v2 s1 u1 h9 (hw s1 u1 h1), hg⟩
/-- the model's cells are none of the ledger's -/
theorem LK.mfr (h : LK T F I P Y o m z ws) (hF : ∀ b : Nat, b < m ∨ m + 13 ≤ b → F' b = F b) (hI : ∀ b : Nat, b < m ∨ m + 13 ≤ b → I' b = I b) : LK T F' I' P Y o m z ws := by
  obtain ⟨hs, hd, v1, v2, hg, z1, z2, z3⟩ := h
  obtain ⟨d1, d2, d3, d4⟩ := id hd
  refine ⟨hs, hd, fun s x hs9 hx => ?_, fun s u hs9 hu => ?_, hg.fr (hI _ (by omega)) (hI _ (by omega)), z1, z2, z3⟩
  · have := d1 s x hs9 hx
    exact (v1 s x hs9 hx).fr (fun b b0 b1 => ⟨rfl, hF b (by omega), rfl, rfl⟩)
  · obtain ⟨x, e1, e2, e3⟩ := v2 s u hs9 hu
    have e4 := d1 s x hs9 e1
    refine ⟨x, e1, e2.fr ⟨fun b b0 b1 => ⟨rfl, hF b (by omega), hI b (by omega), rfl, rfl⟩, fun l hl b b0 b1 => ?_⟩, e3⟩
    have e5 := d3 s x l hs9 e1 hl
    exact ⟨rfl, hF b (by omega), fun _ => hI b (by omega), rfl⟩
/-- the undos of the ledger are the model's acts -/
def LU (f c : Int) (ws : Nat → Option wWo) (A w : wWo) : Prop := ∀ i : Nat, (i : Int) < c → ∃ u : wWo, ws (((f + (i : Int)) % 12).toNat + 3) = some u ∧ (∀ j : Int, 0 ≤ j → j < 1903 → u j = A (1903 * (i : Int) + j)) ∧ ∀ j : Int, 1903 ≤ j → j < 2752 → u j = w j
/-- what the law's loop keeps -/
def LI (o m z : Nat) (T : Nat → Nat × Int) (F : Nat → Nat → Int) (I : Nat → Int → Int) (P : Nat → Nat → Option Nat) (Y : Nat → Int → Option Nat) (ws : Nat → Option wWo) : Prop :=
  LK T F I P Y o m z ws ∧ (ws 0 = some (I (m + 1)) ∧ ∀ (s : Nat) (u : wWo), s < 15 → ws s = some u → u 10 ≤ 9999) ∧ (∃ x : Nat, P o 4 = some x) ∧ (wM T P m ∧ (T (m + 12)).1 = 16 ∧ (T (m + 12)).2 = 1) ∧
  ((0 ≤ F o 7 ∧ F o 7 < 12) ∧ (0 ≤ F o 8 ∧ F o 8 ≤ 12) ∧ F m 7 = F o 8 ∧ F m 9 = F o 1 ∧ F m 14 = F o 2) ∧
  ((0 ≤ F o 1 ∧ F o 1 ≤ 400) ∧ (∀ j : Int, 0 ≤ j → j < 400 → 0 ≤ I (o + 1) j ∧ I (o + 1) j ≤ 255) ∧ rTp (I (o + 1)) (I (m + 6)) (F o 1) ∧ ∀ j : Int, -128 ≤ I (m + 6) j ∧ I (m + 6) j ≤ 127) ∧
  (w32 (I (m + 2)) ∧ ((P o 5 = none ∧ F m 6 = 0) ∨ ((∃ x : Nat, P o 5 = some x) ∧ F m 6 = 1 ∧ ws 2 = some (I (m + 2))))) ∧
  LU (F o 7) (F o 8) ws (I (m + 5)) (I (m + 1)) ∧ (F o 2 = F o 2)
/-- a step of the ledger's: what it leaves -/
def LSt (o m z : Nat) (T : Nat → Nat × Int) (F : Nat → Nat → Int) (I : Nat → Int → Int) (P : Nat → Nat → Option Nat) (Y : Nat → Int → Option Nat) (z1 : Nat) (T1 : Nat → Nat × Int) (F1 : Nat → Nat → Int) (I1 : Nat → Int → Int) (P1 : Nat → Nat → Option Nat) (Y1 : Nat → Int → Option Nat) (ws1 : Nat → Option wWo) (f1 f2 f7 f8 : Int) : Prop :=
  z ≤ z1 ∧ LK T1 F1 I1 P1 Y1 o m z1 ws1 ∧ ((∃ x : Nat, P1 o 4 = some x) ∧ P1 o 5 = P o 5) ∧ (F1 o 1 = f1 ∧ F1 o 2 = f2 ∧ F1 o 7 = f7 ∧ F1 o 8 = f8) ∧ I1 (o + 1) = I (o + 1) ∧ LF m T F I P Y T1 F1 I1 P1 Y1
/-- a step of the model's -/
def MSt (m : Nat) (F1 : Nat → Nat → Int) (I1 : Nat → Int → Int) (F2 : Nat → Nat → Int) (I2 : Nat → Int → Int) : Prop := (∀ b : Nat, b ≠ m → F2 b = F1 b) ∧ ∀ b : Nat, b < m + 1 ∨ m + 13 ≤ b → I2 b = I1 b
theorem LI.to (h : LI o m z T F I P Y ws) {f1 f2 f7 f8 : Int} (hL : LSt o m z T F I P Y z1 T1 F1 I1 P1 Y1 ws1 f1 f2 f7 f8) (hM : MSt m F1 I1 F2 I2)
    (h0 : ws1 0 = some u) (he : wEq u (I2 (m + 1))) (hR : w32 (I2 (m + 1))) (hten : ∀ (s : Nat) (u : wWo), s < 15 → ws1 s = some u → u 10 ≤ 9999)
    (h7 : 0 ≤ f7 ∧ f7 < 12) (h8 : 0 ≤ f8 ∧ f8 ≤ 12) (hn : F2 m 7 = f8 ∧ F2 m 9 = f1 ∧ F2 m 14 = f2) (hf : 0 ≤ f1 ∧ f1 ≤ F o 1) (hf2 : f2 = f2) (h6 : I2 (m + 6) = I (m + 6))
    (hk : F2 m 6 = F m 6 ∧ I2 (m + 2) = I (m + 2) ∧ ws1 2 = ws 2) (hU : LU f7 f8 (wsU ws1 0 (some (I2 (m + 1)))) (I2 (m + 5)) (I2 (m + 1))) : LI o m z1 T1 F2 I2 P1 Y1 (wsU ws1 0 (some (I2 (m + 1)))) := by
  obtain ⟨g1, g2, g3, ⟨g4, g41, g42⟩, g5, ⟨g6, g7, g8, g9⟩, ⟨g10, g11⟩, -, -⟩ := h
  obtain ⟨l1, l2, ⟨l3, l4⟩, ⟨l5, l6, l7, l8⟩, l9, l10⟩ := hL
  obtain ⟨m1, m2⟩ := hM
  have z3 := l2.2.2.2.2.2.2.2
  have hK := (l2.mfr (F' := F2) (I' := I2) (fun b hb => m1 b (by omega)) (fun b hb => m2 b (by omega))).weq h0 he hR
  have e0 : F2 o = F1 o := m1 o (by omega)
  have e1 : I2 (o + 1) = I1 (o + 1) := m2 (o + 1) (by omega)
  have t : ∀ b : Nat, m ≤ b → b < m + 13 → T1 b = T b ∧ P1 b = P b := fun b b0 b1 => ⟨(l10 b b0 b1).1, (l10 b b0 b1).2.2.2.1⟩
  refine ⟨hK, ⟨wsU_at, fun s u1 h9 h1 => ?_⟩, l3, ⟨?_, by rw [(t (m + 12) (by omega) (by omega)).1]; exact g41, by rw [(t (m + 12) (by omega) (by omega)).1]; exact g42⟩, ⟨by rw [e0, l7]; exact h7, by rw [e0, l8]; exact h8, by rw [e0, l8]; exact hn.1, by rw [e0, l5]; exact hn.2.1, by rw [e0, l6]; exact hn.2.2⟩, ⟨by rw [e0, l5]; omega, by rw [e1, l9]; exact g7, by rw [e0, l5, e1, l9, h6]; exact fun j j0 j1 => g8 j j0 (by omega), by rw [h6]; exact g9⟩, ⟨by rw [hk.2.1]; exact g10, ?_⟩, by rw [e0, l7, l8]; exact hU, rfl⟩
  · by_cases e : s = 0
    · subst e
      rw [wsU_at] at h1; cases h1
      rw [he 10 (by omega) (by omega)]; exact hten 0 u (by decide) h0
    · rw [wsU_na e] at h1; exact hten s u1 h9 h1
  · obtain ⟨⟨a1, a2, a3, a4⟩, ⟨b1, b2, b3⟩, ⟨c1, c2, c3⟩, ⟨d1, d2, d3⟩, ⟨e1, e2, e3⟩, ⟨f1, f2, f3⟩, ⟨g1, g2, g3⟩, ⟨h1, h2, h3⟩, ⟨i1, i2, i3⟩, ⟨j1, j2, j3⟩, k1, k2, k3⟩ := g4
    unfold wM
    rw [(t m (by omega) (by omega)).2, (t m (by omega) (by omega)).1, (t (m + 1) (by omega) (by omega)).1, (t (m + 2) (by omega) (by omega)).1, (t (m + 3) (by omega) (by omega)).1, (t (m + 4) (by omega) (by omega)).1, (t (m + 5) (by omega) (by omega)).1, (t (m + 6) (by omega) (by omega)).1, (t (m + 7) (by omega) (by omega)).1, (t (m + 8) (by omega) (by omega)).1, (t (m + 9) (by omega) (by omega)).1, (t (m + 10) (by omega) (by omega)).1, (t (m + 11) (by omega) (by omega)).1]
    exact ⟨⟨a1, a2, a3, a4⟩, ⟨b1, b2, b3⟩, ⟨c1, c2, c3⟩, ⟨d1, d2, d3⟩, ⟨e1, e2, e3⟩, ⟨f1, f2, f3⟩, ⟨g1, g2, g3⟩, ⟨h1, h2, h3⟩, ⟨i1, i2, i3⟩, ⟨j1, j2, j3⟩, k1, k2, k3⟩
  · rw [l4, hk.1, hk.2.1, wsU_na (by decide), hk.2.2]; exact g11
/-- the undos when nothing of them changed -/
theorem LU.same {f c : Int} {A A2 : wWo} (h : LU f c ws A w) (hA : A2 = A) (hw : ∀ s : Nat, 3 ≤ s → s < 15 → ws1 s = ws s) (hl : ∀ j : Int, 1903 ≤ j → j < 2752 → w2 j = w j) (hf : 0 ≤ f ∧ f < 12) : LU f c ws1 A2 w2 := by
  intro i hi
  obtain ⟨u, h1, h2, h3⟩ := h i hi
  subst hA
  exact ⟨u, by rw [hw _ (by omega) (by omega)]; exact h1, h2, fun j j0 j1 => (h3 j j0 j1).trans (hl j j0 j1).symm⟩
theorem LU.zero {f : Int} {A : wWo} : LU f 0 ws A w := fun i hi => absurd hi (by omega)
/-- an act was remembered -/
theorem LU.rem {f c : Int} {A : wWo} (h : LU f c ws A w) (hf : 0 ≤ f ∧ f < 12) (hc : 0 ≤ c ∧ c ≤ 12) (hl : ∀ j : Int, 1903 ≤ j → j < 2752 → w2 j = w j)
    (hw : ∀ s : Nat, 3 ≤ s → s < 15 → s ≠ (rmS f c).toNat + 3 → ws1 s = ws s) (hs : ws1 ((rmS f c).toNat + 3) = some w) : LU (rmF f c) (rmC c + 1) ws1 (sActs A w c) w2 := by
  intro i hi
  unfold rmC at hi
  by_cases hi2 : (i : Int) = rmC c
  · refine ⟨w, ?_, fun j j0 j1 => ?_, fun j j0 j1 => (hl j j0 j1).symm⟩
    · rw [hi2]; exact hs
    · unfold sActs
      by_cases e : c = 12
      · rw [if_pos e]
        unfold rmC at hi2; rw [if_pos e] at hi2
        unfold wCo
        rw [if_pos (by omega)]
        congr 1; omega
      · rw [if_neg e]
        unfold rmC at hi2; rw [if_neg e] at hi2
        unfold wCo
        rw [if_pos (by omega)]
        congr 1; omega
  · by_cases e : c = 12
    · rw [if_pos e] at hi
      unfold rmC at hi2; rw [if_pos e] at hi2
      obtain ⟨u, h1, h2, h3⟩ := h (i + 1) (by omega)
      refine ⟨u, ?_, fun j j0 j1 => ?_, fun j j0 j1 => (h3 j j0 j1).trans (hl j j0 j1).symm⟩
      · have e1 : (rmF f c + (i : Int)) % 12 = (f + ((i + 1 : Nat) : Int)) % 12 := by unfold rmF; rw [if_pos e]; omega
        have e2 : (rmF f c + (i : Int)) % 12 ≠ rmS f c := by unfold rmS rmF rmC; rw [if_pos e, if_pos e]; omega
        have e3 : 0 ≤ rmS f c ∧ rmS f c < 12 := by unfold rmS; omega
        rw [hw _ (by omega) (by omega) (by omega), e1]; exact h1
      · rw [h2 j j0 j1]
        unfold sActs wCo wSb
        rw [if_pos e, if_neg (by omega), if_pos (by omega)]
        congr 1; omega
    · rw [if_neg e] at hi
      unfold rmC at hi2; rw [if_neg e] at hi2
      obtain ⟨u, h1, h2, h3⟩ := h i (by omega)
      refine ⟨u, ?_, fun j j0 j1 => ?_, fun j j0 j1 => (h3 j j0 j1).trans (hl j j0 j1).symm⟩
      · have e1 : rmF f c = f := by unfold rmF; rw [if_neg e]
        have e2 : (f + (i : Int)) % 12 ≠ rmS f c := by unfold rmS rmF rmC; rw [if_neg e, if_neg e]; omega
        have e3 : 0 ≤ rmS f c ∧ rmS f c < 12 := by unfold rmS; omega
        rw [e1, hw _ (by omega) (by omega) (by omega)]; exact h1
      · rw [h2 j j0 j1]
        unfold sActs wCo
        rw [if_neg e, if_neg (by omega)]
end LIN

