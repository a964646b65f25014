/-! a run told by a text -/
def sRow0 (w : Int → Int) (lv : Int) : Int → Int := wE (wS (wS (sHalt w) (199 + 122 * w 0) lv) (200 + 122 * w 0) 0) (201 + 122 * w 0) 60
def sPut (ks vs : Int → Int) (w : Int → Int) (r : Int) : Nat → Int → Int
  | 0 => w
  | i + 1 => wS (wS (sPut ks vs w r i) (201 + 122 * r + ks (i : Int)) (vs (i : Int))) (261 + 122 * r + ks (i : Int)) 0
def sAdd (w : Int → Int) (lv : Int) (ks vs : Int → Int) (n : Nat) : Int → Int := wS (sPut ks vs (sRow0 w lv) (w 0) n) 0 (w 0 + 1)
section RBA
variable {T : Nat → Nat × Int} {F F' : Nat → Nat → Int} {I I' : Nat → Int → Int} {P P' : Nat → Nat → Option Nat} {Y Y' : Nat → Int → Option Nat} {a : Nat} {π : Nat → Nat} {w w' : Int → Int}
theorem sPut_c {ks vs : Int → Int} {r : Int} (hk : ∀ i : Nat, 0 ≤ ks (i : Int) ∧ ks (i : Int) < 60) {j : Int} (h : j < 201 + 122 * r ∨ 321 + 122 * r ≤ j) : ∀ n : Nat, sPut ks vs w r n j = w j
  | 0 => rfl
  | n + 1 => by have := hk n; rw [sPut, wS_ne _ _ _ (by omega), wS_ne _ _ _ (by omega), sPut_c hk h n]
theorem RB.push {r : Nat} (h : RB T F I P Y a π w) (hr : (r : Int) = w 0) (hN : w 0 < 12) (h14 : w 14 ≤ 60) (hrow : rRun F' I' (a + 2 + 3 * π r) w' (r : Int)) (f1 : F' a 1 = w 0 + 1) (fa : ∀ k : Nat, k ≠ 1 → F' a k = F a k) (fo : ∀ b : Nat, b ≠ a → b ≠ a + 2 + 3 * π r → F' b = F b) (io : ∀ b : Nat, b ≠ a + 2 + 3 * π r + 1 → b ≠ a + 2 + 3 * π r + 2 → I' b = I b)
    (w0 : w' 0 = w 0 + 1) (hw : ∀ j : Int, j ≠ 0 → (j < 199 + 122 * w 0 ∨ 321 + 122 * w 0 ≤ j) → w' j = w j) : RB T F' I' P Y a π w' := by
  obtain ⟨⟨g1, g2⟩, ⟨s2, s3, s4⟩, gr, gt, go, gj⟩ := h
  have q := g2.2.2.2.1 r (by omega)
  refine ⟨⟨g1, g2⟩, ⟨?_, s3.mv (fo _ (by omega) (by omega)) (fun j _ _ => hw _ (by omega) (by omega)), s4.mv (by rw [fo _ (by omega) (by omega)]) (by rw [fo _ (by omega) (by omega)]) (by rw [fo _ (by omega) (by omega)]) (hw _ (by omega) (by omega)) (hw _ (by omega) (by omega)) (hw _ (by omega) (by omega))⟩, fun k hk => ?_, ?_, ?_, (gj.heap (fo _ (by omega) (by omega)) (fun c hc => io _ (by omega) (by omega))).congr (hw _ (by omega) (by omega)) (fun j _ _ => hw _ (by omega) (by omega)) h14⟩
  · obtain ⟨c1, c9, c10, c11, c12, c13, c14, c15⟩ := s2
    unfold rSc
    rw [w0, hw 1 (by omega) (by omega), hw 3 (by omega) (by omega), hw 4 (by omega) (by omega), hw 5 (by omega) (by omega), hw 6 (by omega) (by omega), hw 13 (by omega) (by omega), hw 15 (by omega) (by omega)]
    exact ⟨f1, by rw [fa _ (by omega)]; exact c9, by rw [fa _ (by omega)]; exact c10, by rw [fa _ (by omega)]; exact c11, by rw [fa _ (by omega)]; exact c12, by rw [fa _ (by omega)]; exact c13, by rw [fa _ (by omega)]; exact c14, by rw [fa _ (by omega)]; exact c15⟩
  · rw [w0] at hk
    by_cases e : k = r
    · subst e; exact hrow
    · have := g2.ne (i := k) (j := r) (by omega) (by omega) e
      exact ((gr k (by omega)).heap (fo _ (by omega) (by omega)) (io _ (by omega) (by omega)) (io _ (by omega) (by omega))).congr (fun j _ _ => hw _ (by omega) (by omega))
  · have := g2.ne (i := 12) (j := r) (by omega) (by omega) (by omega)
    exact (gt.heap (fo _ (by omega) (by omega)) (io _ (by omega) (by omega)) (io _ (by omega) (by omega))).congr (fun j _ _ => hw _ (by omega) (by omega))
  · have := g2.ne (i := 13) (j := r) (by omega) (by omega) (by omega)
    exact (go.heap (fo _ (by omega) (by omega)) (io _ (by omega) (by omega)) (io _ (by omega) (by omega))).congr (fun j _ _ => hw _ (by omega) (by omega))
theorem sRow0_c {lv j : Int} (h : j < 199 + 122 * w 0 ∨ 321 + 122 * w 0 ≤ j ∨ (261 + 122 * w 0 ≤ j ∧ j < 321 + 122 * w 0)) : sRow0 w lv j = sHalt w j := by
  unfold sRow0
  exact (if_neg (by omega)).trans (by rw [wS_ne _ _ _ (by omega), wS_ne _ _ _ (by omega)])
theorem wOk_row0 (hO : wOk w) (hN : w 0 < 12) {lv : Int} (hl : 0 ≤ lv ∧ lv ≤ 3) : wOk (sRow0 w lv) := by
  have := hO.2.1.1
  exact wOk_E (wOk_S (wOk_S (wOk_halt hO) _ _ (by unfold wCell; omega)) _ _ (by unfold wCell; omega)) _ (by omega)
theorem wOk_put {ks vs : Int → Int} (hO : wOk w) {r : Int} (hr : 0 ≤ r ∧ r < 12) (hk : ∀ i : Nat, 0 ≤ ks (i : Int) ∧ ks (i : Int) < 60) (hv : ∀ i : Nat, 0 ≤ vs (i : Int) ∧ vs (i : Int) ≤ 100) : ∀ n : Nat, wOk (sPut ks vs w r n)
  | 0 => hO
  | n + 1 => by
    have h1 := hk n
    have h2 := hv n
    exact wOk_S (wOk_S (wOk_put hO hr hk hv n) _ _ (by unfold wCell; omega)) _ _ (by unfold wCell; omega)
theorem sPut_pos {ks vs : Int → Int} {r : Int} (hk : ∀ i : Nat, 0 ≤ ks (i : Int) ∧ ks (i : Int) < 60) (hv : ∀ i : Nat, 0 ≤ vs (i : Int) ∧ vs (i : Int) ≤ 100) {n : Nat} (hn : 0 < n) : 0 < sEnt (sPut ks vs w r n) (201 + 122 * r) := by
  obtain ⟨m, rfl⟩ : ∃ m, n = m + 1 := ⟨n - 1, by omega⟩
  have h1 := hk m
  have h2 := hv m
  refine sEnt_pos (key := ks (m : Int)) h1 ?_
  rw [sPut, wS_ne _ _ _ (by omega), wS_at]; omega
theorem wInv_add {ks vs : Int → Int} {n : Nat} {lv : Int} (h : wInv w) (hN : w 0 < 12) (hl : 0 ≤ lv ∧ lv ≤ 3) (hk : ∀ i : Nat, 0 ≤ ks (i : Int) ∧ ks (i : Int) < 60) (hv : ∀ i : Nat, 0 ≤ vs (i : Int) ∧ vs (i : Int) ≤ 100) (hn : 0 < n) : wInv (sAdd w lv ks vs n) ∧ wHi w (sAdd w lv ks vs n) ∧ ∀ j : Int, j ≠ 0 → (j < 199 + 122 * w 0 ∨ 321 + 122 * w 0 ≤ j) → sAdd w lv ks vs n j = sHalt w j := by
  have h0 := h.1.1.2.1.1
  have hH := wInv_halt h
  have hc : ∀ j : Int, j ≠ 0 → (j < 199 + 122 * w 0 ∨ 321 + 122 * w 0 ≤ j) → sAdd w lv ks vs n j = sHalt w j := fun j j0 hj => by
    unfold sAdd
    rw [wS_ne _ _ _ j0, sPut_c hk (by omega), sRow0_c (by omega)]
  have hhi : wHi w (sAdd w lv ks vs n) := (wHi_halt2 h.1.1.2.1.2).tr ⟨hc 2 (by omega) (by omega), fun j hj => hc j (by omega) (by omega)⟩
  have w0 : sAdd w lv ks vs n 0 = w 0 + 1 := wS_at _ _ _
  have h16 : sAdd w lv ks vs n 16 = 0 := (hc 16 (by omega) (by omega)).trans (sHalt_16 h.1.1.2.2.2.2.2.2.2.2.2.2.2.1)
  have e0 := sHalt_0 (w := w)
  have hlv : sAdd w lv ks vs n (199 + 122 * w 0) = lv := by
    unfold sAdd
    rw [wS_ne _ _ _ (by omega), sPut_c hk (by omega)]
    unfold sRow0
    exact (if_neg (by omega)).trans (by rw [wS_ne _ _ _ (by omega), wS_at])
  have hin : sAdd w lv ks vs n (200 + 122 * w 0) = 0 := by
    unfold sAdd
    rw [wS_ne _ _ _ (by omega), sPut_c hk (by omega)]
    unfold sRow0
    exact (if_neg (by omega)).trans (by rw [wS_at])
  have hrn : wRn (sAdd w lv ks vs n) := by
    have hrows : ∀ r : Nat, (r : Int) < sAdd w lv ks vs n 0 → (0 ≤ sAdd w lv ks vs n (199 + 122 * (r : Int)) ∧ sAdd w lv ks vs n (199 + 122 * (r : Int)) ≤ 3) ∧ sAdd w lv ks vs n (200 + 122 * (r : Int)) = 0 ∧ 0 < sEnt (sAdd w lv ks vs n) (201 + 122 * (r : Int)) := by
      intro r hr
      rw [w0] at hr
      by_cases e : (r : Int) = w 0
      · rw [e, hlv, hin]
        refine ⟨hl, rfl, ?_⟩
        have := sPut_pos (w := sRow0 w lv) (r := w 0) hk hv hn
        rw [sEnt_p] at this ⊢
        rw [pCnt_congr (u := fun k => sAdd w lv ks vs n (201 + 122 * w 0 + k)) (v := fun k => sPut ks vs (sRow0 w lv) (w 0) n (201 + 122 * w 0 + k)) (fun k _ _ => wS_ne _ _ _ (by omega))]
        exact this
      · rw [hc _ (by omega) (by omega), hc _ (by omega) (by omega)]
        have hr2 : (r : Int) < sHalt w 0 := by rw [e0]; omega
        refine ⟨(hH.2.1.1 r hr2).1, ((hH.2.1.2 (sHalt_16 h.1.1.2.2.2.2.2.2.2.2.2.2.2.1)).1 r hr2), ?_⟩
        rw [sEnt_p, pCnt_congr (v := fun k => sHalt w (201 + 122 * (r : Int) + k)) (fun k _ _ => hc _ (by omega) (by omega))]
        exact (hH.2.1.1 r hr2).2.2
    exact ⟨fun r hr => ⟨(hrows r hr).1, Or.inl (hrows r hr).2.1, (hrows r hr).2.2⟩, fun _ => ⟨fun r hr => (hrows r hr).2.1, fun k k0 k1 => by rw [hc _ (by omega) (by omega)]; exact (hH.2.1.2 (sHalt_16 h.1.1.2.2.2.2.2.2.2.2.2.2.2.1)).2 k k0 k1⟩⟩
  refine ⟨⟨h.1.mv (wOk_S (wOk_put (wOk_row0 h.1.1 hN hl) ⟨h0, hN⟩ hk hv n) _ _ (by unfold wCell; omega)) hhi, hrn, fun q => by rw [h16] at q; omega, ?_⟩, hhi, hc⟩
  rw [hc 11 (by omega) (by omega)]; exact hH.2.2.2
end RBA

