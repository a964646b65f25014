/-! steps of the store, as steps of the world -/
section RBS
variable {T : Nat → Nat × Int} {F F' : Nat → Nat → Int} {I I' : Nat → Int → Int} {P P' : Nat → Nat → Option Nat} {Y Y' : Nat → Int → Option Nat} {a : Nat} {π : Nat → Nat} {w w' : Int → Int}
theorem sTold_14b (w : Int → Int) (x y v : Int) : sTold w x y v 14 = min 60 (w 14 + 1) := by
  unfold sTold
  rw [wS_at, wS_ne _ _ _ (by omega), wS_ne _ _ _ (by omega), wS_ne _ _ _ (by omega), wS_ne _ _ _ (by omega), wLk_lo _ (by omega) (by omega)]
theorem sTold_hi (w : Int → Int) (x y v : Int) {j : Int} (h : 1667 ≤ j ∧ j < 1903) : sTold w x y v j = w (j - 4) := by
  unfold sTold
  rw [wS_ne _ _ _ (by omega), wS_ne _ _ _ (by omega), wS_ne _ _ _ (by omega), wS_ne _ _ _ (by omega), wS_ne _ _ _ (by omega)]
  exact if_pos (by omega)
theorem sTold_row (w : Int → Int) (x y v : Int) : sTold w x y v 1663 = w 13 ∧ sTold w x y v 1664 = x ∧ sTold w x y v 1665 = y ∧ sTold w x y v 1666 = v := by
  unfold sTold
  refine ⟨?_, ?_, ?_, ?_⟩
  · rw [wS_ne _ _ _ (by omega), wS_ne _ _ _ (by omega), wS_ne _ _ _ (by omega), wS_ne _ _ _ (by omega), wS_at, wLk_lo _ (by omega) (by omega)]
  · rw [wS_ne _ _ _ (by omega), wS_ne _ _ _ (by omega), wS_ne _ _ _ (by omega), wS_at]
  · rw [wS_ne _ _ _ (by omega), wS_ne _ _ _ (by omega), wS_at]
  · rw [wS_ne _ _ _ (by omega), wS_at]
theorem sTold_up (w : Int → Int) (x y v : Int) {j : Int} (h : 1903 ≤ j) : sTold w x y v j = w j := by
  unfold sTold
  rw [wS_ne _ _ _ (by omega), wS_ne _ _ _ (by omega), wS_ne _ _ _ (by omega), wS_ne _ _ _ (by omega), wS_ne _ _ _ (by omega)]
  exact if_neg (by omega)
theorem iNote_na {x y v u : Int} {l b : Nat} (h : b < l + 1 ∨ l + 4 < b) : iNote F I l x y v u b = I b := by
  unfold iNote; rw [upI_na _ _ _ _ (by omega), upI_na _ _ _ _ (by omega), upI_na _ _ _ _ (by omega), upI_na _ _ _ _ (by omega)]
theorem fNote_na {l b : Nat} (h : b ≠ l) : fNote F l b = F b := by unfold fNote; split <;> exact upF_na _ _ _ _ h
theorem rJo.told {x y v : Int} (h : rJo F I a w) (hN : 0 ≤ w 14 ∧ w 14 ≤ 60) : rJo (fNote F (a + 51)) (iNote F I (a + 51) (w 13) x y v) a (sTold w x y v) := by
  obtain ⟨h1, h2, h3⟩ := h
  have hs : ∀ c : Nat, c < 4 → iNote F I (a + 51) (w 13) x y v (a + 52 + c) = upI I (a + 52 + c) ((F (a + 51) 4 + F (a + 51) 5) % 60) (if c = 0 then w 13 else if c = 1 then x else if c = 2 then y else v) (a + 52 + c) := by
    intro c hc
    unfold iNote
    rcases (show c = 0 ∨ c = 1 ∨ c = 2 ∨ c = 3 by omega) with rfl | rfl | rfl | rfl
    · rw [upI_na _ _ _ _ (by omega), upI_na _ _ _ _ (by omega), upI_na _ _ _ _ (by omega), if_pos rfl]
    · rw [upI_na _ _ _ _ (by omega), upI_na _ _ _ _ (by omega)]
      funext j; unfold upI; simp
    · rw [upI_na _ _ _ _ (by omega)]
      funext j; unfold upI; simp
    · funext j; unfold upI; simp
  have hrow := sTold_row w x y v
  have key : ∀ (k c : Nat) (s : Int), c < 4 → (k : Int) < 60 → s = (F (a + 51) 4 + F (a + 51) 5 - (k : Int)) % 60 → (k = 0 ∨ ((k : Int) - 1 < w 14)) → iNote F I (a + 51) (w 13) x y v (a + 52 + c) s = sTold w x y v (1663 + 4 * (k : Int) + c) := by
    intro k c s hc hk hs2 hk2
    rw [hs c hc]
    by_cases k0 : k = 0
    · subst k0
      rw [show s = (F (a + 51) 4 + F (a + 51) 5) % 60 by omega, upI_at]
      rcases (show c = 0 ∨ c = 1 ∨ c = 2 ∨ c = 3 by omega) with rfl | rfl | rfl | rfl
      · exact hrow.1.symm
      · exact hrow.2.1.symm
      · exact hrow.2.2.1.symm
      · exact hrow.2.2.2.symm
    · rw [upI_nk _ _ _ _ (by omega), sTold_hi _ _ _ _ (by omega)]
      have := h3 (k - 1) c (by omega) hc
      rw [show (F (a + 51) 4 + F (a + 51) 5 - 1 - ((k - 1 : Nat) : Int)) % 60 = s by omega, show 1663 + 4 * ((k - 1 : Nat) : Int) + (c : Int) = 1663 + 4 * (k : Int) + (c : Int) - 4 by omega] at this
      exact this
  unfold rJo
  rw [sTold_14b]
  by_cases hq : 60 ≤ F (a + 51) 5
  · have e : fNote F (a + 51) = upF F (a + 51) 4 ((F (a + 51) 4 + 1) % 60) := if_pos hq
    rw [e, upF_at, upF_nk _ _ _ _ (show (5 : Nat) ≠ 4 by omega)]
    refine ⟨by omega, by omega, fun k c hk hc => key k c _ hc (by omega) (by omega) (by omega)⟩
  · have e : fNote F (a + 51) = upF F (a + 51) 5 (F (a + 51) 5 + 1) := if_neg hq
    rw [e, upF_at, upF_nk _ _ _ _ (show (4 : Nat) ≠ 5 by omega)]
    refine ⟨by omega, by omega, fun k c hk hc => key k c _ hc (by omega) (by omega) (by omega)⟩
theorem RB.told {x y v : Int} (h : RB T F I P Y a π w) (hO : wOk w) : RB T (fNote F (a + 51)) (iNote F I (a + 51) (w 13) x y v) P Y a π (sTold w x y v) := by
  have lo : ∀ j : Int, j < 1663 → j ≠ 14 → sTold w x y v j = w j := fun j h1 h2 => sTold_lo _ _ _ _ h1 h2
  have h2 := h.2.1
  exact h.mv (fun b _ _ => fNote_na (by omega)) (fun b _ _ => iNote_na (by omega)) (lo _ (by omega) (by omega)) (fun j _ _ => lo j (by omega) (by omega)) hO.2.1.2
    ⟨h2.1.mv (fNote_na (by omega)) (fun j _ _ _ => lo j (by omega) (by omega)), h2.2.1.mv (fNote_na (by omega)) (fun j _ _ => lo j (by omega) (by omega)), h2.2.2.mv (by rw [fNote_na (by omega)]) (by rw [fNote_na (by omega)]) (by rw [fNote_na (by omega)]) (lo _ (by omega) (by omega)) (lo _ (by omega) (by omega)) (lo _ (by omega) (by omega))⟩ (h.2.2.2.2.2.told hO.2.2.2.2.2.2.2.2.2.2.1)
theorem SF.told {x y v u : Int} : SF a F I P Y (fNote F (a + 51)) (iNote F I (a + 51) u x y v) P Y := ⟨fun b hb => ⟨fNote_na (by omega), rfl, rfl, fun _ => iNote_na (by omega)⟩, fun _ _ _ => rfl⟩
/-- the rows of the store lie apart -/
theorem wPm.ne {i j : Nat} (h : wPm P Y a π) (hi : i < 14) (hj : j < 14) (hij : i ≠ j) : π i < 14 ∧ π j < 14 ∧ π i ≠ π j := ⟨h.2.2.2.1 i hi, h.2.2.2.1 j hj, fun e => hij (h.2.2.2.2 i j hi hj e)⟩
theorem RB.inp {r : Nat} {v : Int} (h : RB T F I P Y a π w) (hr : (r : Int) < w 0) (hN : w 0 ≤ 12) (h14 : w 14 ≤ 60) : RB T (upF F (a + 2 + 3 * π r) 4 v) I P Y a π (wS w (200 + 122 * (r : Int)) v) := by
  obtain ⟨⟨g1, g2⟩, ⟨s2, s3, s4⟩, gr, gt, go, gj⟩ := h
  have q := g2.2.2.2.1 r (by omega)
  have hw : ∀ j : Int, j ≠ 200 + 122 * (r : Int) → wS w (200 + 122 * (r : Int)) v j = w j := fun j hj => wS_ne _ _ _ hj
  refine ⟨⟨g1, g2⟩, ⟨s2.mv (upF_na _ _ _ _ (by omega)) (fun j _ _ _ => hw _ (by omega)), s3.mv (upF_na _ _ _ _ (by omega)) (fun j _ _ => hw _ (by omega)), s4.mv (by rw [upF_na _ _ _ _ (by omega)]) (by rw [upF_na _ _ _ _ (by omega)]) (by rw [upF_na _ _ _ _ (by omega)]) (hw _ (by omega)) (hw _ (by omega)) (hw _ (by omega))⟩, fun k hk => ?_, ?_, ?_, (gj.heap (upF_na _ _ _ _ (by omega)) (fun _ _ => rfl)).congr (hw _ (by omega)) (fun j _ _ => hw _ (by omega)) h14⟩
  · rw [hw 0 (by omega)] at hk
    by_cases e : k = r
    · subst e
      obtain ⟨d1, d2, d3, d4⟩ := gr k hk
      refine ⟨by rw [upF_nk _ _ _ _ (by omega), hw _ (by omega)]; exact d1, by rw [upF_at, wS_at], ?_⟩
      exact (show rG (upF F (a + 2 + 3 * π k) 4 v) I (a + 2 + 3 * π k) (fun j => w (201 + 122 * (k : Int) + j)) (fun j => w (261 + 122 * (k : Int) + j)) from ⟨by rw [upF_nk _ _ _ _ (by omega)]; exact d3, d4⟩).congr (fun j _ _ => hw _ (by omega)) (fun j _ _ => hw _ (by omega))
    · have := g2.ne (i := k) (j := r) (by omega) (by omega) e
      exact ((gr k hk).heap (upF_na _ _ _ _ (by omega)) rfl rfl).congr (fun j _ _ => hw _ (by omega))
  · have := g2.ne (i := 12) (j := r) (by omega) (by omega) (by omega)
    exact (gt.heap (upF_na _ _ _ _ (by omega)) rfl rfl).congr (fun j _ _ => hw _ (by omega))
  · have := g2.ne (i := 13) (j := r) (by omega) (by omega) (by omega)
    exact (go.heap (upF_na _ _ _ _ (by omega)) rfl rfl).congr (fun j _ _ => hw _ (by omega))
end RBS

