section RBE
variable {T : Nat → Nat × Int} {F F' : Nat → Nat → Int} {I I' : Nat → Int → Int} {P P' : Nat → Nat → Option Nat} {Y Y' : Nat → Int → Option Nat} {a : Nat} {π π0 π1 : Nat → Nat} {w w' : Int → Int} {o n0 : Int}
/-- the runs that stay when a job ends -/
def kK (w : Int → Int) (o n0 : Int) (r : Nat) : Bool := !(wInp w r) || decide ((r : Int) = o ∧ 0 < n0)
def cK (w : Int → Int) (o n0 : Int) : Nat → Nat
  | 0 => 0
  | r + 1 => cK w o n0 r + (if kK w o n0 r = true then 1 else 0)
theorem cK_le : ∀ r : Nat, cK w o n0 r ≤ r
  | 0 => Nat.le_refl _
  | r + 1 => by have := cK_le r; rw [cK]; split <;> omega
theorem cK_inv : ∀ {N j : Nat}, j < cK w o n0 N → ∃ r : Nat, r < N ∧ kK w o n0 r = true ∧ cK w o n0 r = j
  | 0, j, h => absurd h (Nat.not_lt_zero _)
  | N + 1, j, h => by
    rw [cK] at h
    by_cases hj : j < cK w o n0 N
    · obtain ⟨r, h1, h2, h3⟩ := cK_inv hj
      exact ⟨r, by omega, h2, h3⟩
    · by_cases hk : kK w o n0 N = true
      · rw [if_pos hk] at h; exact ⟨N, by omega, hk, by omega⟩
      · rw [if_neg hk] at h; omega
theorem cK_mono : ∀ {s r : Nat}, r ≤ s → cK w o n0 r ≤ cK w o n0 s
  | 0, r, h => by rw [show r = 0 by omega]; exact Nat.le_refl _
  | s + 1, r, h => by
    by_cases e : r = s + 1
    · subst e; exact Nat.le_refl _
    · have := cK_mono (s := s) (r := r) (by omega)
      rw [cK]; split <;> omega
theorem cK_lt {r s : Nat} (h : r < s) (hk : kK w o n0 r = true) : cK w o n0 r < cK w o n0 s := by
  have h1 := cK_mono (w := w) (o := o) (n0 := n0) (s := s) (r := r + 1) (by omega)
  rw [cK, if_pos hk] at h1
  omega
def eL (w : Int → Int) (o n0 : Int) (r : Nat) : Int := if (r : Int) = o ∧ 0 < n0 then w 17 else w (199 + 122 * (r : Int))
def eV (w : Int → Int) (o n0 : Int) (r : Nat) (k : Int) : Int := if (r : Int) = o ∧ 0 < n0 then w (79 + k) else w (201 + 122 * (r : Int) + k)
theorem sEn_row : ∀ r : Nat, (sEn o n0 w r).2 = cK w o n0 r ∧ (∀ j : Int, j < 199 ∨ 199 + 122 * (r : Int) ≤ j → (sEn o n0 w r).1 j = w j) ∧ ∀ s : Nat, s < r → kK w o n0 s = true → (sEn o n0 w r).1 (199 + 122 * ((cK w o n0 s : Nat) : Int)) = eL w o n0 s ∧ ∀ k : Int, 0 ≤ k → k < 120 → (sEn o n0 w r).1 (201 + 122 * ((cK w o n0 s : Nat) : Int) + k) = eV w o n0 s k
  | 0 => ⟨rfl, fun _ _ => rfl, fun s hs => absurd hs (Nat.not_lt_zero _)⟩
  | r + 1 => by
    obtain ⟨h1, h2, h3⟩ := sEn_row r
    have hle := cK_le (w := w) (o := o) (n0 := n0) r
    rw [sEn]
    generalize hp : sEn o n0 w r = p at h1 h2 h3
    have hi : wInp p.1 r = wInp w r := by unfold wInp; rw [h2 _ (by omega)]
    have hlt : ∀ s : Nat, s < r → kK w o n0 s = true → cK w o n0 s < cK w o n0 r := fun s hs hk => cK_lt hs hk
    have g17 := h2 17 (by omega)
    by_cases ho : (r : Int) = o ∧ 0 < n0
    · have hk : kK w o n0 r = true := by unfold kK; rw [decide_eq_true ho]; exact Bool.or_true _
      have key : ∀ q : Int → Int, (∀ j : Int, j < 199 + 122 * ((cK w o n0 r : Nat) : Int) ∨ 321 + 122 * (r : Int) ≤ j → q j = p.1 j) → (wC (wS q (199 + 122 * (p.2 : Int)) (q 17)) 79 (201 + 122 * (p.2 : Int)) 120, p.2 + 1).2 = cK w o n0 (r + 1) ∧ (∀ j : Int, j < 199 ∨ 199 + 122 * ((r + 1 : Nat) : Int) ≤ j → (wC (wS q (199 + 122 * (p.2 : Int)) (q 17)) 79 (201 + 122 * (p.2 : Int)) 120, p.2 + 1).1 j = w j) ∧ ∀ s : Nat, s < r + 1 → kK w o n0 s = true → (wC (wS q (199 + 122 * (p.2 : Int)) (q 17)) 79 (201 + 122 * (p.2 : Int)) 120, p.2 + 1).1 (199 + 122 * ((cK w o n0 s : Nat) : Int)) = eL w o n0 s ∧ ∀ k : Int, 0 ≤ k → k < 120 → (wC (wS q (199 + 122 * (p.2 : Int)) (q 17)) 79 (201 + 122 * (p.2 : Int)) 120, p.2 + 1).1 (201 + 122 * ((cK w o n0 s : Nat) : Int) + k) = eV w o n0 s k := by
        intro q hq
        refine ⟨by rw [cK, if_pos hk, h1], fun j hj => ?_, fun s hs hks => ?_⟩
        · show wC _ _ _ _ j = _
          rw [h1, show ∀ u : Int → Int, wC u 79 (201 + 122 * ((cK w o n0 r : Nat) : Int)) 120 j = u j from fun u => if_neg (by omega), wS_ne _ _ _ (by omega), hq j (by omega), h2 j (by omega)]
        · show wC _ _ _ _ _ = _ ∧ ∀ k : Int, 0 ≤ k → k < 120 → wC _ _ _ _ _ = _
          rw [h1]
          by_cases e : s = r
          · subst e
            refine ⟨?_, fun k k0 k1 => ?_⟩
            · rw [show ∀ u : Int → Int, wC u 79 (201 + 122 * ((cK w o n0 s : Nat) : Int)) 120 (199 + 122 * ((cK w o n0 s : Nat) : Int)) = u (199 + 122 * ((cK w o n0 s : Nat) : Int)) from fun u => if_neg (by omega), wS_at, hq 17 (by omega), g17]
              unfold eL; rw [if_pos ho]
            · rw [show ∀ u : Int → Int, wC u 79 (201 + 122 * ((cK w o n0 s : Nat) : Int)) 120 (201 + 122 * ((cK w o n0 s : Nat) : Int) + k) = u (79 + k) from fun u => (if_pos (by omega)).trans (by rw [show 79 + (201 + 122 * ((cK w o n0 s : Nat) : Int) + k - (201 + 122 * ((cK w o n0 s : Nat) : Int))) = 79 + k by omega]), wS_ne _ _ _ (by omega), hq _ (by omega), h2 _ (by omega)]
              unfold eV; rw [if_pos ho]
          · have h5 := hlt s (by omega) hks
            obtain ⟨g1, g2⟩ := h3 s (by omega) hks
            refine ⟨?_, fun k k0 k1 => ?_⟩
            · rw [show ∀ u : Int → Int, wC u 79 (201 + 122 * ((cK w o n0 r : Nat) : Int)) 120 (199 + 122 * ((cK w o n0 s : Nat) : Int)) = u (199 + 122 * ((cK w o n0 s : Nat) : Int)) from fun u => if_neg (by omega), wS_ne _ _ _ (by omega), hq _ (by omega)]; exact g1
            · rw [show ∀ u : Int → Int, wC u 79 (201 + 122 * ((cK w o n0 r : Nat) : Int)) 120 (201 + 122 * ((cK w o n0 s : Nat) : Int) + k) = u (201 + 122 * ((cK w o n0 s : Nat) : Int) + k) from fun u => if_neg (by omega), wS_ne _ _ _ (by omega), hq _ (by omega)]; exact g2 k k0 k1
      cases hin : wInp w r with
      | true => rw [sEs_c ho (hi.trans hin)]; exact key p.1 (fun _ _ => rfl)
      | false => rw [sEs_d ho (hi.trans hin)]; exact key _ (fun j hj => by rw [h1]; exact if_neg (by omega))
    · cases hin : wInp w r with
      | true =>
        have hk : kK w o n0 r = false := by unfold kK; rw [hin, decide_eq_false ho]; rfl
        rw [sEs_a ho (hi.trans hin)]
        refine ⟨by rw [cK, hk]; exact h1, fun j hj => h2 j (by omega), fun s hs hks => ?_⟩
        by_cases e : s = r
        · subst e; rw [hk] at hks; cases hks
        · exact h3 s (by omega) hks
      | false =>
        have hk : kK w o n0 r = true := by unfold kK; rw [hin]; rfl
        rw [sEs_b ho (hi.trans hin)]
        refine ⟨by rw [cK, if_pos hk, h1], fun j hj => ?_, fun s hs hks => ?_⟩
        · show wC _ _ _ _ j = _
          rw [h1, show ∀ u : Int → Int, wC u (199 + 122 * (r : Int)) (199 + 122 * ((cK w o n0 r : Nat) : Int)) 122 j = u j from fun u => if_neg (by omega), h2 j (by omega)]
        · show wC _ _ _ _ _ = _ ∧ ∀ k : Int, 0 ≤ k → k < 120 → wC _ _ _ _ _ = _
          rw [h1]
          by_cases e : s = r
          · subst e
            refine ⟨?_, fun k k0 k1 => ?_⟩
            · rw [show ∀ u : Int → Int, wC u (199 + 122 * (s : Int)) (199 + 122 * ((cK w o n0 s : Nat) : Int)) 122 (199 + 122 * ((cK w o n0 s : Nat) : Int)) = u (199 + 122 * (s : Int)) from fun u => (if_pos (by omega)).trans (congrArg u (by omega)), h2 _ (by omega)]
              unfold eL; rw [if_neg ho]
            · rw [show ∀ u : Int → Int, wC u (199 + 122 * (s : Int)) (199 + 122 * ((cK w o n0 s : Nat) : Int)) 122 (201 + 122 * ((cK w o n0 s : Nat) : Int) + k) = u (201 + 122 * (s : Int) + k) from fun u => (if_pos (by omega)).trans (congrArg u (by omega)), h2 _ (by omega)]
              unfold eV; rw [if_neg ho]
          · have h5 := hlt s (by omega) hks
            obtain ⟨g1, g2⟩ := h3 s (by omega) hks
            refine ⟨?_, fun k k0 k1 => ?_⟩
            · rw [show ∀ u : Int → Int, wC u (199 + 122 * (r : Int)) (199 + 122 * ((cK w o n0 r : Nat) : Int)) 122 (199 + 122 * ((cK w o n0 s : Nat) : Int)) = u (199 + 122 * ((cK w o n0 s : Nat) : Int)) from fun u => if_neg (by omega)]; exact g1
            · rw [show ∀ u : Int → Int, wC u (199 + 122 * (r : Int)) (199 + 122 * ((cK w o n0 r : Nat) : Int)) 122 (201 + 122 * ((cK w o n0 s : Nat) : Int) + k) = u (201 + 122 * ((cK w o n0 s : Nat) : Int) + k) from fun u => if_neg (by omega)]; exact g2 k k0 k1
/-- the oldest input -/
def oL (w : Int → Int) : Int := sOld w (wN w)
theorem kK_congr (h : ∀ r : Nat, w' (200 + 122 * (r : Int)) = w (200 + 122 * (r : Int))) : ∀ r : Nat, kK w' o n0 r = kK w o n0 r := fun r => by unfold kK wInp; rw [h r]
theorem cK_congr {w w' : Int → Int} {N : Nat} (h : ∀ r : Nat, r < N → kK w' o n0 r = kK w o n0 r) : ∀ r : Nat, r ≤ N → cK w' o n0 r = cK w o n0 r
  | 0, _ => rfl
  | r + 1, hr => by rw [cK, cK, cK_congr h r (by omega), h r (by omega)]
theorem sOld_congr {w w' : Int → Int} {N : Nat} (h : ∀ r : Nat, r < N → wInp w' r = wInp w r) : ∀ r : Nat, r ≤ N → sOld w' r = sOld w r
  | 0, _ => rfl
  | r + 1, hr => by rw [sOld, sOld, h r (by omega), sOld_congr h r (by omega)]
theorem sOld_inp : ∀ {r : Nat}, sOld w r ≠ -1 → ∃ s : Nat, s < r ∧ (s : Int) = sOld w r ∧ wInp w s = true
  | 0, h => absurd rfl h
  | r + 1, h => by
    rw [sOld] at h ⊢
    by_cases q : wInp w r = true
    · rw [if_pos q]; exact ⟨r, by omega, rfl, q⟩
    · rw [if_neg q] at h ⊢
      obtain ⟨s, h1, h2, h3⟩ := sOld_inp h
      exact ⟨s, by omega, h2, h3⟩
end RBE

