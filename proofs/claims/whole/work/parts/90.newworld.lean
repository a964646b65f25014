/-! the world of a new store -/
section WZ
/-- the new world -/
def wNew : Int → Int := fun j => if j = 15 then 1 else if j = 4 then 3 else if j = 5 then 4 else if j = 6 then 2 else if 19 ≤ j ∧ j < 139 then -1 else 0
theorem wNew_lo : wNew 0 = 0 ∧ wNew 2 = 0 ∧ wNew 3 = 0 ∧ wNew 4 = 3 ∧ wNew 11 = 0 ∧ wNew 14 = 0 ∧ wNew 16 = 0 := ⟨rfl, rfl, rfl, rfl, rfl, rfl, rfl⟩
theorem wNew_e {j : Int} (h : 19 ≤ j ∧ j < 139) : wNew j = -1 := by
  unfold wNew
  rw [if_neg (by omega), if_neg (by omega), if_neg (by omega), if_neg (by omega), if_pos h]
theorem wNew_b (j : Int) : -1 ≤ wNew j ∧ wNew j ≤ 4 := by
  unfold wNew
  by_cases h1 : j = 15
  · rw [if_pos h1]; omega
  rw [if_neg h1]
  by_cases h2 : j = 4
  · rw [if_pos h2]; omega
  rw [if_neg h2]
  by_cases h3 : j = 5
  · rw [if_pos h3]; omega
  rw [if_neg h3]
  by_cases h4 : j = 6
  · rw [if_pos h4]; omega
  rw [if_neg h4]
  by_cases h5 : 19 ≤ j ∧ j < 139
  · rw [if_pos h5]; omega
  rw [if_neg h5]; omega
theorem wNew_7 {j : Int} (h : 7 ≤ j ∧ j ≤ 12) : wNew j = 0 := by
  unfold wNew
  rw [if_neg (by omega), if_neg (by omega), if_neg (by omega), if_neg (by omega), if_neg (by omega)]
theorem wNew_ok : wOk wNew := by
  refine ⟨fun j => ?_, ⟨by decide, by decide⟩, ⟨by decide, by decide⟩, Or.inl rfl, Or.inl rfl, ⟨by decide, by decide⟩, ⟨by decide, by decide⟩, ⟨by decide, by decide⟩, fun i h1 h2 => by rw [wNew_7 ⟨h1, h2⟩]; decide, ⟨by decide, by decide⟩, ⟨by decide, by decide⟩, Or.inl rfl, ⟨by decide, by decide⟩, ⟨by decide, by decide⟩, fun i h1 h2 => ?_⟩
  · have := wNew_b j; omega
  · have := wNew_b i; omega
theorem wNew_gd : wGd wNew := ⟨wNew_ok, (fun (h : wNew 2 = 1) => by rw [wNew_lo.2.1] at h; omega : wLw wNew), (fun (h : wNew 2 = 1) => by rw [wNew_lo.2.1] at h; omega : wTyp wNew)⟩
theorem wNew_N : wN wNew = 0 := rfl
theorem wNew_r {r : Nat} (h : (r : Int) < wNew 0) : False := by rw [wNew_lo.1] at h; omega
theorem wNew_rn : wRn wNew := ⟨fun r hr => (wNew_r hr).elim, fun _ => ⟨fun r hr => (wNew_r hr).elim, fun k k0 k1 => wNew_e (by omega)⟩⟩
theorem wNew_inv : wI2 wNew := ⟨⟨wNew_gd, wNew_rn, fun h => (by cases h), by decide, by decide⟩, fun h => (by cases h)⟩
theorem wNew_due (l : Int) : sDueB wNew l = false := by
  refine @decide_eq_false _ (Classical.propDecidable _) (fun h => ?_)
  unfold sDue at h
  rw [if_pos wNew_lo.2.2.1, wNew_lo.2.2.2.1] at h
  have h2 : sMany wNew l = 0 := by unfold sMany; rw [wNew_N]; rfl
  rw [h2] at h
  by_cases h3 : l = 3
  · rw [if_pos h3] at h; omega
  · rw [if_neg h3] at h; omega
theorem pCnt_e {u : Int → Int} (h : ∀ k : Int, 0 ≤ k → k < 60 → u k = -1) : pCnt u = 0 := by
  rw [pCnt_congr (v := fun _ => -1) h]
  rfl
theorem SNew.sr {T : Nat → Nat × Int} {F : Nat → Nat → Int} {I : Nat → Int → Int} {P : Nat → Nat → Option Nat} {Y : Nat → Int → Option Nat} {a : Nat} (h : SNew T F I P Y a) : SR T F I P Y a wNew := by
  obtain ⟨h1, h2, h3, h4, h5, h6, h7⟩ := h
  have r12 := h3 12 (by omega)
  have r13 := h3 13 (by omega)
  refine ⟨wNew_gd, Or.inl ⟨h5, rfl⟩, ⟨fun j => j, ⟨h1, h2⟩, ⟨⟨?_, ?_, ?_, ?_, ?_, ?_, ?_, ?_⟩, ⟨(h6 0).2.2.1, (h6 1).2.2.1, (h6 2).2.2.1, (h6 3).2.2.1, (h6 4).2.2.1, (h6 5).2.2.1⟩, ⟨(h6 0).1, (h6 1).1, (h6 2).1⟩⟩, fun r hr => (wNew_r hr).elim, ⟨r12.2.1 3, r12.2.1 4, ?_, fun k k0 k1 => ⟨?_, fun q => ?_⟩⟩, ⟨r13.2.1 4, ?_, fun k k0 k1 => ⟨?_, fun q => ?_⟩⟩, ⟨(h6 5).2.2.2, ⟨?_, ?_⟩, fun k c hk _ => ?_⟩⟩, ⟨fun l hl => ⟨?_, ?_, ?_, ?_⟩, ?_, ?_⟩, ?_⟩
  · rw [h4]; rfl
  · rw [h4]; rfl
  · rw [h4]; rfl
  · rw [h4]; rfl
  · rw [h4]; rfl
  · rw [h4]; rfl
  · rw [h4]; rfl
  · rw [h4]; rfl
  · rw [r12.2.1 2, pCnt_e (fun k k0 k1 => wNew_e (by omega))]
  · show I (a + 2 + 3 * 12 + 1) k = wNew (19 + k)
    rw [r12.2.2.1 k k0 k1, wNew_e (by omega)]
  · exact (q (wNew_e (by omega))).elim
  · rw [r13.2.1 2, pCnt_e (fun k k0 k1 => wNew_e (by omega))]
  · show I (a + 2 + 3 * 13 + 1) k = wNew (79 + k)
    rw [r13.2.2.1 k k0 k1, wNew_e (by omega)]
  · exact (q (wNew_e (by omega))).elim
  · rw [(h6 4).2.2.2]; decide
  · rw [(h6 4).2.2.2]; decide
  · rw [wNew_lo.2.2.2.2.2.1] at hk; omega
  · rw [(h7 l).1.1]; unfold sRuns; rw [wNew_N]; rfl
  · rw [(h7 l).1.2.1]; unfold sMany; rw [wNew_N]; rfl
  · rw [(h7 l).1.2.2.1]; unfold sEntIn; rw [wNew_N]; rfl
  · rw [(h7 l).1.2.2.2]; unfold sFree; rw [wNew_N]; rfl
  · rw [(h6 4).2.1]; unfold sDueN; rw [nSet_congr (q := fun _ => false) (fun j _ => wNew_due j)]; rfl
  · rw [(h6 5).2.1]; unfold sOwed; rw [pSum_congr (g := fun _ => 0) (fun j _ => by rw [wNew_due]; rfl)]; rfl
  · rw [(h6 3).1]; unfold sLeft; rw [wNew_N]; rfl
end WZ

