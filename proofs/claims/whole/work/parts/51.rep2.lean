section SRU
variable {T : Nat → Nat × Int} {F F' : Nat → Nat → Int} {I I' : Nat → Int → Int} {P : Nat → Nat → Option Nat} {Y : Nat → Int → Option Nat} {a : Nat} {π : Nat → Nat} {w w' : Int → Int}
theorem rSc.mv (hF : F' a = F a) (hw : ∀ j : Int, 0 ≤ j → j ≤ 15 → (j < 7 ∨ j = 13 ∨ j = 15) → w' j = w j) (h : rSc F a w) : rSc F' a w' := by
  unfold rSc at h ⊢
  rw [hF, hw 0 (by omega) (by omega) (by omega), hw 1 (by omega) (by omega) (by omega), hw 3 (by omega) (by omega) (by omega), hw 4 (by omega) (by omega) (by omega), hw 5 (by omega) (by omega) (by omega), hw 6 (by omega) (by omega) (by omega), hw 13 (by omega) (by omega) (by omega), hw 15 (by omega) (by omega) (by omega)]
  exact h
theorem rTl.mv (hF : F' (a + 50) = F (a + 50)) (hw : ∀ j : Int, 7 ≤ j → j ≤ 12 → w' j = w j) (h : rTl F a w) : rTl F' a w' := by
  unfold rTl at h ⊢
  rw [hF, hw 7 (by omega) (by omega), hw 8 (by omega) (by omega), hw 9 (by omega) (by omega), hw 10 (by omega) (by omega), hw 11 (by omega) (by omega), hw 12 (by omega) (by omega)]
  exact h
theorem rJb.mv (h0 : F' (a + 44) 0 = F (a + 44) 0) (h1 : F' (a + 44) 1 = F (a + 44) 1) (h2 : F' (a + 44) 2 = F (a + 44) 2) (g0 : w' 16 = w 16) (g1 : w' 17 = w 17) (g2 : w' 18 = w 18) (h : rJb F a w) : rJb F' a w' := by
  unfold rJb sGoal at h ⊢
  rw [h0, h1, h2, g0, g1, g2]
  exact h
theorem SF.uF {b k : Nat} {v : Int} (h : a ≤ b ∧ b < a + 57) : SF a F I P Y (upF F b k v) I P Y := ⟨fun x hx => ⟨upF_na _ _ _ _ (by omega), rfl, rfl, fun _ => rfl⟩, fun _ _ _ => rfl⟩
theorem SF.uI {b : Nat} {k v : Int} (h : a ≤ b ∧ b < a + 57) : SF a F I P Y F (upI I b k v) P Y := ⟨fun x hx => ⟨rfl, rfl, rfl, fun _ => upI_na _ _ _ _ (by omega)⟩, fun _ _ _ => rfl⟩
theorem SF.uA {b : Nat} {f : Int → Int} (h : a ≤ b ∧ b < a + 57) : SF a F I P Y F (upA I b f) P Y := ⟨fun x hx => ⟨rfl, rfl, rfl, fun _ => upA_na _ _ _ (by omega)⟩, fun _ _ _ => rfl⟩
theorem SF.uP {k : Nat} {v : Option Nat} (h : k = 2 ∨ k = 3) : SF a F I P Y F I (upP P a k v) Y := ⟨fun x hx => ⟨rfl, upP_na _ _ _ _ (by omega), rfl, fun _ => rfl⟩, fun j h2 h3 => upP_nk _ _ _ _ (by omega)⟩
theorem SF.uY {k : Int} {v : Option Nat} : SF a F I P Y F I P (upY Y (a + 1) k v) := ⟨fun x hx => ⟨rfl, rfl, upY_na _ _ _ _ (by omega), fun _ => rfl⟩, fun _ _ _ => rfl⟩
theorem SR.tal {k : Nat} {v : Int} (h : SR T F I P Y a w) (hk : k < 6) (hv : 0 ≤ v ∧ v ≤ 99999) : SR T (upF F (a + 50) k v) I P Y a (wS w (7 + (k : Int)) v) := by
  obtain ⟨g1, g2, ⟨π, g3⟩, g4, g5⟩ := id h
  have N := g1.1.2.1
  obtain ⟨-, ⟨s1, s2, s3⟩, -, -, -, s4⟩ := g3
  have hw : ∀ j : Int, (j < 7 ∨ 12 < j) → wS w (7 + (k : Int)) v j = w j := fun j hj => wS_ne _ _ _ (by omega)
  have he : eqR w (wS w (7 + (k : Int)) v) := eqR_S _ _ _ (by omega)
  refine h.mv (fun b hb hb2 => upF_na _ _ _ _ (by omega)) (fun _ _ _ _ => rfl) (wOk_S g1.1 _ _ (by unfold wCell; omega)) (wHi_S _ _ _ (by omega)) (hw _ (by omega)) (fun j _ _ => hw _ (by omega)) ⟨s1.mv (upF_na _ _ _ _ (by omega)) (fun j _ _ _ => hw _ (by omega)), ?_, s3.mv (by rw [upF_na _ _ _ _ (by omega)]) (by rw [upF_na _ _ _ _ (by omega)]) (by rw [upF_na _ _ _ _ (by omega)]) (hw _ (by omega)) (hw _ (by omega)) (hw _ (by omega))⟩
    ((s4.heap (upF_na _ _ _ _ (by omega)) (fun _ _ => rfl)).congr (hw _ (by omega)) (fun j _ _ => hw _ (by omega)) g1.1.2.2.2.2.2.2.2.2.2.2.1.2) ((g4.heap (upF_na _ _ _ _ (by omega)) rfl rfl rfl rfl).congr he N (hw _ (by omega)) (hw _ (by omega)) (hw _ (by omega))) (by rw [upF_na _ _ _ _ (by omega), g5, he.left N (hw _ (by omega))])
  obtain ⟨t0, t1, t2, t3, t4, t5⟩ := s2
  rcases (show k = 0 ∨ k = 1 ∨ k = 2 ∨ k = 3 ∨ k = 4 ∨ k = 5 by omega) with rfl | rfl | rfl | rfl | rfl | rfl
  all_goals refine ⟨?_, ?_, ?_, ?_, ?_, ?_⟩ <;> simp [upF, wS, *]
theorem pSum_one {f g : Int → Int} {k : Nat} (h : ∀ j : Nat, j ≠ k → g j = f j) : ∀ n : Nat, pSum g n = pSum f n + (if k < n then g k - f k else 0)
  | 0 => by simp [pSum]
  | n + 1 => by
    rw [pSum_s, pSum_s, pSum_one h n]
    by_cases hn : n = k
    · subst hn; rw [if_neg (by omega), if_pos (by omega)]; omega
    · rw [h n hn]
      by_cases h2 : k < n
      · rw [if_pos h2, if_pos (by omega)]; omega
      · rw [if_neg h2, if_neg (by omega)]; omega
theorem pCnt_S {u : Int → Int} {key v : Int} (hk : 0 ≤ key ∧ key < 60) (hv : v ≠ -1) : pCnt (wS u key v) = pCnt u + (if u key = -1 then 1 else 0) := by
  unfold pCnt
  rw [pSum_one (f := fun k => if u k = -1 then 0 else 1) (g := fun k => if wS u key v k = -1 then 0 else 1) (k := key.toNat) (fun j hj => by
    show (if wS u key v j = -1 then (0 : Int) else 1) = if u j = -1 then 0 else 1
    rw [wS_ne _ _ _ (by omega)]) 60, if_pos (by omega), show ((key.toNat : Nat) : Int) = key by omega]
  show _ + ((if wS u key v key = -1 then (0 : Int) else 1) - if u key = -1 then 0 else 1) = _
  rw [wS_at, if_neg hv]
  split <;> omega
theorem rG.enter {b : Nat} {u g : Int → Int} {key v x : Int} (hk : 0 ≤ key ∧ key < 60) (hv : v ≠ -1) (h : rG F I b u g) : rG (if I (b + 1) key = -1 then upF F b 2 (F b 2 + 1) else F) (upI (upI I (b + 1) key v) (b + 2) key x) b (wS u key v) (wS g key x) := by
  obtain ⟨h1, h2⟩ := h
  refine ⟨?_, fun k k0 k1 => ?_⟩
  · rw [pCnt_S hk hv, ← h1, (h2 key hk.1 hk.2).1]
    by_cases q : u key = -1
    · rw [if_pos q, if_pos q, upF_at]
    · rw [if_neg q, if_neg q, Int.add_zero]
  · have := h2 k k0 k1
    rw [upI_na _ _ _ _ (show b + 1 ≠ b + 2 by omega)]
    by_cases q : k = key
    · subst q; rw [upI_at, upI_at, wS_at, wS_at]; exact ⟨rfl, fun _ => rfl⟩
    · rw [upI_nk _ _ _ _ q, upI_nk _ _ _ _ q, wS_ne _ _ _ q, wS_ne _ _ _ q, upI_na _ _ _ _ (show b + 2 ≠ b + 1 by omega)]; exact this
theorem enF_na {b x : Nat} {i v : Int} (h : x ≠ b) : (if i = -1 then upF F b 2 v else F) x = F x := by split; exact upF_na _ _ _ _ h; rfl
theorem enF_nk {b x j : Nat} {i v : Int} (h : j ≠ 2) : (if i = -1 then upF F b 2 v else F) x j = F x j := by split; exact upF_nk _ _ _ _ h; rfl
theorem enI_na {b x : Nat} {key v g : Int} (h1 : x ≠ b + 1) (h2 : x ≠ b + 2) : upI (upI I (b + 1) key v) (b + 2) key g x = I x := by rw [upI_na _ _ _ _ h2, upI_na _ _ _ _ h1]
theorem SF.en {b : Nat} {key v g i x : Int} (h : a ≤ b ∧ b + 2 < a + 57) : SF a F I P Y (if i = -1 then upF F b 2 x else F) (upI (upI I (b + 1) key v) (b + 2) key g) P Y :=
  ⟨fun y hy => ⟨enF_na (by omega), rfl, rfl, fun _ => enI_na (by omega) (by omega)⟩, fun _ _ _ => rfl⟩
/-- a key of the table written -/
theorem SR.tab {key v b : Nat} (h : SR T F I P Y a w) (hb : P a 2 = some b) (hk : key < 60) (hv : v ≤ 100) : SR T (if I (b + 1) (key : Int) = -1 then upF F b 2 (F b 2 + 1) else F) (upI (upI I (b + 1) (key : Int) (v : Int)) (b + 2) (key : Int) 0) P Y a (wS w (19 + (key : Int)) (v : Int)) := by
  obtain ⟨g1, g2, ⟨π, g3⟩, g4, g5⟩ := id h
  have N := g1.1.2.1
  obtain ⟨⟨s1, p1, p2, p3, p4, p5⟩, ⟨s2, s3, s4⟩, s5, s6, s7, s8⟩ := g3
  rw [p2] at hb; cases hb
  have q12 := p4 12 (by omega)
  have hw : ∀ j : Int, (j < 19 ∨ 79 ≤ j) → wS w (19 + (key : Int)) (v : Int) j = w j := fun j hj => wS_ne _ _ _ (by omega)
  have he : eqR w (wS w (19 + (key : Int)) (v : Int)) := eqR_S _ _ _ (by omega)
  have hh : wHi w (wS w (19 + (key : Int)) (v : Int)) := wHi_S _ _ _ (by omega)
  refine ⟨g1.mv (wOk_S g1.1 _ _ (by unfold wCell; omega)) hh, rLw.mv (fun b hb => enF_na (by omega)) (fun b hb _ => enI_na (by omega) (by omega)) hh g2, ⟨π, ⟨s1, p1, p2, p3, p4, p5⟩, ⟨s2.mv (enF_na (by omega)) (fun j _ _ _ => hw _ (by omega)), s3.mv (enF_na (by omega)) (fun j _ _ => hw _ (by omega)), s4.mv (by rw [enF_na (by omega)]) (by rw [enF_na (by omega)]) (by rw [enF_na (by omega)]) (hw _ (by omega)) (hw _ (by omega)) (hw _ (by omega))⟩, fun r hr => ?_, ?_, ?_, (s8.heap (enF_na (by omega)) (fun _ _ => enI_na (by omega) (by omega))).congr (hw _ (by omega)) (fun j _ _ => hw _ (by omega)) g1.1.2.2.2.2.2.2.2.2.2.2.1.2⟩,
    (g4.heap (enF_na (by omega)) (enI_na (by omega) (by omega)) (enI_na (by omega) (by omega)) (enI_na (by omega) (by omega)) (enI_na (by omega) (by omega))).congr he N (hw _ (by omega)) (hw _ (by omega)) (hw _ (by omega)), by rw [enF_na (by omega), g5, he.left N (hw _ (by omega))]⟩
  · rw [hw 0 (by omega)] at hr
    have := p4 r (by omega)
    have hne : π r ≠ π 12 := fun q => by have := p5 r 12 (by omega) (by omega) q; omega
    exact ((s5 r hr).heap (enF_na (by omega)) (enI_na (by omega) (by omega)) (enI_na (by omega) (by omega))).congr (fun j _ _ => hw _ (by omega))
  · refine ⟨by rw [enF_nk (by omega)]; exact s6.1, by rw [enF_nk (by omega)]; exact s6.2.1, ?_⟩
    refine (s6.2.2.enter (key := (key : Int)) (v := (v : Int)) (x := 0) ⟨by omega, by omega⟩ (by omega)).congr (fun k _ _ => ?_) (fun k _ _ => ?_)
    · unfold wS
      by_cases q : k = (key : Int)
      · rw [if_pos q, if_pos (by omega)]
      · rw [if_neg q, if_neg (by omega)]
    · unfold wS; split <;> rfl
  · have := p4 13 (by omega)
    have hne : π 13 ≠ π 12 := fun q => by have := p5 13 12 (by omega) (by omega) q; omega
    exact (s7.heap (enF_na (by omega)) (enI_na (by omega) (by omega)) (enI_na (by omega) (by omega))).congr (fun j _ _ => hw _ (by omega))
/-- a key of the output written -/
theorem SR.out {key v b : Nat} {g : Int} (h : SR T F I P Y a w) (hb : P a 3 = some b) (hk : key < 60) (hv : v ≤ 100) (hg : -1 ≤ g ∧ g ≤ 100) : SR T (if I (b + 1) (key : Int) = -1 then upF F b 2 (F b 2 + 1) else F) (upI (upI I (b + 1) (key : Int) (v : Int)) (b + 2) (key : Int) g) P Y a (wS (wS w (79 + (key : Int)) (v : Int)) (139 + (key : Int)) g) := by
  obtain ⟨g1, g2, ⟨π, g3⟩, g4, g5⟩ := id h
  have N := g1.1.2.1
  obtain ⟨⟨s1, p1, p2, p3, p4, p5⟩, ⟨s2, s3, s4⟩, s5, s6, s7, s8⟩ := g3
  rw [p3] at hb; cases hb
  have q12 := p4 13 (by omega)
  have hw : ∀ j : Int, (j < 79 ∨ 199 ≤ j) → wS (wS w (79 + (key : Int)) (v : Int)) (139 + (key : Int)) g j = w j := fun j hj => by rw [wS_ne _ _ _ (by omega), wS_ne _ _ _ (by omega)]
  have he : eqR w (wS (wS w (79 + (key : Int)) (v : Int)) (139 + (key : Int)) g) := (eqR_S _ _ _ (by omega)).tr (eqR_S _ _ _ (by omega))
  have hh : wHi w (wS (wS w (79 + (key : Int)) (v : Int)) (139 + (key : Int)) g) := (wHi_S _ _ _ (by omega)).tr (wHi_S _ _ _ (by omega))
  refine ⟨g1.mv (wOk_S (wOk_S g1.1 _ _ (by unfold wCell; omega)) _ _ (by unfold wCell; omega)) hh, rLw.mv (fun b hb => enF_na (by omega)) (fun b hb _ => enI_na (by omega) (by omega)) hh g2, ⟨π, ⟨s1, p1, p2, p3, p4, p5⟩, ⟨s2.mv (enF_na (by omega)) (fun j _ _ _ => hw _ (by omega)), s3.mv (enF_na (by omega)) (fun j _ _ => hw _ (by omega)), s4.mv (by rw [enF_na (by omega)]) (by rw [enF_na (by omega)]) (by rw [enF_na (by omega)]) (hw _ (by omega)) (hw _ (by omega)) (hw _ (by omega))⟩, fun r hr => ?_, ?_, ?_, (s8.heap (enF_na (by omega)) (fun _ _ => enI_na (by omega) (by omega))).congr (hw _ (by omega)) (fun j _ _ => hw _ (by omega)) g1.1.2.2.2.2.2.2.2.2.2.2.1.2⟩,
    (g4.heap (enF_na (by omega)) (enI_na (by omega) (by omega)) (enI_na (by omega) (by omega)) (enI_na (by omega) (by omega)) (enI_na (by omega) (by omega))).congr he N (hw _ (by omega)) (hw _ (by omega)) (hw _ (by omega)), by rw [enF_na (by omega), g5, he.left N (hw _ (by omega))]⟩
  · rw [hw 0 (by omega)] at hr
    have := p4 r (by omega)
    have hne : π r ≠ π 13 := fun q => by have := p5 r 13 (by omega) (by omega) q; omega
    exact ((s5 r hr).heap (enF_na (by omega)) (enI_na (by omega) (by omega)) (enI_na (by omega) (by omega))).congr (fun j _ _ => hw _ (by omega))
  · have := p4 12 (by omega)
    have hne : π 12 ≠ π 13 := fun q => by have := p5 12 13 (by omega) (by omega) q; omega
    exact (s6.heap (enF_na (by omega)) (enI_na (by omega) (by omega)) (enI_na (by omega) (by omega))).congr (fun j _ _ => hw _ (by omega))
  · refine ⟨by rw [enF_nk (by omega)]; exact s7.1, ?_⟩
    refine (s7.2.enter (key := (key : Int)) (v := (v : Int)) (x := g) ⟨by omega, by omega⟩ (by omega)).congr (fun k _ _ => ?_) (fun k _ _ => ?_)
    · rw [wS_ne _ _ _ (by omega)]
      unfold wS
      by_cases q : k = (key : Int)
      · rw [if_pos q, if_pos (by omega)]
      · rw [if_neg q, if_neg (by omega)]
    · unfold wS
      by_cases q : k = (key : Int)
      · rw [if_pos q, if_pos (by omega)]
      · rw [if_neg q, if_neg (by omega), if_neg (by omega)]
end SRU

