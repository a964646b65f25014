section RBF
variable {T : Nat → Nat × Int} {F F' : Nat → Nat → Int} {I I' : Nat → Int → Int} {P P' : Nat → Nat → Option Nat} {Y Y' : Nat → Int → Option Nat} {a : Nat} {π : Nat → Nat} {w w' : Int → Int}
theorem wSt.mvP (h : wSt T P a) (h1 : ∀ b : Nat, b ≠ a → P' b = P b) (h2 : ∀ k : Nat, k ≠ 2 → k ≠ 3 → P' a k = P a k) : wSt T P' a := by
  obtain ⟨⟨s0, s1, s2, s3⟩, sR, ⟨s4, s5⟩, ⟨s6, sLv⟩, ⟨s7, s8⟩, ⟨s9, sJo⟩, s10, s11, s12⟩ := h
  refine ⟨⟨s0, by rw [h2 0 (by omega) (by omega)]; exact s1, s2, s3⟩, fun i hi => ?_, ⟨by rw [h2 4 (by omega) (by omega)]; exact s4, s5⟩, ⟨by rw [h2 5 (by omega) (by omega)]; exact s6, ?_⟩, ⟨by rw [h2 6 (by omega) (by omega)]; exact s7, s8⟩, ⟨by rw [h2 7 (by omega) (by omega)]; exact s9, ?_⟩, by rw [h2 8 (by omega) (by omega)]; exact s10, s11, s12⟩
  · have := sR i hi
    unfold wRow at this ⊢
    rw [h1 _ (by omega)]; exact this
  · unfold wLev at sLv ⊢
    rw [h1 _ (by omega)]; exact sLv
  · unfold wJou at sJo ⊢
    rw [h1 _ (by omega)]; exact sJo
theorem sFl_told {j : Int} (h : 1663 ≤ j) (hN : 0 ≤ w 0 ∧ w 0 < 12) : sFlush w j = sTold w 0 0 (sEnt w 19) j := by
  unfold sFlush sFl1
  rw [show ∀ u : Int → Int, wE u 19 60 j = u j from fun u => if_neg (by omega)]
  rw [show ∀ u : Int → Int, wZ u 60 j = u j from fun u => if_neg (by omega)]
  rw [show ∀ u : Int → Int, wC u 19 201 60 j = u j from fun u => if_neg (by omega)]
  rw [wS_ne _ _ _ (by omega), wS_ne _ _ _ (by omega), wS_ne _ _ _ (by omega)]
  exact if_neg (by omega)
theorem sFl_c {j : Int} (hN : 0 ≤ w 0 ∧ w 0 < 12) (h : j < 1663 ∧ j ≠ 14 ∧ j ≠ 0) : sFlush w j = if 19 ≤ j ∧ j < 79 then -1 else if j = 199 ∨ j = 200 then 0 else if 201 ≤ j ∧ j < 261 then w (j - 182) else if 261 ≤ j ∧ j < 321 then 0 else if 321 ≤ j ∧ j < 321 + 122 * w 0 then w (j - 122) else w j := by
  have lo : ∀ i : Int, i < 1663 → i ≠ 14 → sTold w 0 0 (sEnt w 19) i = w i := fun i h1 h2 => sTold_lo _ _ _ _ h1 h2
  unfold sFlush sFl1
  by_cases h1 : 19 ≤ j ∧ j < 79
  · rw [if_pos h1]; exact if_pos (by omega)
  rw [if_neg h1, show ∀ u : Int → Int, wE u 19 60 j = u j from fun u => if_neg (by omega)]
  by_cases h4 : 261 ≤ j ∧ j < 321
  · rw [if_neg (by omega), if_neg (by omega), if_pos h4]; exact if_pos (by omega)
  rw [show ∀ u : Int → Int, wZ u 60 j = u j from fun u => if_neg (by omega)]
  by_cases h3 : 201 ≤ j ∧ j < 261
  · rw [if_neg (by omega), if_pos h3, show ∀ u : Int → Int, wC u 19 201 60 j = u (j - 182) from fun u => (if_pos (by omega)).trans (by rw [show (19 : Int) + (j - 201) = j - 182 by omega]), wS_ne _ _ _ (by omega), wS_ne _ _ _ (by omega), wS_ne _ _ _ (by omega)]
    exact (if_neg (by omega)).trans (lo _ (by omega) (by omega))
  rw [show ∀ u : Int → Int, wC u 19 201 60 j = u j from fun u => if_neg (by omega)]
  by_cases h2 : j = 199 ∨ j = 200
  · rw [if_pos h2]
    rcases h2 with rfl | rfl
    · rw [wS_ne _ _ _ (by omega), wS_at]
    · rw [wS_at]
  rw [if_neg h2, if_neg h3, if_neg h4, wS_ne _ _ _ (by omega), wS_ne _ _ _ (by omega), wS_ne _ _ _ (by omega)]
  by_cases h5 : 321 ≤ j ∧ j < 321 + 122 * w 0
  · rw [if_pos h5, show ∀ u : Int → Int, wSR u 0 (w 0) j = u (j - 122) from fun u => if_pos (by omega)]
    exact lo _ (by omega) (by omega)
  · rw [if_neg h5, show ∀ u : Int → Int, wSR u 0 (w 0) j = u j from fun u => if_neg (by omega)]
    exact lo _ (by omega) (by omega)
theorem sFl_0 (hN : 0 ≤ w 0 ∧ w 0 < 12) : sFlush w 0 = w 0 + 1 := by
  unfold sFlush
  rw [show ∀ u : Int → Int, wE u 19 60 0 = u 0 from fun u => if_neg (by omega), show ∀ u : Int → Int, wZ u 60 0 = u 0 from fun u => if_neg (by omega), show ∀ u : Int → Int, wC u 19 201 60 0 = u 0 from fun u => if_neg (by omega), wS_ne _ _ _ (by omega), wS_ne _ _ _ (by omega), wS_at]
  have : sFl1 w 0 = w 0 := by
    unfold sFl1
    exact (if_neg (by omega)).trans (sTold_lo _ _ _ _ (by omega) (by omega))
  rw [this]
theorem sFl_14 (hN : 0 ≤ w 0 ∧ w 0 < 12) : sFlush w 14 = sTold w 0 0 (sEnt w 19) 14 := by
  unfold sFlush
  rw [show ∀ u : Int → Int, wE u 19 60 14 = u 14 from fun u => if_neg (by omega), show ∀ u : Int → Int, wZ u 60 14 = u 14 from fun u => if_neg (by omega), show ∀ u : Int → Int, wC u 19 201 60 14 = u 14 from fun u => if_neg (by omega), wS_ne _ _ _ (by omega), wS_ne _ _ _ (by omega), wS_ne _ _ _ (by omega)]
  unfold sFl1
  exact if_neg (by omega)
theorem sFl_lo {j : Int} (hN : 0 ≤ w 0 ∧ w 0 < 12) (h : j < 19 ∧ j ≠ 14 ∧ j ≠ 0) : sFlush w j = w j := by
  rw [sFl_c hN ⟨by omega, by omega, by omega⟩, if_neg (by omega), if_neg (by omega), if_neg (by omega), if_neg (by omega), if_neg (by omega)]
theorem sFl_out {j : Int} (hN : 0 ≤ w 0 ∧ w 0 < 12) (h : 79 ≤ j ∧ j < 199) : sFlush w j = w j := by
  rw [sFl_c hN ⟨by omega, by omega, by omega⟩, if_neg (by omega), if_neg (by omega), if_neg (by omega), if_neg (by omega), if_neg (by omega)]
theorem sFl_row {r : Nat} {j : Int} (hN : 0 ≤ w 0 ∧ w 0 < 12) (hr : (r : Int) < w 0) (h : 199 + 122 * ((r : Int) + 1) ≤ j ∧ j < 321 + 122 * ((r : Int) + 1)) : sFlush w j = w (j - 122) := by
  rw [sFl_c hN ⟨by omega, by omega, by omega⟩, if_neg (by omega), if_neg (by omega), if_neg (by omega), if_neg (by omega), if_pos (by omega)]
theorem pSum_front (f : Int → Int) : ∀ n : Nat, pSum f (n + 1) = f 0 + pSum (fun k => f (k + 1)) n
  | 0 => by rw [pSum_s]; simp [pSum]
  | n + 1 => by rw [pSum_s, pSum_front f n, pSum_s]; simp; omega
theorem wRn_flush (h : wRn w) (hN : 0 ≤ w 0 ∧ w 0 < 12) (ht : 0 < sEnt w 19) : wRn (sFlush w) := by
  have key : ∀ r : Nat, (r : Int) < sFlush w 0 → (r = 0 ∧ sFlush w (199 + 122 * (r : Int)) = 0 ∧ sFlush w (200 + 122 * (r : Int)) = 0 ∧ sEnt (sFlush w) (201 + 122 * (r : Int)) = sEnt w 19) ∨ ∃ s : Nat, r = s + 1 ∧ (s : Int) < w 0 ∧ sFlush w (199 + 122 * (r : Int)) = w (199 + 122 * (s : Int)) ∧ sFlush w (200 + 122 * (r : Int)) = w (200 + 122 * (s : Int)) ∧ sEnt (sFlush w) (201 + 122 * (r : Int)) = sEnt w (201 + 122 * (s : Int)) := by
    intro r hr
    rw [sFl_0 hN] at hr
    match r, hr with
    | 0, hr =>
      refine Or.inl ⟨rfl, ?_, ?_, ?_⟩
      · rw [sFl_c hN ⟨by omega, by omega, by omega⟩, if_neg (by omega), if_pos (by omega)]
      · rw [sFl_c hN ⟨by omega, by omega, by omega⟩, if_neg (by omega), if_pos (by omega)]
      · rw [sEnt_p, sEnt_p]
        exact pCnt_congr (fun k k0 k1 => by rw [sFl_c hN ⟨by omega, by omega, by omega⟩, if_neg (by omega), if_neg (by omega), if_pos (by omega), show 201 + 122 * ((0 : Nat) : Int) + k - 182 = 19 + k by omega])
    | s + 1, hr =>
      refine Or.inr ⟨s, rfl, by omega, ?_, ?_, ?_⟩
      · rw [sFl_row hN (show (s : Int) < w 0 by omega) (by omega)]; exact congrArg w (by omega)
      · rw [sFl_row hN (show (s : Int) < w 0 by omega) (by omega)]; exact congrArg w (by omega)
      · rw [sEnt_p, sEnt_p]
        exact pCnt_congr (fun k k0 k1 => by rw [sFl_row hN (show (s : Int) < w 0 by omega) (by omega)]; exact congrArg w (by omega))
  refine ⟨fun r hr => ?_, fun q => ⟨fun r hr => ?_, fun k k0 k1 => ?_⟩⟩
  · rcases key r hr with ⟨-, e1, e2, e3⟩ | ⟨s, -, hs, e1, e2, e3⟩
    · rw [e1, e2, e3]; exact ⟨by omega, Or.inl rfl, ht⟩
    · rw [e1, e2, e3]; exact h.1 s hs
  · rw [sFl_lo hN (by omega)] at q
    rcases key r hr with ⟨-, e1, e2, e3⟩ | ⟨s, -, hs, e1, e2, e3⟩
    · exact e2
    · rw [e2]; exact (h.2 q).1 s hs
  · rw [sFl_lo hN (by omega)] at q
    rw [sFl_out hN (by omega)]; exact (h.2 q).2 k k0 k1
theorem sFl_left (hN : 0 ≤ w 0 ∧ w 0 < 12) : sLeft (sFlush w) = sLeft w := by
  have hw := wN_i hN.1
  have e : wN (sFlush w) = wN w + 1 := by unfold wN; rw [sFl_0 hN]; unfold wN at hw; omega
  unfold sLeft
  rw [e, pSum_front, if_neg (by rw [sFl_c hN ⟨by omega, by omega, by omega⟩, if_neg (by omega), if_pos (by omega)]; omega), Int.zero_add]
  refine pSum_congr (fun r hr => ?_)
  have e1 : sFlush w (200 + 122 * ((r : Int) + 1)) = w (200 + 122 * (r : Int)) := by rw [sFl_row hN (show (r : Int) < w 0 by omega) (by omega)]; exact congrArg w (by omega)
  rw [e1]
  unfold sLeftR
  rw [sFl_lo hN (show (18 : Int) < 19 ∧ (18 : Int) ≠ 14 ∧ (18 : Int) ≠ 0 by omega)]
  by_cases q : w (200 + 122 * (r : Int)) = 1
  · rw [if_pos q, if_pos q]
    refine pSum_congr (fun k hk => ?_)
    rw [show sFlush w (201 + 122 * ((r : Int) + 1) + (k : Int)) = w (201 + 122 * (r : Int) + (k : Int)) by rw [sFl_row hN (show (r : Int) < w 0 by omega) (by omega)]; exact congrArg w (by omega)]
  · rw [if_neg q, if_neg q]
def pFl (π : Nat → Nat) (n : Nat) (j : Nat) : Nat := if j = 0 then π 12 else if j ≤ n then π (j - 1) else if j = 12 then π n else π j
theorem pFl_ok {n : Nat} (hn : n < 12) (h4 : ∀ j : Nat, j < 14 → π j < 14) (h5 : ∀ i j : Nat, i < 14 → j < 14 → π i = π j → i = j) : (∀ j : Nat, j < 14 → pFl π n j < 14) ∧ ∀ i j : Nat, i < 14 → j < 14 → pFl π n i = pFl π n j → i = j := by
  have hs : ∀ j : Nat, j < 14 → ∃ k : Nat, k < 14 ∧ pFl π n j = π k ∧ ((j = 0 ∧ k = 12) ∨ (0 < j ∧ j ≤ n ∧ k + 1 = j) ∨ (j = 12 ∧ k = n) ∨ (n < j ∧ j ≠ 12 ∧ k = j)) := by
    intro j hj
    unfold pFl
    by_cases h0 : j = 0
    · exact ⟨12, by omega, by rw [if_pos h0], by omega⟩
    by_cases h1 : j ≤ n
    · exact ⟨j - 1, by omega, by rw [if_neg h0, if_pos h1], by omega⟩
    by_cases h2 : j = 12
    · exact ⟨n, by omega, by rw [if_neg h0, if_neg h1, if_pos h2], by omega⟩
    · exact ⟨j, by omega, by rw [if_neg h0, if_neg h1, if_neg h2], by omega⟩
  refine ⟨fun j hj => ?_, fun i j hi hj e => ?_⟩
  · obtain ⟨k, k1, k2, -⟩ := hs j hj; rw [k2]; exact h4 k k1
  · obtain ⟨k, k1, k2, k3⟩ := hs i hi
    obtain ⟨l, l1, l2, l3⟩ := hs j hj
    rw [k2, l2] at e
    have := h5 k l k1 l1 e
    omega
/-- the heap behind a flush -/
theorem RB.flush {n : Nat} (h : RB T F I P Y a π w) (hn : (n : Int) = w 0) (hN : w 0 < 12) (hO : wOk w) (hY : ∀ j : Nat, j < 12 → Y' (a + 1) (j : Int) = some (a + 2 + 3 * pFl π n j)) (hP1 : ∀ b : Nat, b ≠ a → P' b = P b) (hP2 : ∀ k : Nat, k ≠ 2 → k ≠ 3 → P' a k = P a k) (hPt : P' a 2 = some (a + 2 + 3 * π n)) (hPo : P' a 3 = P a 3)
    (hF : F' = upF (fWipe (fNote F (a + 51)) (a + 2 + 3 * π n)) a 1 (w 0 + 1)) (hI : I' = iWipe (iNote F I (a + 51) (w 13) 0 0 (sEnt w 19)) (a + 2 + 3 * π n) 60) : RB T F' I' P' Y' a (pFl π n) (sFlush w) := by
  obtain ⟨⟨g1, g2⟩, ⟨s2, s3, s4⟩, gr, gt, go, gj⟩ := h
  have hNn : 0 ≤ w 0 ∧ w 0 < 12 := ⟨hO.2.1.1, hN⟩
  obtain ⟨p1, p2, p3, p4, p5⟩ := g2
  have hq := p4 n (by omega)
  have hok := pFl_ok (π := π) (n := n) (by omega) p4 p5
  have fa : ∀ b : Nat, b ≠ a → b ≠ a + 51 → b ≠ a + 2 + 3 * π n → F' b = F b := fun b b1 b2 b3 => by rw [hF, upF_na _ _ _ _ b1, fWipe_na b3, fNote_na b2]
  have ia : ∀ b : Nat, (b < a + 52 ∨ a + 55 < b) → b ≠ a + 2 + 3 * π n + 1 → b ≠ a + 2 + 3 * π n + 2 → I' b = I b := fun b b1 b2 b3 => by rw [hI, iWipe_na ⟨b2, b3⟩, iNote_na (by omega)]
  have row : ∀ k : Nat, k < 14 → k ≠ n → F' (a + 2 + 3 * π k) = F (a + 2 + 3 * π k) ∧ I' (a + 2 + 3 * π k + 1) = I (a + 2 + 3 * π k + 1) ∧ I' (a + 2 + 3 * π k + 2) = I (a + 2 + 3 * π k + 2) := fun k hk hkn => by
    have h1 := p4 k hk
    have h2 : π k ≠ π n := fun e => hkn (p5 k n hk (by omega) e)
    exact ⟨fa _ (by omega) (by omega) (by omega), ia _ (by omega) (by omega) (by omega), ia _ (by omega) (by omega) (by omega)⟩
  have fsc : ∀ k : Nat, k ≠ 1 → F' a k = F a k := fun k hk => by rw [hF, upF_nk _ _ _ _ hk, fWipe_na (by omega), fNote_na (by omega)]
  have f44 := fa (a + 44) (by omega) (by omega) (by omega)
  have f50 := fa (a + 50) (by omega) (by omega) (by omega)
  refine ⟨⟨g1.mvP hP1 hP2, hY, ?_, ?_, hok.1, hok.2⟩, ⟨?_, s3.mv f50 (fun j _ _ => sFl_lo hNn (by omega)), s4.mv (by rw [f44]) (by rw [f44]) (by rw [f44]) (sFl_lo hNn (by omega)) (sFl_lo hNn (by omega)) (sFl_lo hNn (by omega))⟩, fun r hr => ?_, ?_, ?_, ?_⟩
  · rw [hPt]; unfold pFl; rw [if_neg (by omega), if_neg (by omega), if_pos rfl]
  · rw [hPo, p3]; unfold pFl; rw [if_neg (by omega), if_neg (by omega), if_neg (by omega)]
  · obtain ⟨c1, c9, c10, c11, c12, c13, c14, c15⟩ := s2
    unfold rSc
    rw [sFl_0 hNn, sFl_lo hNn (j := 1) (by omega), sFl_lo hNn (j := 3) (by omega), sFl_lo hNn (j := 4) (by omega), sFl_lo hNn (j := 5) (by omega), sFl_lo hNn (j := 6) (by omega), sFl_lo hNn (j := 13) (by omega), sFl_lo hNn (j := 15) (by omega)]
    exact ⟨by rw [hF, upF_at], by rw [fsc _ (by omega)]; exact c9, by rw [fsc _ (by omega)]; exact c10, by rw [fsc _ (by omega)]; exact c11, by rw [fsc _ (by omega)]; exact c12, by rw [fsc _ (by omega)]; exact c13, by rw [fsc _ (by omega)]; exact c14, by rw [fsc _ (by omega)]; exact c15⟩
  · rw [sFl_0 hNn] at hr
    match r, hr with
    | 0, hr =>
      have e : pFl π n 0 = π 12 := by unfold pFl; rw [if_pos rfl]
      rw [e]
      obtain ⟨r1, r2, r3⟩ := row 12 (by omega) (by omega)
      obtain ⟨t1, t2, t3⟩ := gt.heap r1 r2 r3
      refine ⟨by rw [t1, sFl_c hNn ⟨by omega, by omega, by omega⟩, if_neg (by omega), if_pos (by omega)], by rw [t2, sFl_c hNn ⟨by omega, by omega, by omega⟩, if_neg (by omega), if_pos (by omega)], t3.congr (fun k k0 k1 => ?_) (fun k k0 k1 => ?_)⟩
      · rw [sFl_c hNn ⟨by omega, by omega, by omega⟩, if_neg (by omega), if_neg (by omega), if_pos (by omega), show 201 + 122 * ((0 : Nat) : Int) + k - 182 = 19 + k by omega]
      · rw [sFl_c hNn ⟨by omega, by omega, by omega⟩, if_neg (by omega), if_neg (by omega), if_neg (by omega), if_pos (by omega)]
    | s + 1, hr =>
      have e : pFl π n (s + 1) = π s := by unfold pFl; rw [if_neg (by omega), if_pos (by omega), Nat.add_sub_cancel]
      rw [e]
      obtain ⟨r1, r2, r3⟩ := row s (by omega) (by omega)
      obtain ⟨t1, t2, t3⟩ := (gr s (by omega)).heap r1 r2 r3
      refine ⟨by rw [t1, sFl_row hNn (show (s : Int) < w 0 by omega) (by omega)]; exact congrArg w (by omega), by rw [t2, sFl_row hNn (show (s : Int) < w 0 by omega) (by omega)]; exact congrArg w (by omega), t3.congr (fun k k0 k1 => ?_) (fun k k0 k1 => ?_)⟩
      · rw [sFl_row hNn (show (s : Int) < w 0 by omega) (by omega)]; exact congrArg w (by omega)
      · rw [sFl_row hNn (show (s : Int) < w 0 by omega) (by omega)]; exact congrArg w (by omega)
  · have e : pFl π n 12 = π n := by unfold pFl; rw [if_neg (by omega), if_neg (by omega), if_pos rfl]
    rw [e]
    have q0 : ∀ k : Nat, F' (a + 2 + 3 * π n) k = fWipe (fNote F (a + 51)) (a + 2 + 3 * π n) (a + 2 + 3 * π n) k := fun k => by rw [hF, upF_na _ _ _ _ (by omega)]
    have hg : rG (fWipe (fNote F (a + 51)) (a + 2 + 3 * π n)) I' (a + 2 + 3 * π n) (fun k => sFlush w (19 + k)) (fun _ => 0) := by
      rw [hI]; exact rG.wiped (fun k k0 k1 => by rw [sFl_c hNn ⟨by omega, by omega, by omega⟩, if_pos (by omega)])
    refine ⟨by rw [q0]; exact fWipe_at.2.1, by rw [q0]; exact fWipe_at.2.2, by rw [q0]; exact hg.1, hg.2⟩
  · have e : pFl π n 13 = π 13 := by unfold pFl; rw [if_neg (by omega), if_neg (by omega), if_neg (by omega)]
    rw [e]
    obtain ⟨r1, r2, r3⟩ := row 13 (by omega) (by omega)
    exact (go.heap r1 r2 r3).congr (fun j _ _ => sFl_out hNn (by omega))
  · have ht := gj.told (x := 0) (y := 0) (v := sEnt w 19) hO.2.2.2.2.2.2.2.2.2.2.1
    have f51 : F' (a + 51) = fNote F (a + 51) (a + 51) := by rw [hF, upF_na _ _ _ _ (by omega), fWipe_na (by omega)]
    refine (ht.heap f51 (fun c hc => by rw [hI, iWipe_na (by omega)])).congr (sFl_14 hNn) (fun j _ _ => sFl_told (by omega) hNn) (by rw [sTold_14b]; omega)
end RBF

