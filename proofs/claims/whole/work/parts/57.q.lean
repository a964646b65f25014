/-! calls that leave the store a world -/
def xQ (a : Nat) (r : Option Value) (z : Nat) (T : Nat → Nat × Int) (F : Nat → Nat → Int) (I : Nat → Int → Int) (P : Nat → Nat → Option Nat) (Y : Nat → Int → Option Nat) (w' : Int → Int) : Option Value → xH → Prop := fun v h' => v = r ∧ ∃ (F' : Nat → Nat → Int) (I' : Nat → Int → Int) (P' : Nat → Nat → Option Nat) (Y' : Nat → Int → Option Nat), h' = (z, T, F', I', P', Y') ∧ SR T F' I' P' Y' a w' ∧ SF a F I P Y F' I' P' Y'
section XQ
variable {E : xE} {M M' : xM} {X : xX} {pc : Nat} {L : List (Option Value)} {st rest : List Value} {z : Nat} {T : Nat → Nat × Int} {F : Nat → Nat → Int} {I : Nat → Int → Int} {P : Nat → Nat → Option Nat} {Y : Nat → Int → Option Nat} {c n d mc ms k' i a : Nat} {w w' : Int → Int}
theorem xg_callVq {b : Nat} {r : Option Value} {st' : List Value} (q : Nat) (ci : Nat) (As rest : List Value) (hM : xMv M') (hci : ∃ (Tt : u_T) (N : Nat), vwCl[ci]? = some (M'.1.cls, Tt, N)) (hl : Cond.methodLink M.1.cls i M'.1 ∈ xT) (d0 : decode M.2.1 pc = .ok (.invokevirtual i, 3)) (hq : pc + 3 = q) (hk : (T b).1 = ci + 1) (hci2 : ci ≤ 12)
    (hn : As.length = M'.2.2.2.2) (hst : st = As.reverse ++ .ref b :: rest) (hsum : (rest.map fun v => v.category).sum ≤ 8) (hd : k' + 1 ≤ d) (hc : c ≤ mc ∧ n ≤ ms) (ct : Ct E k' M' 0 0 (.ref b :: As) (z, T, F, I, P, Y) (xQ a r z T F I P Y w')) (hr : r.toList ++ rest = st')
    (kk : ∀ (F' : Nat → Nat → Int) (I' : Nat → Int → Int) (P' : Nat → Nat → Option Nat) (Y' : Nat → Int → Option Nat), SR T F' I' P' Y' a w' → SF a F I P Y F' I' P' Y' → xG E M (xR d mc ms) X q L st' (z, T, F', I', P', Y') c n) : xG E M (xR d mc ms) X pc L st (z, T, F, I, P, Y) c n :=
  xg_callV0 q hM hci hl d0 hq hk hci2 hn hst hsum hd (by simpa using hc) ct (fun v h' e => by obtain ⟨rfl, F', I', P', Y', rfl, h1, h2⟩ := e; rw [hr]; exact kk F' I' P' Y' h1 h2)
theorem xg_callVu {b l : Nat} {r : Option Value} {st' : List Value} (q : Nat) (ci : Nat) (As rest : List Value) (hM : xMv M') (hci : ∃ (Tt : u_T) (N : Nat), vwCl[ci]? = some (M'.1.cls, Tt, N)) (hl : Cond.methodLink M.1.cls i M'.1 ∈ xT) (d0 : decode M.2.1 pc = .ok (.invokevirtual i, 3)) (hq : pc + 3 = q) (hk : (T b).1 = ci + 1) (hci2 : ci ≤ 12)
    (hn : As.length = M'.2.2.2.2) (hst : st = As.reverse ++ .ref b :: rest) (hsum : (rest.map fun v => v.category).sum ≤ 8) (hd : k' + 1 ≤ d) (hc : c ≤ mc ∧ n ≤ ms) (ct : Ct E k' M' 0 0 (.ref b :: As) (z, T, F, I, P, Y) (fun v h2 => v = r ∧ ∃ u, h2 = (z, T, F, upA I l u, P, Y))) (hr : r.toList ++ rest = st')
    (kk : ∀ u : Int → Int, xG E M (xR d mc ms) X q L st' (z, T, F, upA I l u, P, Y) c n) : xG E M (xR d mc ms) X pc L st (z, T, F, I, P, Y) c n :=
  xg_callV0 q hM hci hl d0 hq hk hci2 hn hst hsum hd (by simpa using hc) ct (fun v h' e => by obtain ⟨rfl, u, rfl⟩ := e; rw [hr]; exact kk u)
theorem SR.lawI {I' : Nat → Int → Int} (h : SR T F I P Y a w) (hI : ∀ b : Nat, b ≠ a + 56 → (∀ l, P a 16 = some l → b ≠ l + 5) → I' b = I b) : SR T F I' P Y a w := by
  obtain ⟨g1, g2, ⟨π, g3⟩, g4, g5⟩ := id h
  have hx : ∀ b : Nat, a ≤ b → b < a + 56 → I' b = I b := fun b b1 b2 => hI b (by omega) (fun l hl => by
    rcases g2 with ⟨h5, -⟩ | ⟨l2, h5, -, h6⟩
    · rw [h5] at hl; cases hl
    · rw [h5] at hl; cases hl; omega)
  exact h.mv (fun b _ _ => rfl) (fun b hb _ hl => by
    by_cases hb2 : b = a + 56
    · omega
    · exact hI b hb2 hl) g1.1 wHi.rf rfl (fun _ _ _ => rfl) g3.2.1 (g3.2.2.2.2.2.heap rfl (fun c hc => hx _ (by omega) (by omega))) (g4.heap rfl (hx _ (by omega) (by omega)) (hx _ (by omega) (by omega)) (hx _ (by omega) (by omega)) (hx _ (by omega) (by omega))) g5
theorem SF.lawI {I' : Nat → Int → Int} (hI : ∀ b : Nat, b ≠ a + 56 → (∀ l, P a 16 = some l → b ≠ l + 5) → I' b = I b) : SF a F I P Y F I' P Y := ⟨fun b hb => ⟨rfl, rfl, rfl, fun hl => hI b (by omega) hl⟩, fun _ _ _ => rfl⟩
end XQ
/-- the runs of a world: levels, inputs, entries -/
def wRn (w : Int → Int) : Prop := (∀ r : Nat, (r : Int) < w 0 → (0 ≤ w (199 + 122 * (r : Int)) ∧ w (199 + 122 * (r : Int)) ≤ 3) ∧ (w (200 + 122 * (r : Int)) = 0 ∨ w (200 + 122 * (r : Int)) = 1) ∧ 0 < sEnt w (201 + 122 * (r : Int))) ∧ (w 16 = 0 → (∀ r : Nat, (r : Int) < w 0 → w (200 + 122 * (r : Int)) = 0) ∧ ∀ k : Int, 0 ≤ k → k < 60 → w (79 + k) = -1)
theorem wRn.i01 {w : Int → Int} (h : wRn w) : ∀ r : Nat, (r : Int) < w 0 → w (200 + 122 * (r : Int)) = 0 ∨ w (200 + 122 * (r : Int)) = 1 := fun r hr => (h.1 r hr).2.1
theorem wRn.lv {w : Int → Int} (h : wRn w) : ∀ r : Nat, (r : Int) < w 0 → (0 ≤ w (199 + 122 * (r : Int)) ∧ w (199 + 122 * (r : Int)) ≤ 3) ∧ (w (200 + 122 * (r : Int)) = 0 ∨ w (200 + 122 * (r : Int)) = 1) := fun r hr => ⟨(h.1 r hr).1, (h.1 r hr).2.1⟩
theorem pSum_add (f g : Int → Int) : ∀ n : Nat, pSum f n + pSum g n = pSum (fun k => f k + g k) n
  | 0 => by simp [pSum]
  | n + 1 => by rw [pSum_s, pSum_s, pSum_s, ← pSum_add f g n]; omega
theorem pSum_if {p : Bool} (f : Int → Int) (n : Nat) : (if p = true then pSum f n else 0) = pSum (fun k => if p = true then f k else 0) n := by
  cases p
  · simp only [Bool.false_eq_true, if_false]
    induction n with
    | zero => rfl
    | succ n ih => rw [pSum_s, ← ih]; rfl
  · simp only [if_true]
theorem sDebt_eq {w : Int → Int} (h : wRn w) (hN : 0 ≤ w 0 ∧ w 0 ≤ 12) : sDebt w = sLeft w + sOwed w := by
  have h1 : sOwed w = sEntIn w (nAndn (sDebtS w 4) (sInp w)) := by
    show ((((0 + (if sDueB w (0 : Nat) = true then sFree w (0 : Nat) else 0)) + (if sDueB w (1 : Nat) = true then sFree w (1 : Nat) else 0)) + (if sDueB w (2 : Nat) = true then sFree w (2 : Nat) else 0)) + (if sDueB w (3 : Nat) = true then sFree w (3 : Nat) else 0)) = _
    unfold sFree
    rw [pSum_if, pSum_if, pSum_if, pSum_if, Int.zero_add, pSum_add, pSum_add, pSum_add]
    unfold sEntIn
    refine pSum_congr (fun r hr => ?_)
    have hw := wN_i hN.1
    obtain ⟨g1, g2⟩ := h.lv r (by omega)
    rw [Int.toNat_natCast, nAndn_bit _ _ (by omega)]
    simp only [sDebtS]
    rw [Nat.testBit_or, Nat.testBit_or, Nat.testBit_or, Nat.testBit_or]
    have hb : ∀ l : Nat, (if sDueB w (l : Int) = true then sRuns w (l : Int) else 0).testBit r = (sDueB w (l : Int) && decide (w (199 + 122 * (r : Int)) = (l : Int))) := by
      intro l
      by_cases q : sDueB w (l : Int) = true
      · rw [if_pos q, q]; unfold sRuns; rw [nSet_bit]; simp [hr]
      · rw [if_neg q, Bool.eq_false_iff.mpr q]; simp
    rw [hb 0, hb 1, hb 2, hb 3]
    have hi : (sInp w).testBit r = decide (w (200 + 122 * (r : Int)) = 1) := by unfold sInp; rw [nSet_bit]; simp [hr]
    rw [hi, Nat.zero_testBit]
    clear hb hi
    generalize sDueB w ((0 : Nat) : Int) = d0
    generalize sDueB w ((1 : Nat) : Int) = d1
    generalize sDueB w ((2 : Nat) : Int) = d2
    generalize sDueB w ((3 : Nat) : Int) = d3
    rcases g2 with g2 | g2
    · rcases (show w (199 + 122 * (r : Int)) = 0 ∨ w (199 + 122 * (r : Int)) = 1 ∨ w (199 + 122 * (r : Int)) = 2 ∨ w (199 + 122 * (r : Int)) = 3 by omega) with g | g | g | g
      all_goals (cases d0 <;> cases d1 <;> cases d2 <;> cases d3 <;> simp [g, g2])
    · simp [g2]
  unfold sDebt; rw [h1]
