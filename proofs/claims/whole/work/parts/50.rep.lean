/-! the store as a world: where its cells lie, and what they hold -/
def wLev (T : Nat → Nat × Int) (P : Nat → Nat → Option Nat) (a : Nat) : Prop := (T a).1 = 6 ∧ (P a 0 = some (a + 1) ∧ P a 1 = some (a + 2) ∧ P a 2 = some (a + 3) ∧ P a 3 = some (a + 4)) ∧ ((T (a + 1)).1 = 14 ∧ (T (a + 1)).2 = 4) ∧ ((T (a + 2)).1 = 14 ∧ (T (a + 2)).2 = 4) ∧ ((T (a + 3)).1 = 14 ∧ (T (a + 3)).2 = 4) ∧ ((T (a + 4)).1 = 14 ∧ (T (a + 4)).2 = 4)
def wSt (T : Nat → Nat × Int) (P : Nat → Nat → Option Nat) (a : Nat) : Prop := ((T a).1 = 9 ∧ P a 0 = some (a + 1) ∧ (T (a + 1)).1 = 17 ∧ (T (a + 1)).2 = 12) ∧ (∀ i : Nat, i < 14 → wRow T P (a + 2 + 3 * i)) ∧ (P a 4 = some (a + 44) ∧ (T (a + 44)).1 = 2) ∧ (P a 5 = some (a + 45) ∧ wLev T P (a + 45)) ∧ (P a 6 = some (a + 50) ∧ (T (a + 50)).1 = 11) ∧ (P a 7 = some (a + 51) ∧ wJou T P (a + 51)) ∧ (P a 8 = some (a + 56) ∧ (T (a + 56)).1 = 14 ∧ (T (a + 56)).2 = 10)
def wPm (P : Nat → Nat → Option Nat) (Y : Nat → Int → Option Nat) (a : Nat) (π : Nat → Nat) : Prop := (∀ j : Nat, j < 12 → Y (a + 1) (j : Int) = some (a + 2 + 3 * π j)) ∧ P a 2 = some (a + 2 + 3 * π 12) ∧ P a 3 = some (a + 2 + 3 * π 13) ∧ (∀ j : Nat, j < 14 → π j < 14) ∧ ∀ i j : Nat, i < 14 → j < 14 → π i = π j → i = j
def pCnt (u : Int → Int) : Int := pSum (fun k => if u k = -1 then 0 else 1) 60
theorem pCnt_congr {u v : Int → Int} (h : ∀ k : Int, 0 ≤ k → k < 60 → u k = v k) : pCnt u = pCnt v := pSum_congr (fun j hj => by rw [h j (by omega) (by omega)])
theorem pCnt_bd (u : Int → Int) : 0 ≤ pCnt u ∧ pCnt u ≤ 60 := by
  have := pSum_bd (f := fun k => if u k = -1 then 0 else 1) (b := 1) (k := 60) (fun j _ => by split <;> omega)
  unfold pCnt; omega
theorem sEnt_p (w : Int → Int) (row : Int) : sEnt w row = pCnt (fun k => w (row + k)) := rfl
def rG (F : Nat → Nat → Int) (I : Nat → Int → Int) (b : Nat) (u g : Int → Int) : Prop := F b 2 = pCnt u ∧ ∀ k : Int, 0 ≤ k → k < 60 → I (b + 1) k = u k ∧ (u k ≠ -1 → I (b + 2) k = g k)
def rRun (F : Nat → Nat → Int) (I : Nat → Int → Int) (b : Nat) (w : Int → Int) (r : Int) : Prop := F b 3 = w (199 + 122 * r) ∧ F b 4 = w (200 + 122 * r) ∧ rG F I b (fun k => w (201 + 122 * r + k)) (fun k => w (261 + 122 * r + k))
def rTab (F : Nat → Nat → Int) (I : Nat → Int → Int) (b : Nat) (w : Int → Int) : Prop := F b 3 = 0 ∧ F b 4 = 0 ∧ rG F I b (fun k => w (19 + k)) (fun _ => 0)
def rOut (F : Nat → Nat → Int) (I : Nat → Int → Int) (b : Nat) (w : Int → Int) : Prop := F b 4 = 0 ∧ rG F I b (fun k => w (79 + k)) (fun k => w (139 + k))
def rSc (F : Nat → Nat → Int) (a : Nat) (w : Int → Int) : Prop := F a 1 = w 0 ∧ F a 9 = w 3 ∧ F a 10 = w 4 ∧ F a 11 = w 5 ∧ F a 12 = w 6 ∧ F a 13 = w 13 ∧ F a 14 = w 15 ∧ F a 15 = w 1
def rTl (F : Nat → Nat → Int) (a : Nat) (w : Int → Int) : Prop := F (a + 50) 0 = w 7 ∧ F (a + 50) 1 = w 8 ∧ F (a + 50) 2 = w 9 ∧ F (a + 50) 3 = w 10 ∧ F (a + 50) 4 = w 11 ∧ F (a + 50) 5 = w 12
def rJb (F : Nat → Nat → Int) (a : Nat) (w : Int → Int) : Prop := F (a + 44) 0 = w 16 ∧ F (a + 44) 1 = sGoal w ∧ F (a + 44) 2 = if w 16 = 1 then w 18 else 0
def rJo (F : Nat → Nat → Int) (I : Nat → Int → Int) (a : Nat) (w : Int → Int) : Prop := F (a + 51) 5 = w 14 ∧ (0 ≤ F (a + 51) 4 ∧ F (a + 51) 4 < 60) ∧ ∀ k c : Nat, (k : Int) < w 14 → c < 4 → I (a + 52 + c) ((F (a + 51) 4 + F (a + 51) 5 - 1 - (k : Int)) % 60) = w (1663 + 4 * (k : Int) + c)
def sFree (w : Int → Int) (l : Int) : Int := pSum (fun r => if w (199 + 122 * r) = l ∧ w (200 + 122 * r) ≠ 1 then sEnt w (201 + 122 * r) else 0) (wN w)
noncomputable def sDueN (w : Int → Int) : Nat := nSet (fun l => sDueB w (l : Int)) 4
noncomputable def sOwed (w : Int → Int) : Int := pSum (fun l => if sDueB w l = true then sFree w l else 0) 4
def rLv (F : Nat → Nat → Int) (I : Nat → Int → Int) (a : Nat) (w : Int → Int) : Prop := (∀ l : Nat, l < 4 → I (a + 46) (l : Int) = (sRuns w (l : Int) : Nat) ∧ I (a + 47) (l : Int) = sMany w (l : Int) ∧ I (a + 48) (l : Int) = sEntIn w (sRuns w (l : Int)) ∧ I (a + 49) (l : Int) = sFree w (l : Int)) ∧ F (a + 45) 4 = (sDueN w : Nat) ∧ F (a + 45) 5 = sOwed w
/-- the law at l is the world's -/
def cEnc (c n : Int) : Int := if c ≤ 9 then -10 - c else if c = 10 then n else if c = 11 then -4 else if c = 12 then -5 else if c = 13 then -6 else if c = 14 then -3 else if c = 15 then -1 else -2
def rLaw (T : Nat → Nat × Int) (F : Nat → Nat → Int) (I : Nat → Int → Int) (P : Nat → Nat → Option Nat) (l : Nat) (w : Int → Int) : Prop := w 2 = 1 ∧ (T l).1 = 4 ∧ (P l 1 = some (l + 1) ∧ P l 2 = some (l + 2) ∧ P l 3 = some (l + 3) ∧ P l 4 = some (l + 4) ∧ P l 5 = some (l + 5)) ∧ ((T (l + 1)).1 = 14 ∧ (T (l + 1)).2 = w 1903) ∧ ((T (l + 2)).1 = 14 ∧ (T (l + 2)).2 = w 1903) ∧ ((T (l + 3)).1 = 14 ∧ (T (l + 3)).2 = w 1903 + 1) ∧ ((T (l + 4)).1 = 14 ∧ 0 ≤ (T (l + 4)).2 ∧ (T (l + 4)).2 ≤ 400) ∧ ((T (l + 5)).1 = 14 ∧ (T (l + 5)).2 = 32) ∧
  F l 0 = w 1903 ∧ ∀ n : Nat, (n : Int) < w 1903 → I (l + 1) (n : Int) = 10 + w (1904 + 4 * (n : Int)) ∧ I (l + 2) (n : Int) = w (1904 + 4 * (n : Int) + 1) ∧ I (l + 3) (n : Int) = wFrom w n ∧ I (l + 3) ((n : Int) + 1) = wTo w n ∧ wTo w n ≤ (T (l + 4)).2 ∧ ∀ i : Int, 0 ≤ i → wFrom w n ≤ i → i < wTo w n → I (l + 4) i = cEnc (w (1952 + 2 * i)) (w (1952 + 2 * i + 1))
/-- the types of a line's code: a stack of whether a thing is true or not (true) or a number (false), never above 32 -/
def cTy : List (Int × Int) → List Bool → Option (List Bool)
  | [], s => some s
  | (c, _) :: t, s => if 32 ≤ s.length then none else if c ≤ 6 ∨ c = 10 then cTy t (false :: s) else if c ≤ 9 then cTy t (true :: s) else if c = 14 then (match s with
      | true :: r => cTy t (true :: r)
      | _ => none) else if c = 11 then (match s with
      | false :: false :: r => cTy t (false :: r)
      | _ => none) else if c = 12 ∨ c = 13 then (match s with
      | false :: false :: r => cTy t (true :: r)
      | _ => none) else (match s with
      | true :: true :: r => cTy t (true :: r)
      | _ => none)
def wTyp (w : Int → Int) : Prop := w 2 = 1 → ∀ n : Nat, (n : Int) < w 1903 → wFrom w n = wTo w n ∨ cTy (wLcode w n) [] = some [true]
def rLw (T : Nat → Nat × Int) (F : Nat → Nat → Int) (I : Nat → Int → Int) (P : Nat → Nat → Option Nat) (a : Nat) (w : Int → Int) : Prop := (P a 16 = none ∧ w 2 = 0) ∨ ∃ l : Nat, P a 16 = some l ∧ rLaw T F I P l w ∧ (l + 6 ≤ a ∨ a + 57 ≤ l)
def RB (T : Nat → Nat × Int) (F : Nat → Nat → Int) (I : Nat → Int → Int) (P : Nat → Nat → Option Nat) (Y : Nat → Int → Option Nat) (a : Nat) (π : Nat → Nat) (w : Int → Int) : Prop :=
  (wSt T P a ∧ wPm P Y a π) ∧ (rSc F a w ∧ rTl F a w ∧ rJb F a w) ∧ (∀ r : Nat, (r : Int) < w 0 → rRun F I (a + 2 + 3 * π r) w r) ∧ rTab F I (a + 2 + 3 * π 12) w ∧ rOut F I (a + 2 + 3 * π 13) w ∧ rJo F I a w
def wGd (w : Int → Int) : Prop := wOk w ∧ wLw w ∧ wTyp w
/-- the store at a is the world w -/
def SR (T : Nat → Nat × Int) (F : Nat → Nat → Int) (I : Nat → Int → Int) (P : Nat → Nat → Option Nat) (Y : Nat → Int → Option Nat) (a : Nat) (w : Int → Int) : Prop :=
  wGd w ∧ rLw T F I P a w ∧ (∃ π : Nat → Nat, RB T F I P Y a π w) ∧ rLv F I a w ∧ F (a + 44) 3 = sLeft w
/-- nothing but the store at a (and the stack of its law) is new -/
def SF (a : Nat) (F : Nat → Nat → Int) (I : Nat → Int → Int) (P : Nat → Nat → Option Nat) (Y : Nat → Int → Option Nat) (F' : Nat → Nat → Int) (I' : Nat → Int → Int) (P' : Nat → Nat → Option Nat) (Y' : Nat → Int → Option Nat) : Prop :=
  (∀ b : Nat, b < a ∨ a + 57 ≤ b → F' b = F b ∧ P' b = P b ∧ Y' b = Y b ∧ ((∀ l, P a 16 = some l → b ≠ l + 5) → I' b = I b)) ∧ ∀ k : Nat, k ≠ 2 → k ≠ 3 → P' a k = P a k
theorem SF.rf {a : Nat} {F : Nat → Nat → Int} {I : Nat → Int → Int} {P : Nat → Nat → Option Nat} {Y : Nat → Int → Option Nat} : SF a F I P Y F I P Y := ⟨fun _ _ => ⟨rfl, rfl, rfl, fun _ => rfl⟩, fun _ _ _ => rfl⟩
theorem SF.tr {a : Nat} {F F1 F2 : Nat → Nat → Int} {I I1 I2 : Nat → Int → Int} {P P1 P2 : Nat → Nat → Option Nat} {Y Y1 Y2 : Nat → Int → Option Nat} (h1 : SF a F I P Y F1 I1 P1 Y1) (h2 : SF a F1 I1 P1 Y1 F2 I2 P2 Y2) : SF a F I P Y F2 I2 P2 Y2 := by
  refine ⟨fun b hb => ?_, fun k k2 k3 => (h2.2 k k2 k3).trans (h1.2 k k2 k3)⟩
  obtain ⟨a1, a2, a3, a4⟩ := h1.1 b hb
  obtain ⟨b1, b2, b3, b4⟩ := h2.1 b hb
  refine ⟨b1.trans a1, b2.trans a2, b3.trans a3, fun hl => (b4 ?_).trans (a4 hl)⟩
  intro l hl2
  rw [h1.2 16 (by omega) (by omega)] at hl2
  exact hl l hl2
/-! worlds whose runs are alike -/
def eqR (w w' : Int → Int) : Prop := w' 0 = w 0 ∧ ∀ j : Int, 199 ≤ j → j < 1663 → w' j = w j
theorem eqR.rf {w : Int → Int} : eqR w w := ⟨rfl, fun _ _ _ => rfl⟩
theorem eqR_S (w : Int → Int) (i v : Int) (h : i ≠ 0 ∧ (i < 199 ∨ 1663 ≤ i)) : eqR w (wS w i v) := ⟨wS_ne _ _ _ (by omega), fun j h1 h2 => wS_ne _ _ _ (by omega)⟩
theorem eqR.tr {a b c : Int → Int} (h1 : eqR a b) (h2 : eqR b c) : eqR a c := ⟨h2.1.trans h1.1, fun j a b => (h2.2 j a b).trans (h1.2 j a b)⟩
theorem eqR.n {w w' : Int → Int} (h : eqR w w') : wN w' = wN w := by unfold wN; rw [h.1]
section EQR
variable {w w' : Int → Int}
theorem eqR.ent (h : eqR w w') {r : Int} (hr : 0 ≤ r ∧ r < 12) : sEnt w' (201 + 122 * r) = sEnt w (201 + 122 * r) := by
  rw [sEnt_p, sEnt_p]; exact pCnt_congr (fun k h0 h1 => h.2 _ (by omega) (by omega))
theorem eqR.runs (h : eqR w w') (hN : 0 ≤ w 0 ∧ w 0 ≤ 12) (l : Int) : sRuns w' l = sRuns w l := by
  unfold sRuns; rw [h.n]
  exact nSet_congr (fun j hj => by rw [h.2 _ (by omega) (by have := wN_i hN.1; omega)])
theorem eqR.inp (h : eqR w w') (hN : 0 ≤ w 0 ∧ w 0 ≤ 12) : sInp w' = sInp w := by
  unfold sInp; rw [h.n]
  exact nSet_congr (fun j hj => by rw [h.2 _ (by omega) (by have := wN_i hN.1; omega)])
theorem eqR.many (h : eqR w w') (hN : 0 ≤ w 0 ∧ w 0 ≤ 12) (l : Int) : sMany w' l = sMany w l := by
  unfold sMany; rw [h.n]
  exact pSum_congr (fun j hj => by rw [h.2 _ (by omega) (by have := wN_i hN.1; omega)])
theorem eqR.entIn (h : eqR w w') (hN : 0 ≤ w 0 ∧ w 0 ≤ 12) (s : Nat) : sEntIn w' s = sEntIn w s := by
  unfold sEntIn; rw [h.n]
  exact pSum_congr (fun j hj => by
    have := wN_i hN.1
    rw [h.ent ⟨by omega, by omega⟩])
theorem eqR.free (h : eqR w w') (hN : 0 ≤ w 0 ∧ w 0 ≤ 12) (l : Int) : sFree w' l = sFree w l := by
  unfold sFree; rw [h.n]
  exact pSum_congr (fun j hj => by
    have := wN_i hN.1
    rw [h.ent ⟨by omega, by omega⟩, h.2 (199 + 122 * (j : Int)) (by omega) (by omega), h.2 (200 + 122 * (j : Int)) (by omega) (by omega)])
theorem eqR.due (h : eqR w w') (hN : 0 ≤ w 0 ∧ w 0 ≤ 12) (h3 : w' 3 = w 3) (h4 : w' 4 = w 4) (h5 : w' 5 = w 5) (l : Int) : sDueB w' l = sDueB w l := by
  have : sDue w' l = sDue w l := by unfold sDue; rw [h.many hN, h.runs hN, h.entIn hN, h3, h4, h5]
  unfold sDueB; rw [this]
theorem eqR.dueN (h : eqR w w') (hN : 0 ≤ w 0 ∧ w 0 ≤ 12) (h3 : w' 3 = w 3) (h4 : w' 4 = w 4) (h5 : w' 5 = w 5) : sDueN w' = sDueN w := nSet_congr (fun j _ => by rw [h.due hN h3 h4 h5])
theorem eqR.owed (h : eqR w w') (hN : 0 ≤ w 0 ∧ w 0 ≤ 12) (h3 : w' 3 = w 3) (h4 : w' 4 = w 4) (h5 : w' 5 = w 5) : sOwed w' = sOwed w := pSum_congr (fun j _ => by rw [h.due hN h3 h4 h5, h.free hN])
theorem eqR.left (h : eqR w w') (hN : 0 ≤ w 0 ∧ w 0 ≤ 12) (h18 : w' 18 = w 18) : sLeft w' = sLeft w := by
  unfold sLeft; rw [h.n]
  refine pSum_congr (fun j hj => ?_)
  have := wN_i hN.1
  rw [h.2 (200 + 122 * (j : Int)) (by omega) (by omega)]
  unfold sLeftR
  rw [h18]
  congr 1
  refine pSum_congr (fun k hk => ?_)
  rw [h.2 (201 + 122 * (j : Int) + (k : Int)) (by omega) (by omega)]
theorem rLv.congr {F : Nat → Nat → Int} {I : Nat → Int → Int} {a : Nat} (h : eqR w w') (hN : 0 ≤ w 0 ∧ w 0 ≤ 12) (h3 : w' 3 = w 3) (h4 : w' 4 = w 4) (h5 : w' 5 = w 5) (hv : rLv F I a w) : rLv F I a w' := by
  refine ⟨fun l hl => ?_, ?_, ?_⟩
  · rw [h.runs hN, h.many hN, h.entIn hN, h.free hN]; exact hv.1 l hl
  · rw [h.dueN hN h3 h4 h5]; exact hv.2.1
  · rw [h.owed hN h3 h4 h5]; exact hv.2.2
theorem rG.congr {F : Nat → Nat → Int} {I : Nat → Int → Int} {b : Nat} {u u' g g' : Int → Int} (h : ∀ k : Int, 0 ≤ k → k < 60 → u' k = u k) (h2 : ∀ k : Int, 0 ≤ k → k < 60 → g' k = g k) (hv : rG F I b u g) : rG F I b u' g' :=
  ⟨by rw [hv.1]; exact (pCnt_congr h).symm, fun k k0 k1 => by rw [h k k0 k1, h2 k k0 k1]; exact hv.2 k k0 k1⟩
theorem rRun.congr {F : Nat → Nat → Int} {I : Nat → Int → Int} {b : Nat} {r : Int} (h : ∀ j : Int, 199 + 122 * r ≤ j → j < 321 + 122 * r → w' j = w j) (hv : rRun F I b w r) : rRun F I b w' r :=
  ⟨by rw [h _ (by omega) (by omega)]; exact hv.1, by rw [h _ (by omega) (by omega)]; exact hv.2.1, hv.2.2.congr (fun k k0 k1 => h _ (by omega) (by omega)) (fun k k0 k1 => h _ (by omega) (by omega))⟩
theorem rTab.congr {F : Nat → Nat → Int} {I : Nat → Int → Int} {b : Nat} (h : ∀ j : Int, 19 ≤ j → j < 79 → w' j = w j) (hv : rTab F I b w) : rTab F I b w' :=
  ⟨hv.1, hv.2.1, hv.2.2.congr (fun k k0 k1 => h _ (by omega) (by omega)) (fun _ _ _ => rfl)⟩
theorem rOut.congr {F : Nat → Nat → Int} {I : Nat → Int → Int} {b : Nat} (h : ∀ j : Int, 79 ≤ j → j < 199 → w' j = w j) (hv : rOut F I b w) : rOut F I b w' :=
  ⟨hv.1, hv.2.congr (fun k k0 k1 => h _ (by omega) (by omega)) (fun k k0 k1 => h _ (by omega) (by omega))⟩
theorem rJo.congr {F : Nat → Nat → Int} {I : Nat → Int → Int} {a : Nat} (h14 : w' 14 = w 14) (h : ∀ j : Int, 1663 ≤ j → j < 1903 → w' j = w j) (hN : w 14 ≤ 60) (hv : rJo F I a w) : rJo F I a w' := by
  refine ⟨by rw [h14]; exact hv.1, hv.2.1, fun k c hk hc => ?_⟩
  rw [h14] at hk
  rw [h _ (by omega) (by omega)]; exact hv.2.2 k c hk hc
end EQR

section RBM
variable {T : Nat → Nat × Int} {F F' : Nat → Nat → Int} {I I' : Nat → Int → Int} {P : Nat → Nat → Option Nat} {Y : Nat → Int → Option Nat} {a : Nat} {π : Nat → Nat} {w w' : Int → Int}
theorem rG.heap {b : Nat} {u g : Int → Int} (hF : F' b = F b) (h1 : I' (b + 1) = I (b + 1)) (h2 : I' (b + 2) = I (b + 2)) (h : rG F I b u g) : rG F' I' b u g := by
  unfold rG; rw [hF, h1, h2]; exact h
theorem rRun.heap {b : Nat} {r : Int} (hF : F' b = F b) (h1 : I' (b + 1) = I (b + 1)) (h2 : I' (b + 2) = I (b + 2)) (h : rRun F I b w r) : rRun F' I' b w r := by
  unfold rRun; rw [hF]; exact ⟨h.1, h.2.1, h.2.2.heap hF h1 h2⟩
theorem rTab.heap {b : Nat} (hF : F' b = F b) (h1 : I' (b + 1) = I (b + 1)) (h2 : I' (b + 2) = I (b + 2)) (h : rTab F I b w) : rTab F' I' b w := by
  unfold rTab; rw [hF]; exact ⟨h.1, h.2.1, h.2.2.heap hF h1 h2⟩
theorem rOut.heap {b : Nat} (hF : F' b = F b) (h1 : I' (b + 1) = I (b + 1)) (h2 : I' (b + 2) = I (b + 2)) (h : rOut F I b w) : rOut F' I' b w := by
  unfold rOut; rw [hF]; exact ⟨h.1, h.2.heap hF h1 h2⟩
theorem rJo.heap (hF : F' (a + 51) = F (a + 51)) (hI : ∀ c : Nat, c < 4 → I' (a + 52 + c) = I (a + 52 + c)) (h : rJo F I a w) : rJo F' I' a w := by
  unfold rJo; rw [hF]; exact ⟨h.1, h.2.1, fun k c hk hc => by rw [hI c hc]; exact h.2.2 k c hk hc⟩
theorem rLv.heap (hF : F' (a + 45) = F (a + 45)) (h1 : I' (a + 46) = I (a + 46)) (h2 : I' (a + 47) = I (a + 47)) (h3 : I' (a + 48) = I (a + 48)) (h4 : I' (a + 49) = I (a + 49)) (h : rLv F I a w) : rLv F' I' a w := by
  unfold rLv; rw [hF, h1, h2, h3, h4]; exact h
theorem rLaw.heap {l : Nat} (hF : F' l = F l) (h1 : I' (l + 1) = I (l + 1)) (h2 : I' (l + 2) = I (l + 2)) (h3 : I' (l + 3) = I (l + 3)) (h4 : I' (l + 4) = I (l + 4)) (h : rLaw T F I P l w) : rLaw T F' I' P l w := by
  unfold rLaw; rw [hF, h1, h2, h3, h4]; exact h
theorem rLaw.hi {l : Nat} (hh : wHi w w') (h : rLaw T F I P l w) : rLaw T F I P l w' := by
  obtain ⟨a0, a1, a2, a3, a4, a5, a6, a7, a8, a9⟩ := h
  have e : w' 1903 = w 1903 := hh.2 _ (by omega)
  unfold rLaw
  rw [hh.1, e]
  refine ⟨a0, a1, a2, a3, a4, a5, a6, a7, a8, fun n hn => ?_⟩
  have b := a9 n hn
  unfold wFrom wTo at b ⊢
  rw [hh.2 _ (by omega), hh.2 _ (by omega), hh.2 _ (by omega), hh.2 _ (by omega)]
  obtain ⟨b1, b2, b3, b4, b5, b6⟩ := b
  exact ⟨b1, b2, b3, b4, b5, fun i h0 h1 h2 => by rw [hh.2 _ (by omega), hh.2 _ (by omega)]; exact b6 i h0 h1 h2⟩
theorem rLw.mv (hF : ∀ b : Nat, b < a ∨ a + 57 ≤ b → F' b = F b) (hI : ∀ b : Nat, b < a ∨ a + 57 ≤ b → (∀ l, P a 16 = some l → b ≠ l + 5) → I' b = I b) (hh : wHi w w') (h : rLw T F I P a w) : rLw T F' I' P a w' := by
  rcases h with ⟨h1, h2⟩ | ⟨l, h1, h2, h3⟩
  · exact Or.inl ⟨h1, by rw [hh.1]; exact h2⟩
  · have hx : ∀ k : Nat, k < 5 → I' (l + k) = I (l + k) := fun k hk => hI _ (by omega) (fun l2 h4 => by rw [h1] at h4; cases h4; omega)
    exact Or.inr ⟨l, h1, (h2.heap (hF l (by omega)) (hx 1 (by omega)) (hx 2 (by omega)) (hx 3 (by omega)) (hx 4 (by omega))).hi hh, h3⟩
theorem RB.mv (h : RB T F I P Y a π w) (hF : ∀ b : Nat, a + 2 ≤ b → b < a + 44 → F' b = F b) (hI : ∀ b : Nat, a + 2 ≤ b → b < a + 44 → I' b = I b) (h0 : w' 0 = w 0) (hw : ∀ j : Int, 19 ≤ j → j < 1663 → w' j = w j) (hN : w 0 ≤ 12)
    (hs : rSc F' a w' ∧ rTl F' a w' ∧ rJb F' a w') (hj : rJo F' I' a w') : RB T F' I' P Y a π w' := by
  obtain ⟨⟨g1, g2⟩, -, gr, gt, go, -⟩ := h
  have hp := g2.2.2.2.1
  refine ⟨⟨g1, g2⟩, hs, fun r hr => ?_, ?_, ?_, hj⟩
  · rw [h0] at hr
    have := hp r (by omega)
    refine ((gr r hr).heap (hF _ (by omega) (by omega)) (hI _ (by omega) (by omega)) (hI _ (by omega) (by omega))).congr (fun j j1 j2 => hw j (by omega) (by omega))
  · have := hp 12 (by omega)
    exact (gt.heap (hF _ (by omega) (by omega)) (hI _ (by omega) (by omega)) (hI _ (by omega) (by omega))).congr (fun j j1 j2 => hw j (by omega) (by omega))
  · have := hp 13 (by omega)
    exact (go.heap (hF _ (by omega) (by omega)) (hI _ (by omega) (by omega)) (hI _ (by omega) (by omega))).congr (fun j j1 j2 => hw j (by omega) (by omega))
theorem wTyp.hi (hh : wHi w w') (hL : wLw w) (h : wTyp w) : wTyp w' := by
  intro h2 n hn
  rw [hh.1] at h2
  rw [hh.2 1903 (by omega)] at hn
  have hb := ((hL h2).2 n hn).2.2.1
  have h3 := h h2 n hn
  have e1 : wFrom w' n = wFrom w n := hh.2 _ (by omega)
  have e2 : wTo w' n = wTo w n := hh.2 _ (by omega)
  have e3 : ∀ (k : Nat) (i : Int), 0 ≤ i → wCode w' i k = wCode w i k := by
    intro k
    induction k with
    | zero => intro i _; rfl
    | succ k ih => intro i hi; rw [wCode, wCode, ih (i + 1) (by omega), hh.2 _ (by omega), hh.2 _ (by omega)]
  unfold wLcode at h3 ⊢
  rw [e1, e2, e3 _ _ hb.1]; exact h3
theorem wGd.mv (h : wGd w) (hO : wOk w') (hh : wHi w w') : wGd w' := ⟨hO, wLw_hi hh h.2.1, h.2.2.hi hh h.2.1⟩
theorem SR.mv (h : SR T F I P Y a w) (hF : ∀ b : Nat, b < a + 44 ∨ a + 57 ≤ b → b ≠ a → F' b = F b) (hI : ∀ b : Nat, b < a + 44 ∨ a + 57 ≤ b → b ≠ a → (∀ l, P a 16 = some l → b ≠ l + 5) → I' b = I b) (hO : wOk w') (hh : wHi w w') (h0 : w' 0 = w 0) (hw : ∀ j : Int, 19 ≤ j → j < 1663 → w' j = w j)
    (hs : rSc F' a w' ∧ rTl F' a w' ∧ rJb F' a w') (hj : rJo F' I' a w') (hv : rLv F' I' a w') (hl : F' (a + 44) 3 = sLeft w') : SR T F' I' P Y a w' := by
  obtain ⟨g1, g2, ⟨π, g3⟩, -, -⟩ := h
  refine ⟨g1.mv hO hh, rLw.mv (fun b hb => hF b (by omega) (by omega)) (fun b hb => hI b (by omega) (by omega)) hh g2, ⟨π, RB.mv g3 (fun b h1 h2 => hF b (by omega) (by omega)) (fun b h1 h2 => hI b (by omega) (by omega) (fun l h4 => ?_)) h0 hw g1.1.2.1.2 hs hj⟩, hv, hl⟩
  rcases g2 with ⟨h5, -⟩ | ⟨l2, h5, -, h6⟩
  · rw [h5] at h4; cases h4
  · rw [h5] at h4; cases h4; omega
end RBM

