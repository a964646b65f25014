/-! the steps of both sides, by their kinds -/
/-- a number as an int holds it -/
def jn (r : Int) : Int := (Int32.ofInt r).toInt
theorem jn_r (r : Int) : -2147483648 ≤ jn r ∧ jn r < 2147483648 := by
  have h1 := Int32.le_toInt (Int32.ofInt r)
  have h2 := Int32.toInt_lt (Int32.ofInt r)
  unfold jn; omega
theorem jn_J (r : Int) : J (jn r) = J r := by unfold J jn; rw [Int32.ofInt_toInt]
theorem Ct.up {E : xE} {k k' : Nat} {M : xM} {mc ms : Nat} {As : List Value} {h : xH} {post : Option Value → xH → Prop} (ct : Ct E k M mc ms As h post) (hk : k ≤ k') : Ct E k' M mc ms As h post := fun d hd => ct d (Nat.le_trans hk hd)
theorem CtH.up {E : xE} {k k' : Nat} {M : xM} {hh : List (Nat × Nat × Nat × Nat)} {mc ms : Nat} {As : List Value} {h : xH} {post : Option Value → xH → Prop} (ct : CtH E k M hh mc ms As h post) (hk : k ≤ k') : CtH E k' M hh mc ms As h post := fun d hd => ct d (Nat.le_trans hk hd)
theorem CtH.post {E : xE} {k : Nat} {M : xM} {hh : List (Nat × Nat × Nat × Nat)} {mc ms : Nat} {As : List Value} {h : xH} {post post' : Option Value → xH → Prop} (hp : ∀ v h', post v h' → post' v h') (ct : CtH E k M hh mc ms As h post) : CtH E k M hh mc ms As h post' := by
  intro d hd p e ha hc hk s m args below hf hq1 hq2 hq3
  obtain ⟨t, o, h1, h2, h3, ⟨⟨⟨v, h', e1, e2, e3⟩, hF⟩, hL⟩⟩ := ct d hd p e ha hc hk s m args below hf hq1 hq2 hq3
  exact ⟨t, o, h1, h2, h3, ⟨⟨⟨v, h', e1, hp v h' e2, e3⟩, hF⟩, hL⟩⟩
theorem Ct.own {E : xE} {k : Nat} {M : xM} {As : List Value} {z m : Nat} {T : Nat → Nat × Int} {F : Nat → Nat → Int} {I : Nat → Int → Int} {P : Nat → Nat → Option Nat} {Y : Nat → Int → Option Nat} {post : Option Value → xH → Prop} (ct : Ct E k M 0 0 As (z, T, F, upA I (m + 1) (I (m + 1)), P, Y) post) : Ct E k M 0 0 As (z, T, F, I, P, Y) post := by rw [upA_id] at ct; exact ct
section LIS
variable {T T1 : Nat → Nat × Int} {F F1 F2 F' : Nat → Nat → Int} {I I1 I2 I' Ib : Nat → Int → Int} {P P1 : Nat → Nat → Option Nat} {Y Y1 : Nat → Int → Option Nat} {o m z z1 s a : Nat} {u u' w w2 : wWo} {ws ws1 ws' : Nat → Option wWo} {r : Option Value} {f1 f2 f7 f8 t : Int}
theorem LSt.of {v : Option Value} {h' : xH} (h : xAl o m z T F I P Y r ws1 f1 f2 f7 f8 v h') : ∃ (z1 : Nat) (T1 : Nat → Nat × Int) (F1 : Nat → Nat → Int) (I1 : Nat → Int → Int) (P1 : Nat → Nat → Option Nat) (Y1 : Nat → Int → Option Nat), v = r ∧ h' = (z1, T1, F1, I1, P1, Y1) ∧ LSt o m z T F I P Y z1 T1 F1 I1 P1 Y1 ws1 f1 f2 f7 f8 := by
  obtain ⟨e1, z', T', F', I', P', Y', e2, e3⟩ := h
  exact ⟨z', T', F', I', P', Y', e1, e2, e3⟩
theorem LI.rf (h : LI o m z T F I P Y ws) : LSt o m z T F I P Y z T F I P Y ws (F o 1) (F o 2) (F o 7) (F o 8) := ⟨Nat.le_refl _, h.1, ⟨h.2.2.1, rfl⟩, ⟨rfl, rfl, rfl, rfl⟩, rfl, LF.rf⟩
/-- a larger heap -/
theorem LK.big (h : LK T F I P Y o m z ws) {z' : Nat} (hz : z ≤ z') : LK T F I P Y o m z' ws := by
  obtain ⟨hs, ⟨d1, d2, d3, d4⟩, v1, v2, hg, z1, z2, z3⟩ := h
  exact ⟨hs, ⟨fun s x h9 hx => by have := d1 s x h9 hx; omega, d2, fun s x l h9 hx hl => by obtain ⟨a1, a2, a3, a4⟩ := d3 s x l h9 hx hl; exact ⟨a1, a2, by omega, a4⟩, d4⟩, v1, v2, hg, by omega, by omega, z3⟩
theorem LSt.big (h : LSt o m z T F I P Y z1 T1 F1 I1 P1 Y1 ws1 f1 f2 f7 f8) {z2 : Nat} (hz : z1 ≤ z2) : LSt o m z T F I P Y z2 T1 F1 I1 P1 Y1 ws1 f1 f2 f7 f8 := ⟨Nat.le_trans h.1 hz, h.2.1.big hz, h.2.2⟩
/-- the ledger's own numbers -/
theorem LI.num (h : LI o m z T F I P Y ws) {k : Nat} {v : Int} (hk : k = 1) : LSt o m z T F I P Y z T (upF F o k v) I P Y ws v (F o 2) (F o 7) (F o 8) := by
  subst hk
  obtain ⟨c1, c2⟩ := h.1.fr (F' := upF F o 1 v) (I' := I) (fun b hb => upF_na _ _ _ _ (by omega)) (fun _ _ => rfl) h.1.2.2.2.2.1
  exact ⟨Nat.le_refl _, c1, ⟨h.2.2.1, rfl⟩, ⟨upF_at _ _ _ _, upF_nk _ _ _ _ (by decide), upF_nk _ _ _ _ (by decide), upF_nk _ _ _ _ (by decide)⟩, rfl, c2⟩
/-- the choices' rows -/
theorem LI.cho (h : LI o m z T F I P Y ws) (hc : cFr (o + 129) I I') : LSt o m z T F I' P Y z T F I' P Y ws (F o 1) (F o 2) (F o 7) (F o 8) ∧ LSt o m z T F I P Y z T F I' P Y ws (F o 1) (F o 2) (F o 7) (F o 8) := by
  obtain ⟨c1, c2⟩ := h.1.fr (F' := F) (I' := I') (fun _ _ => rfl) (fun b hb => hc b (by omega)) (h.1.2.2.2.2.1.fr (hc _ (by omega)) (hc _ (by omega)))
  exact ⟨⟨Nat.le_refl _, c1, ⟨h.2.2.1, rfl⟩, ⟨rfl, rfl, rfl, rfl⟩, rfl, LF.rf⟩, ⟨Nat.le_refl _, c1, ⟨h.2.2.1, rfl⟩, ⟨rfl, rfl, rfl, rfl⟩, hc (o + 1) (by omega), c2⟩⟩
/-- the live store acts, nothing is remembered -/
theorem LI.liv (h : LI o m z T F I P Y ws) (h3 : P o 3 = some a) (hS : SR T F1 I1 P1 Y1 a u) (hI : wI2 u) (hF : SF a F I P Y F1 I1 P1 Y1) : LSt o m z T F I P Y z T F1 I1 P1 Y1 (wsU ws 0 (some u)) (F o 1) (F o 2) (F o 7) (F o 8) := by
  obtain ⟨c1, c2, c3, c4, c5, c6⟩ := h.1.act (s0 := 0) (by decide) h3 hS hI hF
  exact ⟨Nat.le_refl _, c1, ⟨by rw [c2]; exact h.2.2.1, by rw [c2]⟩, ⟨by rw [c3], by rw [c3], by rw [c3], by rw [c3]⟩, c4, c6⟩
theorem wM.lf (h : wM T P m) (hl : LF m T F I P Y T1 F1 I1 P1 Y1) : wM T1 P1 m := by
  have t : ∀ b : Nat, m ≤ b → b < m + 13 → T1 b = T b ∧ P1 b = P b := fun b b0 b1 => ⟨(hl b b0 b1).1, (hl b b0 b1).2.2.2.1⟩
  unfold wM at h ⊢
  rw [(t m (by omega) (by omega)).2, (t m (by omega) (by omega)).1, (t (m + 1) (by omega) (by omega)).1, (t (m + 2) (by omega) (by omega)).1, (t (m + 3) (by omega) (by omega)).1, (t (m + 4) (by omega) (by omega)).1, (t (m + 5) (by omega) (by omega)).1, (t (m + 6) (by omega) (by omega)).1, (t (m + 7) (by omega) (by omega)).1, (t (m + 8) (by omega) (by omega)).1, (t (m + 9) (by omega) (by omega)).1, (t (m + 10) (by omega) (by omega)).1, (t (m + 11) (by omega) (by omega)).1]
  exact h
/-- what is known of a start -/
theorem LI.get (h : LI o m z T F I P Y ws) : ∃ a : Nat, P o 3 = some a ∧ SR T F I P Y a (I (m + 1)) ∧ wI2 (I (m + 1)) ∧ (T o).1 = 12 ∧ wM T P m := by
  obtain ⟨a, e1, e2, e3⟩ := h.1.2.2.2.1 0 _ (by decide) h.2.1.1
  exact ⟨a, e1, e2, e3, h.1.1.1, h.2.2.2.1.1⟩
/-- both kinds of cells behind a step -/
theorem LI.kin (h : LI o m z T F I P Y ws) (hL : LSt o m z T F I P Y z1 T1 F1 I1 P1 Y1 ws1 f1 f2 f7 f8) : (T1 o).1 = 12 ∧ wM T1 P1 m ∧ (T1 (m + 12)).1 = 16 ∧ (T1 (m + 12)).2 = 1 ∧ F1 m = F m ∧ I1 (m + 1) = I (m + 1) ∧ I1 (m + 2) = I (m + 2) ∧ I1 (m + 5) = I (m + 5) ∧ I1 (m + 6) = I (m + 6) := by
  obtain ⟨l1, l2, -, -, -, l10⟩ := hL
  exact ⟨l2.1.1, h.2.2.2.1.1.lf l10, by rw [(l10 (m + 12) (by omega) (by omega)).1]; exact h.2.2.2.1.2.1, by rw [(l10 (m + 12) (by omega) (by omega)).1]; exact h.2.2.2.1.2.2, (l10 m (by omega) (by omega)).2.1, (l10 (m + 1) (by omega) (by omega)).2.2.1, (l10 (m + 2) (by omega) (by omega)).2.2.1, (l10 (m + 5) (by omega) (by omega)).2.2.1, (l10 (m + 6) (by omega) (by omega)).2.2.1⟩
theorem LSt.no1 (h : LSt o m z T F I P Y z1 T1 F1 I1 P1 Y1 ws1 f1 f2 f7 f8) : LSt o m z T F I P Y z1 T1 F1 I1 P1 Y1 (wsU ws1 1 none) f1 f2 f7 f8 := by
  refine ⟨h.1, h.2.1.less (fun s u q => ?_), h.2.2⟩
  by_cases e : s = 1
  · subst e; rw [wsU_at] at q; cases q
  · rwa [wsU_na e] at q
/-- an ask, or an act that is not remembered: the law and the undos are as they were -/
theorem LI.ask (h : LI o m z T F I P Y ws) (hL : LSt o m z T F I P Y z1 T1 F1 I1 P1 Y1 ws1 f1 f2 (F o 7) (F o 8)) (hw : ∀ s : Nat, s ≠ 0 → s ≠ 1 → ws1 s = ws s) (h0 : ws1 0 = some w2) (hten : w2 10 ≤ 9999) (hl : ∀ j : Int, 1903 ≤ j → j < 2752 → w2 j = I (m + 1) j)
    (hb : ∀ b : Nat, b ≠ m + 12 → Ib b = I1 b) (hx : xScr m Ib I') (hF2 : (∀ b : Nat, b ≠ m → F2 b = F1 b) ∧ F2 m 6 = F m 6 ∧ F2 m 7 = F m 7 ∧ F2 m 9 = f1 ∧ F2 m 14 = f2) (hf : 0 ≤ f1 ∧ f1 ≤ F o 1) (hf2 : f2 = f2) (hW : wI2 w2) : ∃ ws2, LI o m z1 T1 F2 (upA I' (m + 1) w2) P1 Y1 ws2 := by
  have hL1 := hL.no1
  obtain ⟨k1, k2, k3, k4, k5, k6, k7, k8, k9⟩ := h.kin hL
  have hi : ∀ b : Nat, b < m + 7 → b ≠ m + 1 → upA I' (m + 1) w2 b = I1 b := fun b b0 b1 => by rw [upA_na _ _ _ b1, hx b (by omega), hb b (by omega)]
  have e2 := hi (m + 2) (by omega) (by omega)
  have e5 := hi (m + 5) (by omega) (by omega)
  have e6 := hi (m + 6) (by omega) (by omega)
  have ten : ∀ (s : Nat) (u : wWo), s < 15 → wsU ws1 1 none s = some u → u 10 ≤ 9999 := fun s u hs hu => by
    by_cases e : s = 1
    · subst e; rw [wsU_at] at hu; cases hu
    · rw [wsU_na e] at hu
      by_cases e0 : s = 0
      · subst e0; rw [h0] at hu; cases hu; exact hten
      · rw [hw s e0 e] at hu; exact h.2.1.2 s u hs hu
  refine ⟨_, h.to hL1 ⟨hF2.1, fun b hb2 => ?_⟩ (u := w2) (by rw [wsU_na (by decide)]; exact h0) (by rw [upA_at]; exact wEq.rf) (by rw [upA_at]; exact hW.1.1.1.1) ten h.2.2.2.2.1.1 h.2.2.2.2.1.2.1 ⟨by rw [hF2.2.2.1, h.2.2.2.2.1.2.2.1], hF2.2.2.2.1, hF2.2.2.2.2⟩ hf hf2 (e6.trans k9) ⟨hF2.2.1, e2.trans k7, by rw [wsU_na (by decide)]; exact hw 2 (by decide) (by decide)⟩ ?_⟩
  · rw [upA_na _ _ _ (by omega), hx b (by omega)]
    by_cases e : b = m + 12
    · omega
    · exact hb b e
  · rw [upA_at]
    exact h.2.2.2.2.2.2.2.1.same (e5.trans k8) (fun s s3 s15 => by rw [wsU_na (by omega), wsU_na (by omega)]; exact hw s (by omega) (by omega)) hl h.2.2.2.2.1.1
/-- an act that is remembered -/
theorem LI.rem (h : LI o m z T F I P Y ws) (hL : LSt o m z T F I P Y z1 T1 F1 I1 P1 Y1 (wsA ws (F o 7) (F o 8) (I (m + 1)) w2) (F o 1) (F o 2) (rmF (F o 7) (F o 8)) (rmC (F o 8) + 1)) (hten : w2 10 ≤ 9999) (hl : wHi (I (m + 1)) w2)
    (hb : ∀ b : Nat, b ≠ m + 12 → Ib b = I1 b) (hx : xScr m (upA Ib (m + 5) (sActs (Ib (m + 5)) (Ib (m + 1)) (F1 m 7))) I') (hW : wI2 w2) : ∃ ws2, LI o m z1 T1 (fRem (upF F1 m 0 0) m) (upA I' (m + 1) w2) P1 Y1 ws2 := by
  have hL1 := hL.no1
  obtain ⟨k1, k2, k3, k4, k5, k6, k7, k8, k9⟩ := h.kin hL
  obtain ⟨q1, q2, q3, q4, q5⟩ := h.2.2.2.2.1
  have hi : ∀ b : Nat, b < m + 7 → b ≠ m + 1 → b ≠ m + 5 → upA I' (m + 1) w2 b = I1 b := fun b b0 b1 b5 => by rw [upA_na _ _ _ b1, hx b (by omega), upA_na _ _ _ b5, hb b (by omega)]
  have e2 := hi (m + 2) (by omega) (by omega) (by omega)
  have e6 := hi (m + 6) (by omega) (by omega) (by omega)
  have e5 : upA I' (m + 1) w2 (m + 5) = sActs (I (m + 5)) (I (m + 1)) (F o 8) := by
    rw [upA_na _ _ _ (by omega), hx (m + 5) (by omega), upA_at, hb (m + 5) (by omega), hb (m + 1) (by omega), k8, k6, k5, q3]
  have sl : 0 ≤ rmS (F o 7) (F o 8) ∧ rmS (F o 7) (F o 8) < 12 := by unfold rmS; omega
  have wl : ∀ s : Nat, s ≠ 0 → s ≠ 1 → s ≠ (rmS (F o 7) (F o 8)).toNat + 3 → wsU (wsA ws (F o 7) (F o 8) (I (m + 1)) w2) 1 none s = ws s := fun s a b c => by rw [wsU_na b]; unfold wsA; rw [wsU_na a, wsU_na c]
  have ws_ : wsU (wsA ws (F o 7) (F o 8) (I (m + 1)) w2) 1 none ((rmS (F o 7) (F o 8)).toNat + 3) = some (I (m + 1)) := by rw [wsU_na (by omega)]; unfold wsA; rw [wsU_na (by omega), wsU_at]
  have w0 : wsU (wsA ws (F o 7) (F o 8) (I (m + 1)) w2) 1 none 0 = some w2 := by rw [wsU_na (by decide)]; unfold wsA; rw [wsU_at]
  have ten : ∀ (s : Nat) (u : wWo), s < 15 → wsU (wsA ws (F o 7) (F o 8) (I (m + 1)) w2) 1 none s = some u → u 10 ≤ 9999 := fun s u hs hu => by
    by_cases e : s = 1
    · subst e; rw [wsU_at] at hu; cases hu
    · by_cases e0 : s = 0
      · subst e0; rw [w0] at hu; cases hu; exact hten
      · by_cases e3 : s = (rmS (F o 7) (F o 8)).toNat + 3
        · subst e3; rw [ws_] at hu; cases hu; exact h.2.1.2 0 _ (by decide) h.2.1.1
        · rw [wl s e0 e e3] at hu; exact h.2.1.2 s u hs hu
  have fr : ∀ k : Nat, k ≠ 0 → k ≠ 7 → fRem (upF F1 m 0 0) m m k = F m k := fun k a b => by
    unfold fRem
    split
    · rw [upF_nk _ _ _ _ a, k5]
    · rw [upF_nk _ _ _ _ b, upF_nk _ _ _ _ a, k5]
  have f7 : fRem (upF F1 m 0 0) m m 7 = rmC (F o 8) + 1 := by
    unfold fRem rmC
    rw [upF_nk _ _ _ _ (by decide), k5, q3]
    split
    · rename_i c; rw [upF_nk _ _ _ _ (by decide), k5, q3]; omega
    · rw [upF_at]
  refine ⟨_, h.to hL1 ⟨fun b hb2 => ?_, fun b hb2 => ?_⟩ (u := w2) w0 (by rw [upA_at]; exact wEq.rf) (by rw [upA_at]; exact hW.1.1.1.1) ten (by unfold rmF; split <;> omega) (by unfold rmC; split <;> omega) ⟨f7, (fr 9 (by decide) (by decide)).trans q4, (fr 14 (by decide) (by decide)).trans q5⟩ ⟨h.2.2.2.2.2.1.1.1, Int.le_refl _⟩ h.2.2.2.2.2.2.2.2 (e6.trans k9) ⟨fr 6 (by decide) (by decide), e2.trans k7, wl 2 (by decide) (by decide) (by omega)⟩ ?_⟩
  · unfold fRem; split
    · rw [upF_na _ _ _ _ hb2]
    · rw [upF_na _ _ _ _ hb2, upF_na _ _ _ _ hb2]
  · rw [upA_na _ _ _ (by omega), hx b (by omega), upA_na _ _ _ (by omega)]
    by_cases e : b = m + 12
    · omega
    · exact hb b e
  · rw [upA_at, e5]
    exact h.2.2.2.2.2.2.2.1.rem q1 q2 (fun j a b => hl.2 j (by omega)) (fun s a b c => by rw [wsU_na (by omega)]; exact wl s (by omega) (by omega) c) (by rw [wsU_na (by omega)]; exact ws_)
end LIS

/-! what a launch gives; the two sides of a call -/
def xEnv (E : xE) (ad adv : Nat → Nat) (sio : Option Nat) (qS v0 : Nat) (tx : String) : Prop :=
  (∀ u : State, E.2.2.2.2 u → xOld u) ∧ (xThr E "java/lang/IllegalArgumentException" ∧ xThr E "java/lang/UnsupportedOperationException" ∧ xThr E "java/lang/IndexOutOfBoundsException" ∧ xThr E "java/util/NoSuchElementException" ∧ xThr E "java/lang/IllegalStateException") ∧
  (∀ u : State, E.2.2.2.2 u → va_Nc "java/lang/UnsupportedOperationException" "java/lang/IllegalArgumentException" u ∧ va_Nc "java/util/NoSuchElementException" "java/lang/IndexOutOfBoundsException" u ∧ va_Nc "java/lang/IllegalArgumentException" "java/lang/IndexOutOfBoundsException" u ∧ va_Nc "java/lang/IllegalArgumentException" "java/util/NoSuchElementException" u) ∧
  (∀ u : State, E.2.2.2.2 u → oWs E.2.2.2.1 ad adv sio u) ∧ (∀ u : State, E.2.2.2.2 u → oStr E.2.2.2.1 qS v0 zTx u) ∧ (∀ u : State, E.2.2.2.2 u → oSts E.2.2.2.1 sio u) ∧ ∀ u : State, E.2.2.2.2 u → vk_R RX7 52 tx qS u
theorem xThr.c {E : xE} {X : String} (h : xThr E X) : ∀ u : State, E.2.2.2.2 u → va_Nw (.castable X X) u := fun u hu => (h.2 u hu).1.1
/-- behind the model's call -/
def xM1 (o m : Nat) (k : Int) (z1 : Nat) (T1 : Nat → Nat × Int) (P1 : Nat → Nat → Option Nat) (Y1 : Nat → Int → Option Nat) : Option Value → xH → Prop := fun v2 h2 => ∃ (b : Int) (F2 : Nat → Nat → Int) (I2 : Nat → Int → Int) (ws2 : Nat → Option wWo), v2 = some (J b) ∧ (-2147483648 ≤ b ∧ b < 2147483648) ∧ h2 = (z1, T1, F2, I2, P1, Y1) ∧ LI o m z1 T1 F2 I2 P1 Y1 ws2 ∧ F2 m 0 = k ∧ (k = 0 → I2 (m + 12) 0 = b)
/-- behind the law's own call -/
def xH1 (E : xE) (o m : Nat) (M2 : xM) (Am : List Value) (k : Int) : Option Value → xH → Prop := fun v h1 => v = some (J k) ∧ ∃ (z1 : Nat) (T1 : Nat → Nat × Int) (F1 : Nat → Nat → Int) (I1 : Nat → Int → Int) (P1 : Nat → Nat → Option Nat) (Y1 : Nat → Int → Option Nat), h1 = (z1, T1, F1, I1, P1, Y1) ∧ ((T1 o).1 = 12 ∧ wM T1 P1 m ∧ (T1 (m + 12)).1 = 16 ∧ (T1 (m + 12)).2 = 1) ∧ Ct E 60 M2 0 0 (.ref m :: Am) (z1, T1, F1, I1, P1, Y1) (xM1 o m k z1 T1 P1 Y1)
/-- a call that never throws: the class answers r, the model too -/
def xPP (E : xE) (o m : Nat) (M2 : xM) (Am : List Value) : Option Value → xH → Prop := fun v h1 => ∃ (r : Int) (z1 : Nat) (T1 : Nat → Nat × Int) (F1 : Nat → Nat → Int) (I1 : Nat → Int → Int) (P1 : Nat → Nat → Option Nat) (Y1 : Nat → Int → Option Nat), v = some (J r) ∧ (-2147483648 ≤ r ∧ r < 2147483648) ∧ h1 = (z1, T1, F1, I1, P1, Y1) ∧ ((T1 o).1 = 12 ∧ wM T1 P1 m) ∧
  Ct E 60 M2 0 0 (.ref m :: Am) (z1, T1, F1, I1, P1, Y1) (fun v2 h2 => ∃ (F2 : Nat → Nat → Int) (I2 : Nat → Int → Int) (ws2 : Nat → Option wWo), v2 = some (J r) ∧ h2 = (z1, T1, F2, I2, P1, Y1) ∧ LI o m z1 T1 F2 I2 P1 Y1 ws2)
section LIK
variable {T T1 : Nat → Nat × Int} {F F1 F2 F' : Nat → Nat → Int} {I I1 I2 I' Ib : Nat → Int → Int} {P P1 : Nat → Nat → Option Nat} {Y Y1 : Nat → Int → Option Nat} {o m z z1 s a : Nat} {u u' w w2 : wWo} {ws ws1 ws' : Nat → Option wWo} {r : Option Value} {f1 f2 f7 f8 t b : Int}
theorem LI.ten (h : LI o m z T F I P Y ws) : I (m + 1) 10 ≤ 9999 := h.2.1.2 0 _ (by decide) h.2.1.1
theorem LI.ask0 (h : LI o m z T F I P Y ws) (hL : LSt o m z T F I P Y z1 T1 F1 I1 P1 Y1 ws1 (F o 1) (F o 2) (F o 7) (F o 8)) (hw : ∀ s : Nat, s ≠ 0 → s ≠ 1 → ws1 s = ws s) (h0 : ws1 0 = some (I (m + 1)))
    (hb : ∀ b : Nat, b ≠ m + 12 → Ib b = I1 b) (hx : xScr m Ib I') : ∃ ws2, LI o m z1 T1 (upF F1 m 0 t) (upA I' (m + 1) (I (m + 1))) P1 Y1 ws2 := by
  obtain ⟨a, -, -, hW, -⟩ := h.get
  obtain ⟨k1, k2, k3, k4, k5, -⟩ := h.kin hL
  obtain ⟨q1, q2, q3, q4, q5⟩ := h.2.2.2.2.1
  exact h.ask hL hw h0 h.ten (fun _ _ _ => rfl) hb hx ⟨fun b hb => upF_na _ _ _ _ hb, by rw [upF_nk _ _ _ _ (by decide), k5], by rw [upF_nk _ _ _ _ (by decide), k5], by rw [upF_nk _ _ _ _ (by decide), k5, q4], by rw [upF_nk _ _ _ _ (by decide), k5, q5]⟩ ⟨h.2.2.2.2.2.1.1.1, Int.le_refl _⟩ h.2.2.2.2.2.2.2.2 hW
theorem LI.sp (h : LI o m z T F I P Y ws) {v : Option Value} {h' : xH} (e : xSp o m z T F I P Y ws r v h') : ∃ (ws1 : Nat → Option wWo) (z1 : Nat) (T1 : Nat → Nat × Int) (F1 : Nat → Nat → Int) (I1 : Nat → Int → Int) (P1 : Nat → Nat → Option Nat) (Y1 : Nat → Int → Option Nat), (∀ s : Nat, s ≠ 1 → ws1 s = ws s) ∧ v = r ∧ h' = (z1, T1, F1, I1, P1, Y1) ∧ LSt o m z T F I P Y z1 T1 F1 I1 P1 Y1 ws1 (F o 1) (F o 2) (F o 7) (F o 8) := by
  obtain ⟨ws1, e1, e2⟩ := e
  obtain ⟨z1, T1, F1, I1, P1, Y1, e3, e4, e5⟩ := LSt.of e2
  exact ⟨ws1, z1, T1, F1, I1, P1, Y1, e1, e3, e4, e5⟩
/-- the tape was used -/
theorem LI.used (h : LI o m z T F I P Y ws) (hb : ∀ b : Nat, b ≠ m + 12 → Ib b = I b) (hF2 : (∀ b : Nat, b ≠ m → F2 b = upF F o 1 0 b) ∧ F2 m 6 = F m 6 ∧ F2 m 7 = F m 7 ∧ F2 m 9 = 0 ∧ F2 m 14 = F m 14) : ∃ ws2, LI o m z T F2 (upA Ib (m + 1) (I (m + 1))) P Y ws2 := by
  obtain ⟨a, -, -, hW, -⟩ := h.get
  obtain ⟨q1, q2, q3, q4, q5⟩ := h.2.2.2.2.1
  exact h.ask (h.num (v := 0) rfl) (fun _ _ _ => rfl) h.2.1.1 h.ten (fun _ _ _ => rfl) hb xScr.rf ⟨hF2.1, hF2.2.1, hF2.2.2.1, hF2.2.2.2.1, by rw [hF2.2.2.2.2, q5]⟩ ⟨Int.le_refl _, h.2.2.2.2.2.1.1.1⟩ h.2.2.2.2.2.2.2.2 hW
theorem fUse_k {F : Nat → Nat → Int} {m k : Nat} (h : k ≠ 0 ∧ k ≠ 9 ∧ k ≠ 10 ∧ k ≠ 11) : fUse F m m k = F m k := by unfold fUse; rw [upF_nk _ _ _ _ h.2.2.1, upF_nk _ _ _ _ h.2.1, upF_nk _ _ _ _ h.2.2.2, upF_nk _ _ _ _ h.1]
theorem fUse_9 {F : Nat → Nat → Int} {m : Nat} : fUse F m m 9 = 0 := by unfold fUse; rw [upF_nk _ _ _ _ (by decide), upF_at]
theorem fUse_0 {F : Nat → Nat → Int} {m : Nat} : fUse F m m 0 = 0 := by unfold fUse; rw [upF_nk _ _ _ _ (by decide), upF_nk _ _ _ _ (by decide), upF_nk _ _ _ _ (by decide), upF_at]
theorem fUse_na {F : Nat → Nat → Int} {m b : Nat} (h : b ≠ m) : fUse F m b = F b := by unfold fUse; rw [upF_na _ _ _ _ h, upF_na _ _ _ _ h, upF_na _ _ _ _ h, upF_na _ _ _ _ h]
theorem sAllE_p (h : wRn w) (hN : 0 ≤ w 0 ∧ w 0 ≤ 12) {r : Nat} (hr : (r : Int) < w 0) : 0 < sAllE w := by
  have h1 := (h.1 r hr).2.2
  have h2 : ∀ k : Nat, k ≤ wN w → ∀ i : Nat, i < k → 0 < sEnt w (201 + 122 * (i : Int)) → 0 < pSum (fun r => if (2 ^ wN w - 1).testBit r.toNat = true then sEnt w (201 + 122 * r) else 0) k := by
    intro k
    induction k with
    | zero => intro _ i hi; exact absurd hi (Nat.not_lt_zero _)
    | succ k ih =>
      intro hk i hi hp
      show 0 < pSum (fun r => if (2 ^ wN w - 1).testBit r.toNat = true then sEnt w (201 + 122 * r) else 0) k + (if (2 ^ wN w - 1).testBit ((k : Int)).toNat = true then sEnt w (201 + 122 * (k : Int)) else 0)
      have hb : 0 ≤ sEnt w (201 + 122 * (k : Int)) := (sEnt_bd w _).1
      have hnn : 0 ≤ pSum (fun r => if (2 ^ wN w - 1).testBit r.toNat = true then sEnt w (201 + 122 * r) else 0) k := by
        refine (pSum_bd (b := 60) (fun j _ => ?_)).1
        split
        · exact sEnt_bd w _
        · omega
      have ht : (2 ^ wN w - 1).testBit ((k : Int)).toNat = true := by rw [show ((k : Int)).toNat = k by omega, Nat.testBit_two_pow_sub_one]; exact decide_eq_true (by omega)
      rw [if_pos ht]
      by_cases e : i = k
      · subst e; omega
      · have := ih (by omega) i (by omega) hp; omega
  exact h2 (wN w) (Nat.le_refl _) r (by unfold wN; omega) h1
end LIK

