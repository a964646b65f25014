/-! remember, in one -/
def rmF (f c : Int) : Int := if c = 12 then (f + 1) % 12 else f
def rmC (c : Int) : Int := if c = 12 then 11 else c
/-- the place that takes the next act -/
def rmS (f c : Int) : Int := (rmF f c + rmC c) % 12
def xRm (o m z : Nat) (T : Nat → Nat × Int) (F : Nat → Nat → Int) (I : Nat → Int → Int) (P : Nat → Nat → Option Nat) (Y : Nat → Int → Option Nat) (ws : Nat → Option wWo) (u : wWo) : Option Value → xH → Prop :=
  fun v h' => v = none ∧ ∃ (z' : Nat) (T' : Nat → Nat × Int) (F' : Nat → Nat → Int) (I' : Nat → Int → Int) (P' : Nat → Nat → Option Nat) (Y' : Nat → Int → Option Nat), h' = (z', T', F', I', P', Y') ∧ z ≤ z' ∧ LK T' F' I' P' Y' o m z' (wsU ws ((rmS (F o 7) (F o 8)).toNat + 3) (some u)) ∧ P' o = P o ∧ (∀ j : Int, j ≠ rmS (F o 7) (F o 8) → Y' (o + 116) j = Y (o + 116) j) ∧ (∃ x : Nat, Y' (o + 116) (rmS (F o 7) (F o 8)) = some x) ∧ F' o = upF (upF F o 7 (rmF (F o 7) (F o 8))) o 8 (rmC (F o 8) + 1) o ∧ I' (o + 1) = I (o + 1) ∧ LF m T F I P Y T' F' I' P' Y'
theorem ct_X11_remember {E : xE} {z : Nat} {T : Nat → Nat × Int} {F : Nat → Nat → Int} {I : Nat → Int → Int} {P : Nat → Nat → Option Nat} {Y : Nat → Int → Option Nat} {o m : Nat} {ws : Nat → Option wWo} (hL : LK T F I P Y o m z ws) (hE : ∀ u : State, E.2.2.2.2 u → xOld u) {a : Nat} {u : wWo} (h3 : P o 3 = some a) (hu : ws 0 = some u) (hf : 0 ≤ F o 7 ∧ F o 7 < 12) (hc : 0 ≤ F o 8 ∧ F o 8 ≤ 12) : Ct E 3 mX11_remember 57 2100 [.ref o] (z, T, F, I, P, Y) (xRm o m z T F I P Y ws u) := by
  unfold xRm rmS rmF rmC
  by_cases c : F o 8 = 12
  · rw [if_pos c, if_pos c]
    cases hY : Y (o + 116) (((F o 7 + 1) % 12 + 11) % 12) with
    | none => exact ct_X11_remember_fn hL hE h3 hu hf c hY
    | some k => exact ct_X11_remember_fo hL hE h3 hu hf c hY
  · rw [if_neg c, if_neg c]
    cases hY : Y (o + 116) ((F o 7 + F o 8) % 12) with
    | none => exact ct_X11_remember_n hL hE h3 hu hf (by omega) hY
    | some k => exact ct_X11_remember_o hL hE h3 hu hf (by omega) hY
