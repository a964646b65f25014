/-! places change their stores -/
section LCP
variable {T : Nat → Nat × Int} {F : Nat → Nat → Int} {I : Nat → Int → Int} {P P2 : Nat → Nat → Option Nat} {Y Y2 : Nat → Int → Option Nat} {o m z a x : Nat} {u u' : wWo} {ws : Nat → Option wWo} {s0 : Nat} {σ : Nat → Nat}
theorem LK.perm (h : LK T F I P Y o m z ws) (hσ : ∀ s : Nat, s < 15 → σ s < 15) (hi : ∀ s s' : Nat, s < 15 → s' < 15 → σ s = σ s' → s = s') (hsl : ∀ s : Nat, s < 15 → lSl o P2 Y2 s = lSl o P Y (σ s)) (hP : ∀ b : Nat, b ≠ o → P2 b = P b) (hPo : ∀ k : Nat, k ≠ 3 → k ≠ 4 → k ≠ 5 → P2 o k = P o k) (hY : ∀ b : Nat, b ≠ o + 116 → Y2 b = Y b) : LK T F I P2 Y2 o m z (fun s => ws (σ s)) ∧ LF m T F I P Y T F I P2 Y2 := by
  obtain ⟨hs, hd, v1, v2, hg, z1, z2, z3⟩ := h
  obtain ⟨d1, d2, d3, d4⟩ := id hd
  have P16 : ∀ s x : Nat, s < 15 → lSl o P Y (σ s) = some x → P2 x 16 = P x 16 := fun s x hs9 hx => by
    have := d1 (σ s) x (hσ s hs9) hx
    rw [hP x (by omega)]
  refine ⟨⟨?_, ⟨fun s x hs9 hx => ?_, fun s s' x x' q1 q2 q3 hx hx' => ?_, fun s x l hs9 hx hl => ?_, fun s s' x x' l l' q1 q2 hx hx' hl hl' => ?_⟩, fun s x hs9 hx => ?_, fun s u hs9 hu => ?_, hg, z1, z2, z3⟩, fun b b0 b1 => ⟨rfl, rfl, rfl, hP b (by omega), hY b (by omega)⟩⟩
  · obtain ⟨y1, ⟨y2, y22⟩, ⟨y3, y32⟩, ⟨y4, y42⟩, ⟨y5, y52⟩, ⟨y6, y62⟩, y7, y8⟩ := hs
    refine ⟨y1, ⟨(hPo 0 (by decide) (by decide) (by decide)).trans y2, y22⟩, ⟨(hPo 6 (by decide) (by decide) (by decide)).trans y3, y32⟩, ⟨(hPo 9 (by decide) (by decide) (by decide)).trans y4, ?_⟩, ⟨(hPo 10 (by decide) (by decide) (by decide)).trans y5, ?_⟩, ⟨(hPo 11 (by decide) (by decide) (by decide)).trans y6, ?_⟩, (hPo 12 (by decide) (by decide) (by decide)).trans y7, ?_⟩
    · unfold wScn at y42 ⊢; rw [hP (o + 117) (by omega)]; exact y42
    · unfold wSrd at y52 ⊢; rw [hP (o + 121) (by omega)]; exact y52
    · unfold wLrd at y62 ⊢; rw [hP (o + 124) (by omega)]; exact y62
    · exact y8.fr (fun b b0 b1 => ⟨hP b (by omega), hY b (by omega)⟩)
  · exact d1 (σ s) x (hσ s hs9) ((hsl s hs9) ▸ hx)
  · exact d2 (σ s) (σ s') x x' (hσ s q1) (hσ s' q2) (fun e => q3 (hi s s' q1 q2 e)) ((hsl s q1) ▸ hx) ((hsl s' q2) ▸ hx')
  · rw [hsl s hs9] at hx
    rw [P16 s x hs9 hx] at hl
    obtain ⟨e1, e2, e3, e4⟩ := d3 (σ s) x l (hσ s hs9) hx hl
    refine ⟨e1, e2, e3, fun s' x' hs' hx' => e4 (σ s') x' (hσ s' hs') ((hsl s' hs') ▸ hx')⟩
  · rw [hsl s q1] at hx
    rw [hsl s' q2] at hx'
    rw [P16 s x q1 hx] at hl
    rw [P16 s' x' q2 hx'] at hl'
    exact d4 (σ s) (σ s') x x' l l' (hσ s q1) (hσ s' q2) hx hx' hl hl'
  · rw [hsl s hs9] at hx
    have e1 := d1 (σ s) x (hσ s hs9) hx
    exact (v1 (σ s) x (hσ s hs9) hx).fr (fun b b0 b1 => ⟨rfl, rfl, hP b (by omega), hY b (by omega)⟩)
  · obtain ⟨x, e1, e2, e3⟩ := v2 (σ s) u (hσ s hs9) hu
    have e4 := d1 (σ s) x (hσ s hs9) e1
    refine ⟨x, (hsl s hs9).trans e1, e2.fr ⟨fun b b0 b1 => ⟨rfl, rfl, rfl, hP b (by omega), hY b (by omega)⟩, fun l hl b b0 b1 => ?_⟩, e3⟩
    have e5 := d3 (σ s) x l (hσ s hs9) e1 hl
    exact ⟨rfl, rfl, fun _ => rfl, hP b (by omega)⟩
/-- two places change their stores -/
def uSw (i j s : Nat) : Nat := if s = i then j else if s = j then i else s
theorem uSw_lt {i j : Nat} (hi : i < 15) (hj : j < 15) (s : Nat) (hs : s < 15) : uSw i j s < 15 := by
  unfold uSw
  by_cases a : s = i
  · rw [if_pos a]; exact hj
  · rw [if_neg a]
    by_cases b : s = j
    · rw [if_pos b]; exact hi
    · rw [if_neg b]; exact hs
theorem uSw_inv {i j : Nat} (s : Nat) : uSw i j (uSw i j s) = s := by
  unfold uSw
  by_cases a : s = i
  · rw [if_pos a]
    by_cases c : j = i
    · rw [if_pos c]; omega
    · rw [if_neg c, if_pos rfl]; omega
  · rw [if_neg a]
    by_cases b : s = j
    · rw [if_pos b, if_pos rfl]; omega
    · rw [if_neg b, if_neg a, if_neg b]
theorem uSw_inj {i j s s' : Nat} (h : uSw i j s = uSw i j s') : s = s' := by rw [← uSw_inv (i := i) (j := j) s, h, uSw_inv]
/-- the end of an act of a ledger -/
def xAl (o m z : Nat) (T : Nat → Nat × Int) (F : Nat → Nat → Int) (I : Nat → Int → Int) (P : Nat → Nat → Option Nat) (Y : Nat → Int → Option Nat) (r : Option Value) (ws' : Nat → Option wWo) (f1 f2 f7 f8 : Int) : Option Value → xH → Prop :=
  fun v h' => v = r ∧ ∃ (z' : Nat) (T' : Nat → Nat × Int) (F' : Nat → Nat → Int) (I' : Nat → Int → Int) (P' : Nat → Nat → Option Nat) (Y' : Nat → Int → Option Nat), h' = (z', T', F', I', P', Y') ∧ z ≤ z' ∧ LK T' F' I' P' Y' o m z' ws' ∧ ((∃ x : Nat, P' o 4 = some x) ∧ P' o 5 = P o 5) ∧ (F' o 1 = f1 ∧ F' o 2 = f2 ∧ F' o 7 = f7 ∧ F' o 8 = f8) ∧ I' (o + 1) = I (o + 1) ∧ LF m T F I P Y T' F' I' P' Y'
/-- the place of the newest undo -/
def uSl (f c : Int) : Nat := ((f + c - 1) % 12).toNat + 3
variable {E : xE} {M M' : xM} {X : xX} {pc : Nat} {L : List (Option Value)} {st rest : List Value} {c n d mc ms k' i : Nat}
theorem xg_callVm {b mc' ms' : Nat} {post : Option Value → xH → Prop} (q : Nat) (ci : Nat) (As rest : List Value) (hM : xMv M') (hci : ∃ (Tt : u_T) (N : Nat), vwCl[ci]? = some (M'.1.cls, Tt, N)) (hl : Cond.methodLink M.1.cls i M'.1 ∈ xT) (d0 : decode M.2.1 pc = .ok (.invokevirtual i, 3)) (hq : pc + 3 = q) (hk : (T b).1 = ci + 1) (hci2 : ci ≤ 12)
    (hn : As.length = M'.2.2.2.2) (hst : st = As.reverse ++ .ref b :: rest) (hsum : (rest.map fun v => v.category).sum ≤ 8) (hd : k' + 1 ≤ d) (hc : c + mc' ≤ mc ∧ n + ms' ≤ ms) (ct : Ct E k' M' mc' ms' (.ref b :: As) (z, T, F, I, P, Y) post) (_ : (0 : Nat) = 0)
    (kk : ∀ v h', post v h' → xG E M (xR d mc ms) X q L (v.toList ++ rest) h' (c + mc') (n + ms')) : xG E M (xR d mc ms) X pc L st (z, T, F, I, P, Y) c n :=
  xg_callV0 q hM hci hl d0 hq hk hci2 hn hst hsum hd hc ct (fun v h' e => kk v h' e)
end LCP

theorem dX11_undo_0 : decode cX11_undo 0 = .ok (.aload_n 0, 1) := by decide +kernel
theorem dX11_undo_1 : decode cX11_undo 1 = .ok (.getfield 40, 3) := by decide +kernel
theorem dX11_undo_4 : decode cX11_undo 4 = .ok (.ifCond .gt 5, 3) := by decide +kernel
theorem dX11_undo_7 : decode cX11_undo 7 = .ok (.iconst 0, 1) := by decide +kernel
theorem dX11_undo_8 : decode cX11_undo 8 = .ok (.ireturn, 1) := by decide +kernel
theorem dX11_undo_9 : decode cX11_undo 9 = .ok (.aload_n 0, 1) := by decide +kernel
theorem dX11_undo_10 : decode cX11_undo 10 = .ok (.getfield 37, 3) := by decide +kernel
theorem dX11_undo_13 : decode cX11_undo 13 = .ok (.aload_n 0, 1) := by decide +kernel
theorem dX11_undo_14 : decode cX11_undo 14 = .ok (.getfield 40, 3) := by decide +kernel
theorem dX11_undo_17 : decode cX11_undo 17 = .ok (.iadd, 1) := by decide +kernel
theorem dX11_undo_18 : decode cX11_undo 18 = .ok (.iconst 1, 1) := by decide +kernel
theorem dX11_undo_19 : decode cX11_undo 19 = .ok (.isub, 1) := by decide +kernel
theorem dX11_undo_20 : decode cX11_undo 20 = .ok (.bipush 12, 2) := by decide +kernel
theorem dX11_undo_22 : decode cX11_undo 22 = .ok (.irem, 1) := by decide +kernel
theorem dX11_undo_23 : decode cX11_undo 23 = .ok (.istore_n 1, 1) := by decide +kernel
theorem dX11_undo_24 : decode cX11_undo 24 = .ok (.aload_n 0, 1) := by decide +kernel
theorem dX11_undo_25 : decode cX11_undo 25 = .ok (.getfield 33, 3) := by decide +kernel
theorem dX11_undo_28 : decode cX11_undo 28 = .ok (.iload_n 1, 1) := by decide +kernel
theorem dX11_undo_29 : decode cX11_undo 29 = .ok (.aaload, 1) := by decide +kernel
theorem dX11_undo_30 : decode cX11_undo 30 = .ok (.astore_n 2, 1) := by decide +kernel
theorem dX11_undo_31 : decode cX11_undo 31 = .ok (.aload_n 0, 1) := by decide +kernel
theorem dX11_undo_32 : decode cX11_undo 32 = .ok (.dup, 1) := by decide +kernel
theorem dX11_undo_33 : decode cX11_undo 33 = .ok (.getfield 40, 3) := by decide +kernel
theorem dX11_undo_36 : decode cX11_undo 36 = .ok (.iconst 1, 1) := by decide +kernel
theorem dX11_undo_37 : decode cX11_undo 37 = .ok (.isub, 1) := by decide +kernel
theorem dX11_undo_38 : decode cX11_undo 38 = .ok (.putfield 40, 3) := by decide +kernel
theorem dX11_undo_41 : decode cX11_undo 41 = .ok (.aload_n 2, 1) := by decide +kernel
theorem dX11_undo_42 : decode cX11_undo 42 = .ok (.ifnonnull 5, 3) := by decide +kernel
theorem dX11_undo_45 : decode cX11_undo 45 = .ok (.iconst 0, 1) := by decide +kernel
theorem dX11_undo_46 : decode cX11_undo 46 = .ok (.ireturn, 1) := by decide +kernel
theorem dX11_undo_47 : decode cX11_undo 47 = .ok (.aload_n 0, 1) := by decide +kernel
theorem dX11_undo_48 : decode cX11_undo 48 = .ok (.getfield 33, 3) := by decide +kernel
theorem dX11_undo_51 : decode cX11_undo 51 = .ok (.iload_n 1, 1) := by decide +kernel
theorem dX11_undo_52 : decode cX11_undo 52 = .ok (.aload_n 0, 1) := by decide +kernel
theorem dX11_undo_53 : decode cX11_undo 53 = .ok (.getfield 23, 3) := by decide +kernel
theorem dX11_undo_56 : decode cX11_undo 56 = .ok (.aastore, 1) := by decide +kernel
theorem dX11_undo_57 : decode cX11_undo 57 = .ok (.aload_n 0, 1) := by decide +kernel
theorem dX11_undo_58 : decode cX11_undo 58 = .ok (.aload_n 2, 1) := by decide +kernel
theorem dX11_undo_59 : decode cX11_undo 59 = .ok (.putfield 23, 3) := by decide +kernel
theorem dX11_undo_62 : decode cX11_undo 62 = .ok (.iconst 1, 1) := by decide +kernel
theorem dX11_undo_63 : decode cX11_undo 63 = .ok (.ireturn, 1) := by decide +kernel
set_option maxHeartbeats 4000000 in
set_option maxRecDepth 100000 in
theorem ct_X11_undo_f {E : xE} {z : Nat} {T : Nat → Nat × Int} {F : Nat → Nat → Int} {I : Nat → Int → Int} {P : Nat → Nat → Option Nat} {Y : Nat → Int → Option Nat} {o m : Nat} {ws : Nat → Option wWo} (hL : LK T F I P Y o m z ws) (h8 : F o 8 = 0) : Ct E 0 mX11_undo 0 0 [.ref o] (z, T, F, I, P, Y) (xd (some (J 0)) (z, T, F, I, P, Y)) := by
  have h1 : (T o).1 = 12 := hL.1.1
  refine Ct.of [some (.ref o), none, none] kt_X11_undo rfl (Nat.le_of_ble_eq_true rfl) rfl (fun d hd => ?_)
  generalize hX : xN E _ _ _ = X
  refine xg_aloadn 1 dX11_undo_0 rfl rfl rfl ?_
  refine xg_getI 4 kf_RX11_40 dX11_undo_1 rfl h1 ?_
  refine xg_ifgt 9 7 dX11_undo_4 rfl rfl (by omega) (fun hb4 => ?_) (fun hb4 => ?_)
  · exfalso; omega
  · skip
    refine xg_iconst 8 dX11_undo_7 rfl ?_
    subst hX
    exact xg_zreturn dX11_undo_8 rfl (by first | exact bI_01 _ | omega) ⟨Nat.le_refl _, Nat.le_refl _⟩ ⟨rfl, rfl⟩

set_option maxHeartbeats 4000000 in
set_option maxRecDepth 100000 in
theorem ct_X11_undo {E : xE} {z : Nat} {T : Nat → Nat × Int} {F : Nat → Nat → Int} {I : Nat → Int → Int} {P : Nat → Nat → Option Nat} {Y : Nat → Int → Option Nat} {o m : Nat} {ws : Nat → Option wWo} (hL : LK T F I P Y o m z ws) {a : Nat} {u : wWo} (h3 : P o 3 = some a) (h4 : ∃ b : Nat, P o 4 = some b) (hf : 0 ≤ F o 7 ∧ F o 7 < 12) (hc : 0 < F o 8 ∧ F o 8 ≤ 12) (hu : ws (uSl (F o 7) (F o 8)) = some u) : Ct E 0 mX11_undo 0 0 [.ref o] (z, T, F, I, P, Y) (xAl o m z T F I P Y (some (J 1)) (fun s => ws (uSw 0 (uSl (F o 7) (F o 8)) s)) (F o 1) (F o 2) (F o 7) (F o 8 - 1)) := by
  have h1 : (T o).1 = 12 := hL.1.1
  obtain ⟨h6, h61, h62⟩ := hL.1.2.2.1
  have k1 : (T a).1 = 9 := (hL.2.2.1 0 a (by decide) h3).1.1.1
  have hlt : uSl (F o 7) (F o 8) < 15 := by unfold uSl; omega
  have hx : ∃ x : Nat, lSl o P Y (uSl (F o 7) (F o 8)) = some x := (hL.2.2.2.1 _ u hlt hu).imp (fun _ q => q.1)
  obtain ⟨x, hx⟩ := hx
  have e3 : (((uSl (F o 7) (F o 8)) : Nat) : Int) - 3 = ((F o 7 + F o 8 - 1) % 12) := by unfold uSl; omega
  have hn3 : ¬ uSl (F o 7) (F o 8) < 3 := by unfold uSl; omega
  have hY : Y (o + 116) ((F o 7 + F o 8 - 1) % 12) = some x := by
    unfold lSl at hx
    rw [if_neg (by omega), if_neg (by omega), if_neg (by omega), e3] at hx
    exact hx
  have kx : (T x).1 = 9 := (hL.2.2.1 _ x hlt hx).1.1.1
  refine Ct.of [some (.ref o), none, none] kt_X11_undo rfl (Nat.le_of_ble_eq_true rfl) rfl (fun d hd => ?_)
  generalize hX : xN E _ _ _ = X
  refine xg_aloadn 1 dX11_undo_0 rfl rfl rfl ?_
  refine xg_getI 4 kf_RX11_40 dX11_undo_1 rfl h1 ?_
  refine xg_ifgt 9 7 dX11_undo_4 rfl rfl (by omega) (fun hb4 => ?_) (fun hb4 => ?_)
  · skip
    refine xg_aloadn 10 dX11_undo_9 rfl rfl rfl ?_
    refine xg_getI 13 kf_RX11_37 dX11_undo_10 rfl h1 ?_
    refine xg_aloadn 14 dX11_undo_13 rfl rfl rfl ?_
    refine xg_getI 17 kf_RX11_40 dX11_undo_14 rfl h1 ?_
    refine xg_iadd 18 dX11_undo_17 rfl ?_
    refine xg_iconst 19 dX11_undo_18 rfl ?_
    refine xg_isub 20 dX11_undo_19 rfl ?_
    refine xg_bipush 22 dX11_undo_20 rfl (by decide) ?_
    refine xg_irem 23 dX11_undo_22 rfl (by omega) ?_
    refine xg_istoren 24 _ dX11_undo_23 rfl rfl rfl (by decide) (Or.inr rfl) ?_
    refine xg_aloadn 25 dX11_undo_24 rfl rfl rfl ?_
    refine xg_getP 28 kf_RX11_33 dX11_undo_25 rfl h1 h6 ?_
    refine xg_iloadn 29 dX11_undo_28 rfl rfl rfl ?_
    refine xg_sald 30 dX11_undo_29 rfl h61 (by rw [h62]; omega) hY rfl ?_
    refine xg_astoren 31 _ dX11_undo_30 rfl rfl rfl (by decide) (Or.inr rfl) ?_
    refine xg_aloadn 32 dX11_undo_31 rfl rfl rfl ?_
    refine xg_dup 33 dX11_undo_32 rfl rfl ?_
    refine xg_getI 36 kf_RX11_40 dX11_undo_33 rfl h1 ?_
    refine xg_iconst 37 dX11_undo_36 rfl ?_
    refine xg_isub 38 dX11_undo_37 rfl ?_
    refine xg_putI 41 kf_RX11_40 dX11_undo_38 rfl h1 ?_
    refine xg_aloadn 42 dX11_undo_41 rfl rfl rfl ?_
    refine xg_ifnn 47 dX11_undo_42 rfl ?_
    refine xg_aloadn 48 dX11_undo_47 rfl rfl rfl ?_
    refine xg_getP 51 kf_RX11_33 dX11_undo_48 rfl h1 h6 ?_
    refine xg_iloadn 52 dX11_undo_51 rfl rfl rfl ?_
    refine xg_aloadn 53 dX11_undo_52 rfl rfl rfl ?_
    refine xg_getP 56 kf_RX11_23 dX11_undo_53 rfl h1 h3 ?_
    refine xg_sast 57 dX11_undo_56 rfl h61 k1 (by rw [h62]; omega) ?_
    refine xg_aloadn 58 dX11_undo_57 rfl rfl rfl ?_
    refine xg_aloadn 59 dX11_undo_58 rfl rfl rfl ?_
    refine xg_putO 62 kf_RX11_23 dX11_undo_59 rfl h1 (show _ = va_rf (some x) from rfl) ?_
    refine xg_iconst 63 dX11_undo_62 rfl ?_
    subst hX
    refine xg_zreturn dX11_undo_63 rfl (by first | exact bI_01 _ | omega) ⟨Nat.le_refl _, Nat.le_refl _⟩ ?_
    obtain ⟨c1, c2⟩ := hL.perm (σ := uSw 0 (uSl (F o 7) (F o 8))) (P2 := upP P o 3 (some x)) (Y2 := upY Y (o + 116) ((F o 7 + F o 8 - 1) % 12) (some a)) (uSw_lt (by decide) hlt) (fun s s' _ _ e => uSw_inj e) (fun s hs9 => by
      unfold uSw
      by_cases e1 : s = 0
      · subst e1; rw [if_pos rfl, hx]; exact upP_at _ _ _ _
      · rw [if_neg e1]
        by_cases e2 : s = uSl (F o 7) (F o 8)
        · rw [if_pos e2, e2]; unfold lSl
          rw [if_neg (by omega), if_neg (by omega), if_neg (by omega), e3, upY_at]; exact h3.symm
        · rw [if_neg e2]; unfold lSl
          by_cases e4 : s < 3
          · rcases (show s = 1 ∨ s = 2 by omega) with e5 | e5 <;> subst e5 <;> exact upP_nk _ _ _ _ (by decide)
          · rw [if_neg (by omega), if_neg (by omega), if_neg (by omega), if_neg (by omega), if_neg (by omega), if_neg (by omega), upY_nk _ _ _ _ (by rw [← e3]; omega)]) (fun b hb => upP_na _ _ _ _ hb) (fun k hk _ _ => upP_nk _ _ _ _ hk) (fun b hb => upY_na _ _ _ _ hb)
    have c3 := c1.fr (F' := upF F o 8 (F o 8 - 1)) (I' := I) (fun b hb => upF_na _ _ _ _ (by omega)) (fun _ _ => rfl) c1.2.2.2.2.1
    refine ⟨rfl, _, _, _, _, _, _, rfl, Nat.le_refl _, c3.1, ⟨?_, upP_nk _ _ _ _ (by decide)⟩, ⟨upF_nk _ _ _ _ (by decide), upF_nk _ _ _ _ (by decide), upF_nk _ _ _ _ (by decide), upF_at _ _ _ _⟩, rfl, fun b b0 b1 => ?_⟩
    · obtain ⟨b, hb⟩ := h4
      exact ⟨b, (upP_nk _ _ _ _ (by decide)).trans hb⟩
    · have e1 := c2 b b0 b1
      have e2 := c3.2 b b0 b1
      exact ⟨rfl, e2.2.1, rfl, e1.2.2.2.1, e1.2.2.2.2⟩
  · exfalso; omega

