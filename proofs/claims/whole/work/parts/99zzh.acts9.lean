/-! a ledger gets a law -/
section LLW
variable {T T' : Nat → Nat × Int} {F F' : Nat → Nat → Int} {I I' : Nat → Int → Int} {P P' P2 : Nat → Nat → Option Nat} {Y Y' : Nat → Int → Option Nat} {o m z a : Nat} {w u : wWo} {ws : Nat → Option wWo}
theorem LK.law0 (h : LK T F I P Y o m z ws) (h3 : P o 3 = some a) (hL : Lo z T F I P Y T' F' I' P' Y') (hP2 : P2 = upP P' a 16 (some z)) : P2 o = P o ∧ F' o = F o ∧ I' (o + 1) = I (o + 1) ∧ LF m T F I P Y T' F' I' P2 Y' := by
  obtain ⟨hs, ⟨d1, d2, d3, d4⟩, v1, v2, hg, z1, z2, z3⟩ := h
  have la := d1 0 a (by decide) h3
  have lo : ∀ b : Nat, b < z → b ≠ a → T' b = T b ∧ F' b = F b ∧ I' b = I b ∧ P2 b = P b ∧ Y' b = Y b := fun b b0 b1 => by
    obtain ⟨e1, e2, e3, e4, e5⟩ := hL b b0
    exact ⟨e1, e2, e3, by rw [hP2, upP_na _ _ _ _ b1]; exact e4, e5⟩
  exact ⟨(lo o (by omega) (by omega)).2.2.2.1, (lo o (by omega) (by omega)).2.1, (lo (o + 1) (by omega) (by omega)).2.2.1, fun b b0 b1 => lo b (by omega) (by omega)⟩
theorem LK.law (h : LK T F I P Y o m z ws) (h3 : P o 3 = some a) (hL : Lo z T F I P Y T' F' I' P' Y') (hP2 : P2 = upP P' a 16 (some z)) (hS : SR T' F' I' P2 Y' a u) (hI : wI2 u) : LK T' F' I' P2 Y' o m (z + 6) (wsU ws 0 (some u)) ∧ P2 o = P o ∧ F' o = F o ∧ I' (o + 1) = I (o + 1) ∧ LF m T F I P Y T' F' I' P2 Y' := by
  obtain ⟨hs, hd, v1, v2, hg, z1, z2, z3⟩ := h
  obtain ⟨d1, d2, d3, d4⟩ := id hd
  have ha : lSl o P Y 0 = some a := h3
  have la := d1 0 a (by decide) ha
  have lo : ∀ b : Nat, b < z → b ≠ a → T' b = T b ∧ F' b = F b ∧ I' b = I b ∧ P2 b = P b ∧ Y' b = Y b := fun b b0 b1 => by
    obtain ⟨e1, e2, e3, e4, e5⟩ := hL b b0
    exact ⟨e1, e2, e3, by rw [hP2, upP_na _ _ _ _ b1]; exact e4, e5⟩
  have hPo : P2 o = P o := (lo o (by omega) (by omega)).2.2.2.1
  have hYo : Y' (o + 116) = Y (o + 116) := (lo (o + 116) (by omega) (by omega)).2.2.2.2
  have sl : ∀ s : Nat, lSl o P2 Y' s = lSl o P Y s := lSl.fr hPo hYo
  have oth : ∀ s x : Nat, s < 15 → s ≠ 0 → lSl o P Y s = some x → ∀ b : Nat, x ≤ b → b < x + 57 → T' b = T b ∧ F' b = F b ∧ I' b = I b ∧ P2 b = P b ∧ Y' b = Y b := fun s x hs9 hn hx b b0 b1 => by
    have e1 := d2 s 0 x a hs9 (by decide) hn hx ha
    have e2 := d1 s x hs9 hx
    exact lo b (by omega) (by omega)
  have law : ∀ s x l : Nat, s < 15 → lSl o P Y s = some x → P2 x 16 = some l → l = z ∨ (P x 16 = some l ∧ s ≠ 0) := fun s x l hs9 hx hl => by
    by_cases e : s = 0
    · subst e
      have e2 : some a = some x := ha.symm.trans hx
      cases e2
      rw [hP2, upP_at] at hl
      cases hl
      exact Or.inl rfl
    · rw [(oth s x hs9 e hx x (by omega) (by omega)).2.2.2.1] at hl
      exact Or.inr ⟨hl, e⟩
  refine ⟨⟨?_, ⟨fun s x hs9 hx => ?_, fun s s' x x' q1 q2 q3 hx hx' => ?_, fun s x l hs9 hx hl => ?_, fun s s' x x' l l' q1 q2 hx hx' hl hl' => ?_⟩, fun s x hs9 hx => ?_, fun s u2 hs9 hu => ?_, ?_, by omega, by omega, z3⟩, hPo, (lo o (by omega) (by omega)).2.1, (lo (o + 1) (by omega) (by omega)).2.2.1, fun b b0 b1 => ?_⟩
  · obtain ⟨y1, ⟨y2, y22⟩, ⟨y3, y32⟩, ⟨y4, y42⟩, ⟨y5, y52⟩, ⟨y6, y62⟩, y7, y8⟩ := hs
    have t : ∀ b : Nat, b < z → T' b = T b := fun b hb => (hL b hb).1
    have p : ∀ b : Nat, o + 116 ≤ b → b < o + 168 → P2 b = P b := fun b b0 b1 => (lo b (by omega) (by omega)).2.2.2.1
    refine ⟨by rw [t o (by omega)]; exact y1, ⟨by rw [hPo]; exact y2, by rw [t _ (by omega)]; exact y22⟩, ⟨by rw [hPo]; exact y3, by rw [t _ (by omega)]; exact y32⟩, ⟨by rw [hPo]; exact y4, ?_⟩, ⟨by rw [hPo]; exact y5, ?_⟩, ⟨by rw [hPo]; exact y6, ?_⟩, by rw [hPo]; exact y7, ?_⟩
    · unfold wScn at y42 ⊢
      rw [p (o + 117) (by omega) (by omega), t (o + 117) (by omega), t (o + 117 + 1) (by omega), t (o + 117 + 2) (by omega), t (o + 117 + 3) (by omega)]; exact y42
    · unfold wSrd at y52 ⊢
      rw [p (o + 121) (by omega) (by omega), t (o + 121) (by omega), t (o + 121 + 1) (by omega), t (o + 121 + 2) (by omega)]; exact y52
    · unfold wLrd at y62 ⊢
      rw [p (o + 124) (by omega) (by omega), t (o + 124) (by omega), t (o + 124 + 1) (by omega), t (o + 124 + 2) (by omega), t (o + 124 + 3) (by omega), t (o + 124 + 4) (by omega)]; exact y62
    · exact y8.frT (fun b b0 b1 => ⟨t b (by omega), p b (by omega) (by omega), (lo b (by omega) (by omega)).2.2.2.2⟩)
  · have := d1 s x hs9 ((sl s) ▸ hx); omega
  · exact d2 s s' x x' q1 q2 q3 ((sl s) ▸ hx) ((sl s') ▸ hx')
  · rw [sl s] at hx
    rcases law s x l hs9 hx hl with e | ⟨e, -⟩
    · subst e
      refine ⟨by omega, by omega, by omega, fun s' x' hs' hx' => ?_⟩
      have := d1 s' x' hs' ((sl s') ▸ hx'); omega
    · obtain ⟨e1, e2, e3, e4⟩ := d3 s x l hs9 hx e
      exact ⟨e1, e2, by omega, fun s' x' hs' hx' => e4 s' x' hs' ((sl s') ▸ hx')⟩
  · rw [sl s] at hx
    rw [sl s'] at hx'
    rcases law s x l q1 hx hl with e | ⟨e, -⟩ <;> rcases law s' x' l' q2 hx' hl' with e' | ⟨e', -⟩
    · left; rw [e, e']
    · have := (d3 s' x' l' q2 hx' e').2.2.1; right; right; omega
    · have := (d3 s x l q1 hx e).2.2.1; right; left; omega
    · exact d4 s s' x x' l l' q1 q2 hx hx' e e'
  · rw [sl s] at hx
    by_cases e : s = 0
    · subst e
      have e2 : some a = some x := ha.symm.trans hx
      cases e2
      exact hS.sw
    · have hx1 := v1 s x hs9 hx
      have e3 := oth s x hs9 e hx
      exact hx1.fr (fun b b0 b1 => by have e4 := e3 b b0 b1; exact ⟨e4.1, e4.2.1, e4.2.2.2.1, e4.2.2.2.2⟩)
  · unfold wsU at hu
    by_cases e : s = 0
    · rw [if_pos e] at hu
      cases hu
      exact ⟨a, by rw [sl s, e]; exact ha, hS, hI⟩
    · rw [if_neg e] at hu
      obtain ⟨x, e1, e2⟩ := v2 s u2 hs9 hu
      have e3 := oth s x hs9 e e1
      refine ⟨x, (sl s).trans e1, e2.1.fr ⟨fun b b0 b1 => e3 b b0 b1, fun l hl b b0 b1 => ?_⟩, e2.2⟩
      have e5 := d3 s x l hs9 e1 hl
      have e7 := e5.2.2.2 0 a (by decide) ha
      have e6 := lo b (by omega) (by omega)
      exact ⟨e6.1, e6.2.1, fun _ => e6.2.2.1, e6.2.2.2.1⟩
  · exact hg.fr (lo (o + 121 + 1) (by omega) (by omega)).2.2.1 (lo (o + 121 + 2) (by omega) (by omega)).2.2.1
  · exact lo b (by omega) (by omega)
end LLW

/-- the ledger has got a law: whatever world is meant by it -/
def xLw (o m z : Nat) (T : Nat → Nat × Int) (F : Nat → Nat → Int) (I : Nat → Int → Int) (P : Nat → Nat → Option Nat) (Y : Nat → Int → Option Nat) (ws : Nat → Option wWo) (w : wWo) (ls : List gLn) (cs : List (Int × Int)) : Option Value → xH → Prop :=
  fun v h' => v = some (J (ls.length : Int)) ∧ ∃ (z' : Nat) (T' : Nat → Nat × Int) (F' : Nat → Nat → Int) (I' : Nat → Int → Int) (P' : Nat → Nat → Option Nat) (Y' : Nat → Int → Option Nat), h' = (z', T', F', I', P', Y') ∧ z ≤ z' ∧ (∀ u : wWo, wLd w u ls cs → w32 u → LK T' F' I' P' Y' o m z' (wsU ws 0 (some u))) ∧ ((∃ x : Nat, P' o 4 = some x) ∧ P' o 5 = P o 5) ∧ (F' o 1 = 0 ∧ F' o 2 = -1 ∧ F' o 7 = 0 ∧ F' o 8 = 0) ∧ I' (o + 1) = I (o + 1) ∧ (T' o).1 = 12 ∧ LF m T F I P Y T' F' I' P' Y'
theorem dX11_law_0 : decode cX11_law 0 = .ok (.aload_n 0, 1) := by decide +kernel
theorem dX11_law_1 : decode cX11_law 1 = .ok (.getfield 46, 3) := by decide +kernel
theorem dX11_law_4 : decode cX11_law 4 = .ok (.aload_n 0, 1) := by decide +kernel
theorem dX11_law_5 : decode cX11_law 5 = .ok (.getfield 9, 3) := by decide +kernel
theorem dX11_law_8 : decode cX11_law 8 = .ok (.aload_n 0, 1) := by decide +kernel
theorem dX11_law_9 : decode cX11_law 9 = .ok (.getfield 13, 3) := by decide +kernel
theorem dX11_law_12 : decode cX11_law 12 = .ok (.invokevirtual 77, 3) := by decide +kernel
theorem dX11_law_15 : decode cX11_law 15 = .ok (.aload_n 0, 1) := by decide +kernel
theorem dX11_law_16 : decode cX11_law 16 = .ok (.iconst 0, 1) := by decide +kernel
theorem dX11_law_17 : decode cX11_law 17 = .ok (.putfield 13, 3) := by decide +kernel
theorem dX11_law_20 : decode cX11_law 20 = .ok (.aload_n 0, 1) := by decide +kernel
theorem dX11_law_21 : decode cX11_law 21 = .ok (.getfield 62, 3) := by decide +kernel
theorem dX11_law_24 : decode cX11_law 24 = .ok (.invokevirtual 104, 3) := by decide +kernel
theorem dX11_law_27 : decode cX11_law 27 = .ok (.istore_n 1, 1) := by decide +kernel
theorem dX11_law_28 : decode cX11_law 28 = .ok (.aload_n 0, 1) := by decide +kernel
theorem dX11_law_29 : decode cX11_law 29 = .ok (.aload_n 0, 1) := by decide +kernel
theorem dX11_law_30 : decode cX11_law 30 = .ok (.getfield 46, 3) := by decide +kernel
theorem dX11_law_33 : decode cX11_law 33 = .ok (.getfield 89, 3) := by decide +kernel
theorem dX11_law_36 : decode cX11_law 36 = .ok (.putfield 17, 3) := by decide +kernel
theorem dX11_law_39 : decode cX11_law 39 = .ok (.iload_n 1, 1) := by decide +kernel
theorem dX11_law_40 : decode cX11_law 40 = .ok (.ifCond .ne 11, 3) := by decide +kernel
theorem dX11_law_43 : decode cX11_law 43 = .ok (.new 92, 3) := by decide +kernel
theorem dX11_law_46 : decode cX11_law 46 = .ok (.dup, 1) := by decide +kernel
theorem dX11_law_47 : decode cX11_law 47 = .ok (.invokespecial 94, 3) := by decide +kernel
theorem dX11_law_50 : decode cX11_law 50 = .ok (.athrow, 1) := by decide +kernel
theorem dX11_law_51 : decode cX11_law 51 = .ok (.aload_n 0, 1) := by decide +kernel
theorem dX11_law_52 : decode cX11_law 52 = .ok (.getfield 23, 3) := by decide +kernel
theorem dX11_law_55 : decode cX11_law 55 = .ok (.aload_n 0, 1) := by decide +kernel
theorem dX11_law_56 : decode cX11_law 56 = .ok (.getfield 62, 3) := by decide +kernel
theorem dX11_law_59 : decode cX11_law 59 = .ok (.invokevirtual 108, 3) := by decide +kernel
theorem dX11_law_62 : decode cX11_law 62 = .ok (.putfield 112, 3) := by decide +kernel
theorem dX11_law_65 : decode cX11_law 65 = .ok (.aload_n 0, 1) := by decide +kernel
theorem dX11_law_66 : decode cX11_law 66 = .ok (.invokevirtual 101, 3) := by decide +kernel
theorem dX11_law_69 : decode cX11_law 69 = .ok (.aload_n 0, 1) := by decide +kernel
theorem dX11_law_70 : decode cX11_law 70 = .ok (.getfield 23, 3) := by decide +kernel
theorem dX11_law_73 : decode cX11_law 73 = .ok (.getfield 112, 3) := by decide +kernel
theorem dX11_law_76 : decode cX11_law 76 = .ok (.getfield 116, 3) := by decide +kernel
theorem dX11_law_79 : decode cX11_law 79 = .ok (.ireturn, 1) := by decide +kernel
set_option maxHeartbeats 4000000 in
set_option maxRecDepth 100000 in
theorem ct_X11_law {E : xE} {z : Nat} {T : Nat → Nat × Int} {F : Nat → Nat → Int} {I : Nat → Int → Int} {P : Nat → Nat → Option Nat} {Y : Nat → Int → Option Nat} {o m : Nat} {ws : Nat → Option wWo} (hL : LK T F I P Y o m z ws) (hT : ∀ j : Int, 0 ≤ j → j < 400 → 0 ≤ I (o + 1) j ∧ I (o + 1) j ≤ 255) (he : 0 ≤ F o 1 ∧ F o 1 ≤ 400) {qS v0 : Nat} (hSt : ∀ u : State, E.2.2.2.2 u → oStr E.2.2.2.1 qS v0 zTx u) {sio : Option Nat} (hZ : ∀ u : State, E.2.2.2.2 u → oSts E.2.2.2.1 sio u) {tx : String} (hR : ∀ u : State, E.2.2.2.2 u → vk_R RX7 52 tx qS u) {a b : Nat} {w : wWo} (h3 : P o 3 = some a) (h4 : P o 4 = some b) (hu : ws 0 = some w) {ls : List gLn} {cs : List (Int × Int)} (hg : gLaw (I (o + 1)) (F o 1) = .inr (ls, cs)) : Ct E 48 mX11_law 6 475 [.ref o] (z, T, F, I, P, Y) (xLw o m z T F I P Y ws w ls cs) := by
  have h1 : (T o).1 = 12 := hL.1.1
  obtain ⟨-, ⟨p0, t01, t02⟩, -, ⟨p9, hScn⟩, ⟨p10, hSrd⟩, ⟨p11, hLrd⟩, -⟩ := id hL.1
  obtain ⟨hS, hI, ka⟩ := hL.liv (s := 0) (by decide) h3 hu
  have kb : (T b).1 = 9 := (hL.2.2.1 1 b (by decide) h4).1.1.1
  have lb := hL.2.1.1 1 b (by decide) h4
  have kr : (T (o + 121)).1 = 10 := hSrd.1
  have hz := hL.2.2.2.2.2.1
  have la0 := hL.2.1.1 0 a (by decide) h3
  have kl : (T (o + 124)).1 = 5 := hLrd.1
  refine Ct.of [some (.ref o), none] kt_X11_law rfl (Nat.le_of_ble_eq_true rfl) rfl (fun d hd => ?_)
  generalize hX : xN E _ _ _ = X
  refine xg_aloadn 1 dX11_law_0 rfl rfl rfl ?_
  refine xg_getP 4 kf_RX11_46 dX11_law_1 rfl h1 p9 ?_
  refine xg_aloadn 5 dX11_law_4 rfl rfl rfl ?_
  refine xg_getP 8 kf_RX11_9 dX11_law_5 rfl h1 p0 ?_
  refine xg_aloadn 9 dX11_law_8 rfl rfl rfl ?_
  refine xg_getI 12 kf_RX11_13 dX11_law_9 rfl h1 ?_
  refine xg_callVe 15 7 [_, _] _ kv_X7_open ⟨_, _, rfl⟩ kl_RX11_77 dX11_law_12 rfl hScn.1 (by omega) rfl rfl (Nat.le_of_ble_eq_true rfl) (by omega) ⟨by first | decide | omega, by first | decide | omega⟩ (ct_X7_open hScn ⟨t01, t02⟩ hT he (by omega) hSt hZ hR) rfl (fun v9 h9 e9 => ?_)
  obtain ⟨rfl, F2, I2, N2, rfl, hk2, ⟨h42, h52⟩, hF2, hI2⟩ := e9
  obtain ⟨K2, M2⟩ := hL.opn hF2 (fun b hb => hI2 b (by omega))
  refine xg_aloadn 16 dX11_law_15 rfl rfl rfl ?_
  refine xg_iconst 17 dX11_law_16 rfl ?_
  refine xg_putI 20 kf_RX11_13 dX11_law_17 rfl h1 ?_
  refine xg_aloadn 21 dX11_law_20 rfl rfl rfl ?_
  refine xg_getP 24 kf_RX11_62 dX11_law_21 rfl h1 p11 ?_
  refine xg_callVe 27 4 [] _ kv_X4_readAll ⟨_, _, rfl⟩ kl_RX11_104 dX11_law_24 rfl kl (by omega) rfl rfl (Nat.le_of_ble_eq_true rfl) (by omega) ⟨by first | decide | omega, by first | decide | omega⟩ (ct_X4_readAll hScn (hk2.fw (by rw [upF_na _ _ _ _ (by omega)]) (fun _ _ _ => rfl)) hT he (by omega) hLrd (by rw [upF_na _ _ _ _ (by omega)]; exact h42) (by rw [upF_na _ _ _ _ (by omega)]; exact h52)) rfl (fun v9 h9 e9 => ?_)
  rw [hg] at e9
  obtain ⟨rfl, F3, I3, ⟨h53, h5r, h3r⟩, hks, hkc, hF3, hI3, rfl⟩ := e9
  obtain ⟨hl1, hl2, hl3⟩ := gLaw_ok he.1 hg
  have hln := gLaw_ln hg
  have hl1 : ls.length ≤ 12 := hl1
  have hl2 : (cs.length : Int) ≤ F o 1 := hl2
  obtain ⟨K3, M3⟩ := K2.fr (F' := upF F3 o 2 (F3 (o + 117) 5)) (I' := I3) (fun b hb => by rw [upF_na _ _ _ _ (by omega)]; exact hF3 b (by omega) (by omega)) (fun b hb => hI3 b (by omega)) (K2.2.2.2.2.1.fr (hI3 _ (by omega)) (hI3 _ (by omega)))
  refine xg_istoren 28 _ dX11_law_27 rfl rfl rfl (by decide) (Or.inr rfl) ?_
  refine xg_aloadn 29 dX11_law_28 rfl rfl rfl ?_
  refine xg_aloadn 30 dX11_law_29 rfl rfl rfl ?_
  refine xg_getP 33 kf_RX11_46 dX11_law_30 rfl h1 p9 ?_
  refine xg_getI 36 kf_RX11_89 dX11_law_33 rfl hScn.1 ?_
  refine xg_putI 39 kf_RX11_17 dX11_law_36 rfl h1 ?_
  refine xg_iloadn 40 dX11_law_39 rfl rfl rfl ?_
  refine xg_ifne 51 43 dX11_law_40 rfl rfl (by omega) (fun hb40 => ?_) (fun hb40 => ?_)
  · skip
    refine xg_aloadn 52 dX11_law_51 rfl rfl rfl ?_
    refine xg_getP 55 kf_RX11_23 dX11_law_52 rfl h1 h3 ?_
    refine xg_aloadn 56 dX11_law_55 rfl rfl rfl ?_
    refine xg_getP 59 kf_RX11_62 dX11_law_56 rfl h1 p11 ?_
    refine xg_callVm 62 4 [] _ kv_X4_made ⟨_, _, rfl⟩ kl_RX11_108 dX11_law_59 rfl kl (by omega) rfl rfl (Nat.le_of_ble_eq_true rfl) (by omega) ⟨by first | decide | omega, by first | decide | omega⟩ (ct_X4_made (r := o + 124) hLrd (by omega) (n := (ls.length : Int)) (m := (cs.length : Int)) (by omega) (by omega) (by rw [upF_na _ _ _ _ (by omega)]; exact h5r) h3r) rfl (fun v9 h9 e9 => ?_)
    obtain ⟨rfl, T4, F4, I4, P4, rfl, hW4, hL4⟩ := e9
    have ka4 : (T4 a).1 = 9 := by rw [(hL4 a (by omega)).1]; exact ka
    have h14 : (T4 o).1 = 12 := by rw [(hL4 o (by omega)).1]; exact h1
    have p34 : P4 o 3 = some a := by rw [(hL4 o (by omega)).2.2.2.1]; exact h3
    have kz4 : (T4 z).1 = 4 := hW4.1.1
    refine xg_putO 65 kf_RX11_112 dX11_law_62 rfl ka4 (show _ = va_rf (some z) from rfl) ?_
    refine xg_aloadn 66 dX11_law_65 rfl rfl rfl ?_
    refine xg_callV 69 11 [] _ kv_X11_forgetActs ⟨_, _, rfl⟩ kl_RX11_101 dX11_law_66 rfl h14 (by omega) rfl rfl (Nat.le_of_ble_eq_true rfl) (by omega) ⟨by first | decide | omega, by first | decide | omega⟩ (ct_X11_forgetActs h14) rfl ?_
    refine xg_aloadn 70 dX11_law_69 rfl rfl rfl ?_
    have p35 : upP P4 a 16 (some z) o 3 = some a := by rw [upP_na _ _ _ _ (show o ≠ a by omega)]; exact p34
    refine xg_getP 73 kf_RX11_23 dX11_law_70 rfl h14 p35 ?_
    refine xg_getP 76 kf_RX11_112 dX11_law_73 rfl ka4 (upP_at _ _ _ _) ?_
    refine xg_getI 79 kf_RX11_116 dX11_law_76 rfl kz4 ?_
    subst hX
    refine xg_ireturn dX11_law_79 rfl ⟨by first | decide | omega, by first | decide | omega⟩ ?_
    obtain ⟨hS3, hI3b, -⟩ := K3.liv (s := 0) (by decide) h3 hu
    have la := K3.2.1.1 0 a (by decide) h3
    have hS4 : SR T4 F4 I4 P4 Y a w := hS3.fr ⟨fun b b0 b1 => hL4 b (by omega), fun l hl b b0 b1 => by
      have e1 := K3.2.1.2.2.1 0 a l (by decide) h3 hl
      have e2 := hL4 b (by omega)
      exact ⟨e2.1, e2.2.1, fun _ => e2.2.2.1, e2.2.2.2.1⟩⟩
    have hW5 : WNew T4 F4 I4 (upP P4 a 16 (some z)) I3 z (o + 124 + 1) (o + 124 + 2) (o + 124 + 3) (o + 124 + 4) (ls.length : Int) (cs.length : Int) := by
      unfold WNew at hW4 ⊢
      rw [upP_na _ _ _ _ (show z ≠ a by omega)]; exact hW4
    obtain ⟨g2, g3, g4, M5⟩ := K3.law0 h3 hL4 rfl
    refine ⟨?_, _, _, _, _, _, _, rfl, by omega, fun u hud huR => ?_, ⟨⟨b, by rw [g2]; exact h4⟩, by rw [g2]⟩, ⟨?_, ?_, ?_, ?_⟩, ?_, h14, ((M2.tr M3).tr M5).tr (fun b b0 b1 => ⟨rfl, by rw [upF_na _ _ _ _ (by have := hL.2.2.2.2.2; omega), upF_na _ _ _ _ (by have := hL.2.2.2.2.2; omega)], rfl, rfl, rfl⟩)⟩
    · rw [upF_na _ _ _ _ (show z ≠ o by omega), upF_na _ _ _ _ (show z ≠ o by omega), hW4.1.2]
    · have hgd := hud.gd hI.1.1.1 hln hl3 hl1 (by omega) huR
      have hlaw := hW5.law hks hkc hud hln hl3 (by omega)
      have hS5 := hS4.law hgd hud.1 (P' := upP P4 a 16 (some z)) (fun c hc => upP_na _ _ _ _ hc) (fun k hk => upP_nk _ _ _ _ hk) (Or.inr ⟨z, upP_at _ _ _ _, hlaw, by omega⟩)
      obtain ⟨K5, -⟩ := K3.law h3 hL4 rfl hS5 (hI.w2 hud.1 hgd)
      exact (K5.fr (F' := upF (upF F4 o 7 0) o 8 0) (I' := I4) (fun b hb => by rw [upF_na _ _ _ _ (by omega), upF_na _ _ _ _ (by omega)]) (fun _ _ => rfl) K5.2.2.2.2.1).1
    · rw [upF_nk _ _ _ _ (by decide), upF_nk _ _ _ _ (by decide), g3, upF_nk _ _ _ _ (by decide), hF3 o (by omega) (by omega), upF_at]
    · rw [upF_nk _ _ _ _ (by decide), upF_nk _ _ _ _ (by decide), g3, upF_at, h53]
    · rw [upF_nk _ _ _ _ (by decide), upF_at]
    · rw [upF_at]
    · exact g4.trans ((hI3 (o + 1) (by omega)).trans (hI2 (o + 1) (by omega)))
  · exfalso; omega

