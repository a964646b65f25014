/-! the reader of stores acts on a ledger -/
section LRD
variable {T : Nat → Nat × Int} {F F' F1 : Nat → Nat → Int} {I I' I1 : Nat → Int → Int} {P P' P1 : Nat → Nat → Option Nat} {Y Y' : Nat → Int → Option Nat} {o m z a x : Nat} {u u' w : wWo} {ws : Nat → Option wWo} {s0 N : Nat} {t : Int → Int} {e : Int}
theorem LK.act2 (h : LK T F I P Y o m z ws) (h0 : s0 < 15) (ha : lSl o P Y s0 = some a) {x' : Option wWo} (hW : SW T F' P' Y' a) (hX : ∀ u : wWo, x' = some u → SG T F' I' P' Y' a u) (hF : dFr a (o + 117) (o + 121) F I P Y F' I' P' Y') (hg' : pRg I' (o + 121)) : LK T F' I' P' Y' o m z (wsU ws s0 x') ∧ P' o = P o ∧ F' o = F o ∧ I' (o + 1) = I (o + 1) ∧ Y' (o + 116) = Y (o + 116) ∧ LF m T F I P Y T F' I' P' Y' := by
  obtain ⟨hs, hd, v1, v2, hg, z1, z2, z3⟩ := h
  obtain ⟨d1, d2, d3, d4⟩ := id hd
  have la := d1 s0 a h0 ha
  have lw : ∀ l, P a 16 = some l → _ := fun l hl => d3 s0 a l h0 ha hl
  obtain ⟨f1, f2, f3, f4⟩ := hF
  have out : ∀ b : Nat, (b < a ∨ a + 57 ≤ b) → (b < o + 117 ∨ o + 124 ≤ b) → (∀ l, P a 16 = some l → b ≠ l + 5) → F' b = F b ∧ P' b = P b ∧ Y' b = Y b ∧ I' b = I b := fun b hb hc hl => ⟨f1 b hb (by omega) (by omega), (f2 b hb).1, (f2 b hb).2, f3 b hb (by omega) (by omega) hl⟩
  have own : ∀ b : Nat, (o ≤ b ∧ b < o + 2) ∨ (o + 116 ≤ b ∧ b < o + 168) → P' b = P b ∧ Y' b = Y b := fun b hb => f2 b (by omega)
  have own2 : ∀ b : Nat, (o ≤ b ∧ b < o + 2) → F' b = F b ∧ P' b = P b ∧ Y' b = Y b ∧ I' b = I b := fun b hb => out b (by omega) (by omega) (fun l hl => by have := lw l hl; omega)
  have hPo : P' o = P o := (own o (by omega)).1
  have hYo : Y' (o + 116) = Y (o + 116) := (own (o + 116) (by omega)).2
  have sl : ∀ s : Nat, lSl o P' Y' s = lSl o P Y s := lSl.fr hPo hYo
  have blk : ∀ s x : Nat, s < 15 → s ≠ s0 → lSl o P Y s = some x → ∀ b : Nat, x ≤ b → b < x + 57 → F' b = F b ∧ P' b = P b ∧ Y' b = Y b ∧ I' b = I b := fun s x hs9 hn hx b b0 b1 => by
    have e1 := d2 s s0 x a hs9 h0 hn hx ha
    have e2 := d1 s x hs9 hx
    exact out b (by omega) (by omega) (fun l hl => by have := (lw l hl).2.2.2 s x hs9 hx; omega)
  have P16 : ∀ s x : Nat, s < 15 → lSl o P Y s = some x → P' x 16 = P x 16 := fun s x hs9 hx => by
    by_cases e : s = s0
    · subst e
      have e2 : some a = some x := ha.symm.trans hx
      cases e2
      exact f4 16 (by decide) (by decide)
    · rw [(blk s x hs9 e hx x (by omega) (by omega)).2.1]
  have good : ∀ (s x : Nat) (u : wWo), s < 15 → s ≠ s0 → lSl o P Y s = some x → SG T F I P Y x u → SG T F' I' P' Y' x u := fun s x u hs9 hn hx hu => by
    refine ⟨hu.1.fr ⟨fun b b0 b1 => ?_, fun l hl b b0 b1 => ?_⟩, hu.2⟩
    · have e := blk s x hs9 hn hx b b0 b1
      exact ⟨rfl, e.1, e.2.2.2, e.2.1, e.2.2.1⟩
    · have e0 := d3 s x l hs9 hx hl
      have e1 := e0.2.2.2 s0 a h0 ha
      refine ⟨rfl, f1 b (by omega) (by omega) (by omega), fun h5 => f3 b (by omega) (by omega) (by omega) (fun l2 hl2 => ?_), (f2 b (by omega)).1⟩
      have e3 := d4 s s0 x a l l2 hs9 h0 hx ha hl hl2
      omega
  refine ⟨⟨?_, ?_, fun s x hs9 hx => ?_, fun s u hs9 hu => ?_, hg', z1, z2, z3⟩, hPo, (own2 o (by omega)).1, (own2 (o + 1) (by omega)).2.2.2, hYo, fun b b0 b1 => ?_⟩
  · obtain ⟨y1, y2, y3, y4, y5, y6, y7, y8⟩ := hs
    have q : ∀ b : Nat, (o ≤ b ∧ b < o + 2) ∨ (o + 116 ≤ b ∧ b < o + 168) → P' b = P b := fun b hb => (own b hb).1
    unfold LgS wScn wSrd wLrd
    unfold wScn at y4
    unfold wSrd at y5
    unfold wLrd at y6
    rw [hPo, q (o + 117) (by omega), q (o + 121) (by omega), q (o + 124) (by omega)]
    refine ⟨y1, y2, y3, y4, y5, y6, y7, ?_⟩
    exact y8.fr (fun b b0 b1 => own b (by omega))
  · refine ⟨fun s x hs9 hx => d1 s x hs9 ((sl s) ▸ hx), fun s s' x x' h1 h2 h3 hx hx' => d2 s s' x x' h1 h2 h3 ((sl s) ▸ hx) ((sl s') ▸ hx'), fun s x l hs9 hx hl => ?_, fun s s' x x' l l' h1 h2 hx hx' hl hl' => ?_⟩
    · rw [sl s] at hx
      rw [P16 s x hs9 hx] at hl
      obtain ⟨e1, e2, e3, e4⟩ := d3 s x l hs9 hx hl
      exact ⟨e1, e2, e3, fun s' x' hs' hx' => e4 s' x' hs' ((sl s') ▸ hx')⟩
    · rw [sl s] at hx
      rw [sl s'] at hx'
      rw [P16 s x h1 hx] at hl
      rw [P16 s' x' h2 hx'] at hl'
      exact d4 s s' x x' l l' h1 h2 hx hx' hl hl'
  · rw [sl s] at hx
    by_cases e : s = s0
    · subst e
      have e2 : some a = some x := ha.symm.trans hx
      cases e2
      exact hW
    · exact (v1 s x hs9 hx).fr (fun b b0 b1 => by have e3 := blk s x hs9 e hx b b0 b1; exact ⟨rfl, e3.1, e3.2.1, e3.2.2.1⟩)
  · unfold wsU at hu
    by_cases e : s = s0
    · rw [if_pos e] at hu
      exact ⟨a, by rw [sl s, e]; exact ha, hX u hu⟩
    · rw [if_neg e] at hu
      obtain ⟨x, e1, e2⟩ := v2 s u hs9 hu
      exact ⟨x, (sl s).trans e1, good s x u hs9 e e1 e2⟩
  · have e := out b (by omega) (by omega) (fun l hl => by have := lw l hl; omega)
    exact ⟨rfl, e.1, e.2.2.2, e.2.1, e.2.2.1⟩
/-- a ledger whose scan was opened, whose tape is empty -/
theorem LK.opn (h : LK T F I P Y o m z ws) (hF2 : ∀ b : Nat, b ≠ o + 117 → F1 b = F b) (hI2 : ∀ b : Nat, b < o + 118 ∨ o + 121 ≤ b → I1 b = I b) : LK T (upF F1 o 1 0) I1 P Y o m z ws ∧ LF m T F I P Y T (upF F1 o 1 0) I1 P Y :=
  h.fr (fun b hb => by rw [upF_na _ _ _ _ (by omega)]; exact hF2 b (by omega)) (fun b hb => hI2 b (by omega)) (h.2.2.2.2.1.fr (hI2 (o + 121 + 1) (by omega)) (hI2 (o + 121 + 2) (by omega)))
theorem LK.far (h : LK T F I P Y o m z ws) (h0 : s0 < 15) (ha : lSl o P Y s0 = some a) : cFar a (o + 117) (o + 121) P := by
  obtain ⟨hs, ⟨d1, d2, d3, d4⟩, -⟩ := h
  have := d1 s0 a h0 ha
  refine ⟨by omega, by omega, fun l hl => ?_⟩
  have := d3 s0 a l h0 ha hl
  omega
theorem zTok.fw (h : zTok t e F I x N) (hF : F' x = F x) (hI : ∀ b : Nat, x + 1 ≤ b → b < x + 4 → I' b = I b) : zTok t e F' I' x N := by
  unfold zTok at h ⊢
  rw [hF, hI (x + 1) (by omega) (by omega), hI (x + 2) (by omega) (by omega), hI (x + 3) (by omega) (by omega)]
  exact h
end LRD

theorem dX11_store_0 : decode cX11_store 0 = .ok (.aload_n 0, 1) := by decide +kernel
theorem dX11_store_1 : decode cX11_store 1 = .ok (.getfield 46, 3) := by decide +kernel
theorem dX11_store_4 : decode cX11_store 4 = .ok (.aload_n 0, 1) := by decide +kernel
theorem dX11_store_5 : decode cX11_store 5 = .ok (.getfield 9, 3) := by decide +kernel
theorem dX11_store_8 : decode cX11_store 8 = .ok (.aload_n 0, 1) := by decide +kernel
theorem dX11_store_9 : decode cX11_store 9 = .ok (.getfield 13, 3) := by decide +kernel
theorem dX11_store_12 : decode cX11_store 12 = .ok (.invokevirtual 77, 3) := by decide +kernel
theorem dX11_store_15 : decode cX11_store 15 = .ok (.aload_n 0, 1) := by decide +kernel
theorem dX11_store_16 : decode cX11_store 16 = .ok (.iconst 0, 1) := by decide +kernel
theorem dX11_store_17 : decode cX11_store 17 = .ok (.putfield 13, 3) := by decide +kernel
theorem dX11_store_20 : decode cX11_store 20 = .ok (.aload_n 0, 1) := by decide +kernel
theorem dX11_store_21 : decode cX11_store 21 = .ok (.getfield 27, 3) := by decide +kernel
theorem dX11_store_24 : decode cX11_store 24 = .ok (.aload_n 0, 1) := by decide +kernel
theorem dX11_store_25 : decode cX11_store 25 = .ok (.getfield 23, 3) := by decide +kernel
theorem dX11_store_28 : decode cX11_store 28 = .ok (.invokevirtual 81, 3) := by decide +kernel
theorem dX11_store_31 : decode cX11_store 31 = .ok (.aload_n 0, 1) := by decide +kernel
theorem dX11_store_32 : decode cX11_store 32 = .ok (.getfield 55, 3) := by decide +kernel
theorem dX11_store_35 : decode cX11_store 35 = .ok (.aload_n 0, 1) := by decide +kernel
theorem dX11_store_36 : decode cX11_store 36 = .ok (.getfield 27, 3) := by decide +kernel
theorem dX11_store_39 : decode cX11_store 39 = .ok (.invokevirtual 85, 3) := by decide +kernel
theorem dX11_store_42 : decode cX11_store 42 = .ok (.istore_n 1, 1) := by decide +kernel
theorem dX11_store_43 : decode cX11_store 43 = .ok (.aload_n 0, 1) := by decide +kernel
theorem dX11_store_44 : decode cX11_store 44 = .ok (.aload_n 0, 1) := by decide +kernel
theorem dX11_store_45 : decode cX11_store 45 = .ok (.getfield 46, 3) := by decide +kernel
theorem dX11_store_48 : decode cX11_store 48 = .ok (.getfield 89, 3) := by decide +kernel
theorem dX11_store_51 : decode cX11_store 51 = .ok (.putfield 17, 3) := by decide +kernel
theorem dX11_store_54 : decode cX11_store 54 = .ok (.iload_n 1, 1) := by decide +kernel
theorem dX11_store_55 : decode cX11_store 55 = .ok (.ifCond .ne 11, 3) := by decide +kernel
theorem dX11_store_58 : decode cX11_store 58 = .ok (.new 92, 3) := by decide +kernel
theorem dX11_store_61 : decode cX11_store 61 = .ok (.dup, 1) := by decide +kernel
theorem dX11_store_62 : decode cX11_store 62 = .ok (.invokespecial 94, 3) := by decide +kernel
theorem dX11_store_65 : decode cX11_store 65 = .ok (.athrow, 1) := by decide +kernel
theorem dX11_store_66 : decode cX11_store 66 = .ok (.aload_n 0, 1) := by decide +kernel
theorem dX11_store_67 : decode cX11_store 67 = .ok (.getfield 23, 3) := by decide +kernel
theorem dX11_store_70 : decode cX11_store 70 = .ok (.getfield 95, 3) := by decide +kernel
theorem dX11_store_73 : decode cX11_store 73 = .ok (.bipush 12, 2) := by decide +kernel
theorem dX11_store_75 : decode cX11_store 75 = .ok (.if_icmp .lt 11, 3) := by decide +kernel
theorem dX11_store_78 : decode cX11_store 78 = .ok (.new 98, 3) := by decide +kernel
theorem dX11_store_81 : decode cX11_store 81 = .ok (.dup, 1) := by decide +kernel
theorem dX11_store_82 : decode cX11_store 82 = .ok (.invokespecial 100, 3) := by decide +kernel
theorem dX11_store_85 : decode cX11_store 85 = .ok (.athrow, 1) := by decide +kernel
theorem dX11_store_86 : decode cX11_store 86 = .ok (.aload_n 0, 1) := by decide +kernel
theorem dX11_store_87 : decode cX11_store 87 = .ok (.getfield 23, 3) := by decide +kernel
theorem dX11_store_90 : decode cX11_store 90 = .ok (.astore_n 2, 1) := by decide +kernel
theorem dX11_store_91 : decode cX11_store 91 = .ok (.aload_n 0, 1) := by decide +kernel
theorem dX11_store_92 : decode cX11_store 92 = .ok (.aload_n 0, 1) := by decide +kernel
theorem dX11_store_93 : decode cX11_store 93 = .ok (.getfield 27, 3) := by decide +kernel
theorem dX11_store_96 : decode cX11_store 96 = .ok (.putfield 23, 3) := by decide +kernel
theorem dX11_store_99 : decode cX11_store 99 = .ok (.aload_n 0, 1) := by decide +kernel
theorem dX11_store_100 : decode cX11_store 100 = .ok (.aload_n 2, 1) := by decide +kernel
theorem dX11_store_101 : decode cX11_store 101 = .ok (.putfield 27, 3) := by decide +kernel
theorem dX11_store_104 : decode cX11_store 104 = .ok (.aload_n 0, 1) := by decide +kernel
theorem dX11_store_105 : decode cX11_store 105 = .ok (.getfield 23, 3) := by decide +kernel
theorem dX11_store_108 : decode cX11_store 108 = .ok (.dup, 1) := by decide +kernel
theorem dX11_store_109 : decode cX11_store 109 = .ok (.getfield 95, 3) := by decide +kernel
theorem dX11_store_112 : decode cX11_store 112 = .ok (.iconst 1, 1) := by decide +kernel
theorem dX11_store_113 : decode cX11_store 113 = .ok (.iadd, 1) := by decide +kernel
theorem dX11_store_114 : decode cX11_store 114 = .ok (.putfield 95, 3) := by decide +kernel
theorem dX11_store_117 : decode cX11_store 117 = .ok (.aload_n 0, 1) := by decide +kernel
theorem dX11_store_118 : decode cX11_store 118 = .ok (.invokevirtual 101, 3) := by decide +kernel
theorem dX11_store_121 : decode cX11_store 121 = .ok (.aload_n 0, 1) := by decide +kernel
theorem dX11_store_122 : decode cX11_store 122 = .ok (.getfield 23, 3) := by decide +kernel
theorem dX11_store_125 : decode cX11_store 125 = .ok (.getfield 95, 3) := by decide +kernel
theorem dX11_store_128 : decode cX11_store 128 = .ok (.ireturn, 1) := by decide +kernel
set_option maxHeartbeats 4000000 in
set_option maxRecDepth 100000 in
theorem ct_X11_store {E : xE} {z : Nat} {T : Nat → Nat × Int} {F : Nat → Nat → Int} {I : Nat → Int → Int} {P : Nat → Nat → Option Nat} {Y : Nat → Int → Option Nat} {o m : Nat} {ws : Nat → Option wWo} (hL : LK T F I P Y o m z ws) (hT : ∀ j : Int, 0 ≤ j → j < 400 → 0 ≤ I (o + 1) j ∧ I (o + 1) j ≤ 255) (he : 0 ≤ F o 1 ∧ F o 1 ≤ 400) {qS v0 : Nat} (hSt : ∀ u : State, E.2.2.2.2 u → oStr E.2.2.2.1 qS v0 zTx u) {sio : Option Nat} (hZ : ∀ u : State, E.2.2.2.2 u → oSts E.2.2.2.1 sio u) {tx : String} (hR : ∀ u : State, E.2.2.2.2 u → vk_R RX7 52 tx qS u) {a b : Nat} {w : wWo} (h3 : P o 3 = some a) (h4 : P o 4 = some b) (hu : ws 0 = some w) {w' : wWo} (hg : gSto (I (o + 1)) (F o 1) w = .inr w') (hx : w 1 < 12) : Ct E 7 mX11_store 0 0 [.ref o] (z, T, F, I, P, Y) (xAl o m z T F I P Y (some (J (w 1 + 1))) (wsU (fun s => wsU (wsU ws 1 (some w)) 1 (some w') (uSw 0 1 s)) 0 (some (wS w' 1 (w 1 + 1)))) 0 (-1) 0 0) := by
  have h1 : (T o).1 = 12 := hL.1.1
  obtain ⟨-, ⟨p0, t01, t02⟩, -, ⟨p9, hScn⟩, ⟨p10, hSrd⟩, ⟨p11, hLrd⟩, -⟩ := id hL.1
  obtain ⟨hS, hI, ka⟩ := hL.liv (s := 0) (by decide) h3 hu
  have kb : (T b).1 = 9 := (hL.2.2.1 1 b (by decide) h4).1.1.1
  have lb := hL.2.1.1 1 b (by decide) h4
  have kr : (T (o + 121)).1 = 10 := hSrd.1
  refine Ct.of [some (.ref o), none, none] kt_X11_store rfl (Nat.le_of_ble_eq_true rfl) rfl (fun d hd => ?_)
  generalize hX : xN E _ _ _ = X
  refine xg_aloadn 1 dX11_store_0 rfl rfl rfl ?_
  refine xg_getP 4 kf_RX11_46 dX11_store_1 rfl h1 p9 ?_
  refine xg_aloadn 5 dX11_store_4 rfl rfl rfl ?_
  refine xg_getP 8 kf_RX11_9 dX11_store_5 rfl h1 p0 ?_
  refine xg_aloadn 9 dX11_store_8 rfl rfl rfl ?_
  refine xg_getI 12 kf_RX11_13 dX11_store_9 rfl h1 ?_
  skip
  refine xg_callVe 15 7 [_, _] _ kv_X7_open ⟨_, _, rfl⟩ kl_RX11_77 dX11_store_12 rfl hScn.1 (by omega) rfl rfl (Nat.le_of_ble_eq_true rfl) (by omega) ⟨Nat.le_refl _, Nat.le_refl _⟩ (ct_X7_open hScn ⟨t01, t02⟩ hT he (by omega) hSt hZ hR) rfl (fun v9 h9 e9 => ?_)
  obtain ⟨rfl, F2, I2, N2, rfl, hk2, ⟨h42, h52⟩, hF2, hI2⟩ := e9
  obtain ⟨K2, M2⟩ := hL.opn hF2 (fun b hb => hI2 b (by omega))
  refine xg_aloadn 16 dX11_store_15 rfl rfl rfl ?_
  refine xg_iconst 17 dX11_store_16 rfl ?_
  refine xg_putI 20 kf_RX11_13 dX11_store_17 rfl h1 ?_
  refine xg_aloadn 21 dX11_store_20 rfl rfl rfl ?_
  refine xg_getP 24 kf_RX11_27 dX11_store_21 rfl h1 h4 ?_
  refine xg_aloadn 25 dX11_store_24 rfl rfl rfl ?_
  refine xg_getP 28 kf_RX11_23 dX11_store_25 rfl h1 h3 ?_
  refine xg_callVe 31 8 [_] _ kv_X8_copyFrom ⟨_, _, rfl⟩ kl_RX11_81 dX11_store_28 rfl kb (by omega) rfl rfl (Nat.le_of_ble_eq_true rfl) (by omega) ⟨Nat.le_refl _, Nat.le_refl _⟩ ((K2.cpy (s0 := 1) (s1 := 0) (by decide) (by decide) (by decide) h4 h3 hu).1) rfl (fun v9 h9 e9 => ?_)
  obtain ⟨rfl, F9, I9, P9, rfl, hS9, hF9, h169⟩ := e9
  obtain ⟨c1, c2, c3, c4, c5⟩ := K2.copy (s0 := 1) (s1 := 0) (by decide) (by decide) (by decide) h4 h3 hu hS9 hI hF9 h169
  have r4 : P9 o 4 = some b := by rw [c2]; exact h4
  have r10 : P9 o 10 = some (o + 121) := by rw [c2]; exact p10
  obtain ⟨-, -, -, ⟨-, hScn9⟩, ⟨-, hSrd9⟩, -⟩ := id c1.1
  have sb9 : lSl o P9 Y 1 = some b := r4
  have hk9 : zTok (I (o + 1)) (F o 1) F9 I9 (o + 117) N2 := hk2.fw (by rw [(hF9 (o + 117) (by omega)).1, upF_na _ _ _ _ (by omega)]) (fun x x0 x1 => (hF9 x (by omega)).2.1)
  have hA9 : cAt (I (o + 1)) (F o 1) F9 I9 (o + 117) N2 0 (zB (I (o + 1)) (F o 1) 0) := ⟨hk9, by rw [(hF9 (o + 117) (by omega)).1, upF_na _ _ _ _ (by omega)]; exact h42, by rw [(hF9 (o + 117) (by omega)).1, upF_na _ _ _ _ (by omega)]; exact h52, Nat.zero_le _, rfl⟩
  refine xg_aloadn 32 dX11_store_31 rfl rfl rfl ?_
  refine xg_getP 35 kf_RX11_55 dX11_store_32 rfl h1 r10 ?_
  refine xg_aloadn 36 dX11_store_35 rfl rfl rfl ?_
  refine xg_getP 39 kf_RX11_27 dX11_store_36 rfl h1 r4 ?_
  refine xg_callVe 42 9 [_] _ kv_X9_readInto ⟨_, _, rfl⟩ kl_RX11_85 dX11_store_39 rfl kr (by omega) rfl rfl (Nat.le_of_ble_eq_true rfl) (by omega) ⟨Nat.le_refl _, Nat.le_refl _⟩ (ct_X9_readInto hScn9 hT he hA9 hSrd9 (by omega) c1.2.2.2.2.1 hS9 hI (c1.far (by decide) sb9) rfl) rfl (fun v9 h9 e9 => ?_)
  rw [hg] at e9
  obtain ⟨rfl, F3, I3, P3, Y3, h53, hg3, hS3, hD3, rfl⟩ := e9
  have hW3 := gSto_ok hg hI
  obtain ⟨K3, g2, g3, g4, g5, g6⟩ := c1.act2 (s0 := 1) (x' := some w') (by decide) sb9 hS3.sw (fun u hu => by cases hu; exact ⟨hS3, hW3.1⟩) hD3 hg3
  have r93 : P3 o 9 = some (o + 117) := by rw [g2, c2]; exact p9
  have r33 : P3 o 3 = some a := by rw [g2, c2]; exact h3
  have r43 : P3 o 4 = some b := by rw [g2]; exact r4
  have u3 : wsU (wsU ws 1 (some w)) 1 (some w') 0 = some w := hu
  have hS30 := (K3.liv (s := 0) (by decide) r33 u3).1
  obtain ⟨-, -, ⟨π0, -, ⟨hSc0, -⟩, -⟩, -⟩ := id hS30
  obtain ⟨-, -, ⟨π1, -, ⟨hSc1, -⟩, -⟩, -⟩ := id hS3
  have a15 : F3 a 15 = w 1 := hSc0.2.2.2.2.2.2.2
  have b15 : F3 b 15 = w 1 := hSc1.2.2.2.2.2.2.2.trans hW3.2
  have la := hL.2.1.1 0 a (by decide) h3
  have s3 : upP (upP P3 o 3 (some b)) o 4 (some a) o 3 = some b := by rw [upP_nk _ _ _ _ (by decide), upP_at]
  have w1b := hI.1.1.1.2.2.1
  refine xg_istoren 43 _ dX11_store_42 rfl rfl rfl (by decide) (Or.inr rfl) ?_
  refine xg_aloadn 44 dX11_store_43 rfl rfl rfl ?_
  refine xg_aloadn 45 dX11_store_44 rfl rfl rfl ?_
  refine xg_getP 48 kf_RX11_46 dX11_store_45 rfl h1 r93 ?_
  refine xg_getI 51 kf_RX11_89 dX11_store_48 rfl hScn.1 ?_
  refine xg_putI 54 kf_RX11_17 dX11_store_51 rfl h1 ?_
  refine xg_iloadn 55 dX11_store_54 rfl rfl rfl ?_
  refine xg_ifne 66 58 dX11_store_55 rfl rfl (by omega) (fun hb55 => ?_) (fun hb55 => ?_)
  · skip
    refine xg_aloadn 67 dX11_store_66 rfl rfl rfl ?_
    refine xg_getP 70 kf_RX11_23 dX11_store_67 rfl h1 r33 ?_
    refine xg_getI 73 kf_RX11_95 dX11_store_70 rfl ka ?_
    rw [upF_na _ _ _ _ (show a ≠ o by omega), a15]
    refine xg_bipush 75 dX11_store_73 rfl (by decide) ?_
    refine xg_iclt 86 78 dX11_store_75 rfl rfl (by omega) (fun hb75 => ?_) (fun hb75 => ?_)
    · skip
      refine xg_aloadn 87 dX11_store_86 rfl rfl rfl ?_
      refine xg_getP 90 kf_RX11_23 dX11_store_87 rfl h1 r33 ?_
      refine xg_astoren 91 _ dX11_store_90 rfl rfl rfl (by decide) (Or.inr rfl) ?_
      refine xg_aloadn 92 dX11_store_91 rfl rfl rfl ?_
      refine xg_aloadn 93 dX11_store_92 rfl rfl rfl ?_
      refine xg_getP 96 kf_RX11_27 dX11_store_93 rfl h1 r43 ?_
      refine xg_putO 99 kf_RX11_23 dX11_store_96 rfl h1 (show _ = va_rf (some b) from rfl) ?_
      refine xg_aloadn 100 dX11_store_99 rfl rfl rfl ?_
      refine xg_aloadn 101 dX11_store_100 rfl rfl rfl ?_
      refine xg_putO 104 kf_RX11_27 dX11_store_101 rfl h1 (show _ = va_rf (some a) from rfl) ?_
      refine xg_aloadn 105 dX11_store_104 rfl rfl rfl ?_
      refine xg_getP 108 kf_RX11_23 dX11_store_105 rfl h1 s3 ?_
      refine xg_dup 109 dX11_store_108 rfl rfl ?_
      refine xg_getI 112 kf_RX11_95 dX11_store_109 rfl kb ?_
      refine xg_iconst 113 dX11_store_112 rfl ?_
      rw [upF_na _ _ _ _ (show b ≠ o by omega), b15]
      refine xg_iadd 114 dX11_store_113 rfl ?_
      refine xg_putI 117 kf_RX11_95 dX11_store_114 rfl kb ?_
      refine xg_aloadn 118 dX11_store_117 rfl rfl rfl ?_
      refine xg_callV 121 11 [] _ kv_X11_forgetActs ⟨_, _, rfl⟩ kl_RX11_101 dX11_store_118 rfl h1 (by omega) rfl rfl (Nat.le_of_ble_eq_true rfl) (by omega) ⟨Nat.le_refl _, Nat.le_refl _⟩ (ct_X11_forgetActs h1) rfl ?_
      refine xg_aloadn 122 dX11_store_121 rfl rfl rfl ?_
      refine xg_getP 125 kf_RX11_23 dX11_store_122 rfl h1 s3 ?_
      refine xg_getI 128 kf_RX11_95 dX11_store_125 rfl kb ?_
      subst hX
      refine xg_ireturn dX11_store_128 rfl ⟨Nat.le_refl _, Nat.le_refl _⟩ ?_
      obtain ⟨K4, M4⟩ := K3.perm (σ := uSw 0 1) (P2 := upP (upP P3 o 3 (some b)) o 4 (some a)) (Y2 := Y3) (uSw_lt (by decide) (by decide)) (fun s s' _ _ e => uSw_inj e) (fun s hs9 => by
        unfold uSw
        by_cases e1 : s = 0
        · subst e1; rw [if_pos rfl]; exact s3.trans r43.symm
        · rw [if_neg e1]
          by_cases e2 : s = 1
          · subst e2; rw [if_pos rfl]; exact (upP_at _ _ _ _).trans r33.symm
          · rw [if_neg e2]; unfold lSl
            by_cases e4 : s = 2
            · subst e4; exact (upP_nk _ _ _ _ (by decide)).trans (upP_nk _ _ _ _ (by decide))
            · rw [if_neg e1, if_neg e2, if_neg e4, if_neg e1, if_neg e2, if_neg e4]) (fun b hb => by rw [upP_na _ _ _ _ hb, upP_na _ _ _ _ hb]) (fun k hk hk2 _ => by rw [upP_nk _ _ _ _ hk2, upP_nk _ _ _ _ hk]) (fun _ _ => rfl)
      obtain ⟨K5, M5⟩ := K4.fr (F' := upF F3 o 2 (F3 (o + 117) 5)) (I' := I3) (fun b hb => upF_na _ _ _ _ (by omega)) (fun _ _ => rfl) K4.2.2.2.2.1
      obtain ⟨hS5, hI5, -⟩ := K5.liv (s := 0) (u := w') (by decide) s3 rfl
      have hS6 := hS5.sc (k := 15) (i := 1) (v := w 1 + 1) (by omega) (by unfold wCell; omega)
      have hI6 : wI2 (wS w' 1 (w 1 + 1)) := wI2_no hI5 (by omega) (by unfold wCell; omega)
      obtain ⟨K6, g26, g36, g46, g56, M6⟩ := K5.act (s0 := 0) (by decide) s3 hS6 hI6 (SF.uF ⟨Nat.le_refl _, by omega⟩)
      obtain ⟨K7, M7⟩ := K6.fr (F' := upF (upF (upF (upF F3 o 2 (F3 (o + 117) 5)) b 15 (w 1 + 1)) o 7 0) o 8 0) (I' := I3) (fun b hb => by rw [upF_na _ _ _ _ (by omega), upF_na _ _ _ _ (by omega)]) (fun _ _ => rfl) K6.2.2.2.2.1
      have hob : o ≠ b := by omega
      refine ⟨?_, _, _, _, _, _, _, rfl, Nat.le_refl _, K7, ⟨⟨a, upP_at _ _ _ _⟩, ?_⟩, ⟨?_, ?_, ?_, ?_⟩, ?_, (((M2.tr c5).tr g6).tr M4).tr ((M5.tr M6).tr M7)⟩
      · rw [upF_na _ _ _ _ (fun q => hob q.symm), upF_na _ _ _ _ (fun q => hob q.symm), upF_at]
      · rw [upP_nk _ _ _ _ (by decide), upP_nk _ _ _ _ (by decide), g2, c2]
      · rw [upF_nk _ _ _ _ (by decide), upF_nk _ _ _ _ (by decide), upF_na _ _ _ _ hob, upF_nk _ _ _ _ (by decide), g3, c3, upF_at]
      · rw [upF_nk _ _ _ _ (by decide), upF_nk _ _ _ _ (by decide), upF_na _ _ _ _ hob, upF_at, h53]
      · rw [upF_nk _ _ _ _ (by decide), upF_at]
      · rw [upF_at]
      · exact g4.trans (c4.trans (hI2 (o + 1) (by omega)))
    · exfalso; omega
  · exfalso; omega

