/-! a store's world stands where nothing of the store is touched -/
section FR
variable {T T' : Nat → Nat × Int} {F F' : Nat → Nat → Int} {I I' : Nat → Int → Int} {P P' : Nat → Nat → Option Nat} {Y Y' : Nat → Int → Option Nat} {a : Nat} {w : Int → Int}
theorem wRow.fr {b : Nat} (h : wRow T P b) (hT : ∀ c : Nat, b ≤ c → c < b + 3 → T' c = T c) (hP : P' b = P b) : wRow T' P' b := by
  unfold wRow at h ⊢
  rw [hP, hT b (by omega) (by omega), hT (b + 1) (by omega) (by omega), hT (b + 2) (by omega) (by omega)]; exact h
theorem wSt.fr (h : wSt T P a) (hT : ∀ b : Nat, a ≤ b → b < a + 57 → T' b = T b ∧ P' b = P b) : wSt T' P' a := by
  obtain ⟨w1, wR, w2, w3, w4, w5, w6⟩ := h
  have eT : ∀ b : Nat, a ≤ b → b < a + 57 → T' b = T b := fun b b0 b1 => (hT b b0 b1).1
  have eP : ∀ b : Nat, a ≤ b → b < a + 57 → P' b = P b := fun b b0 b1 => (hT b b0 b1).2
  unfold wLev at w3
  unfold wJou at w5
  refine ⟨?_, fun i hi => (wR i hi).fr (fun c c0 c1 => eT c (by omega) (by omega)) (eP _ (by omega) (by omega)), ?_, ?_, ?_, ?_, ?_⟩
  · simp (disch := omega) only [eT, eP]; exact w1
  · simp (disch := omega) only [eT, eP]; exact w2
  · unfold wLev; simp (disch := omega) only [eT, eP]; exact w3
  · simp (disch := omega) only [eT, eP]; exact w4
  · unfold wJou; simp (disch := omega) only [eT, eP]; exact w5
  · simp (disch := omega) only [eT, eP]; exact w6
theorem wPm.fr {π : Nat → Nat} (h : wPm P Y a π) (hP : P' a = P a) (hY : Y' (a + 1) = Y (a + 1)) : wPm P' Y' a π := by
  unfold wPm at h ⊢
  rw [hP, hY]; exact h
/-- nothing of the store at a, nor of its law, differs -/
def sSame (a : Nat) (T : Nat → Nat × Int) (F : Nat → Nat → Int) (I : Nat → Int → Int) (P : Nat → Nat → Option Nat) (Y : Nat → Int → Option Nat) (T' : Nat → Nat × Int) (F' : Nat → Nat → Int) (I' : Nat → Int → Int) (P' : Nat → Nat → Option Nat) (Y' : Nat → Int → Option Nat) : Prop :=
  (∀ b : Nat, a ≤ b → b < a + 57 → T' b = T b ∧ F' b = F b ∧ I' b = I b ∧ P' b = P b ∧ Y' b = Y b) ∧ ∀ l, P a 16 = some l → ∀ b : Nat, l ≤ b → b < l + 6 → T' b = T b ∧ F' b = F b ∧ (b ≠ l + 5 → I' b = I b) ∧ P' b = P b
theorem SR.fr (h : SR T F I P Y a w) (he : sSame a T F I P Y T' F' I' P' Y') : SR T' F' I' P' Y' a w := by
  obtain ⟨h1, h2, ⟨π, ⟨⟨g1, g2⟩, ⟨gs, gt, gj⟩, gr, gb, go, gJ⟩⟩, hv, hl⟩ := h
  obtain ⟨e1, e2⟩ := he
  have eF : ∀ b : Nat, a ≤ b → b < a + 57 → F' b = F b := fun b b0 b1 => (e1 b b0 b1).2.1
  have eI : ∀ b : Nat, a ≤ b → b < a + 57 → I' b = I b := fun b b0 b1 => (e1 b b0 b1).2.2.1
  have eP : ∀ b : Nat, a ≤ b → b < a + 57 → P' b = P b := fun b b0 b1 => (e1 b b0 b1).2.2.2.1
  have hp := g2.2.2.2.1
  refine ⟨h1, ?_, ⟨π, ⟨g1.fr (fun b b0 b1 => ⟨(e1 b b0 b1).1, eP b b0 b1⟩), g2.fr (eP a (by omega) (by omega)) (e1 (a + 1) (by omega) (by omega)).2.2.2.2⟩, ⟨?_, ?_, ?_⟩, fun r hr => ?_, ?_, ?_, ?_⟩, ?_, ?_⟩
  · rcases h2 with ⟨q1, q2⟩ | ⟨l, q1, q2, q3⟩
    · exact Or.inl ⟨by rw [eP a (by omega) (by omega)]; exact q1, q2⟩
    · refine Or.inr ⟨l, by rw [eP a (by omega) (by omega)]; exact q1, ?_, q3⟩
      have e3 := e2 l q1
      unfold rLaw at q2 ⊢
      rw [(e3 l (by omega) (by omega)).1, (e3 (l + 1) (by omega) (by omega)).1, (e3 (l + 2) (by omega) (by omega)).1, (e3 (l + 3) (by omega) (by omega)).1, (e3 (l + 4) (by omega) (by omega)).1, (e3 (l + 5) (by omega) (by omega)).1,
        (e3 l (by omega) (by omega)).2.1, (e3 l (by omega) (by omega)).2.2.2, (e3 (l + 1) (by omega) (by omega)).2.2.1 (by omega), (e3 (l + 2) (by omega) (by omega)).2.2.1 (by omega), (e3 (l + 3) (by omega) (by omega)).2.2.1 (by omega), (e3 (l + 4) (by omega) (by omega)).2.2.1 (by omega)]
      exact q2
  · unfold rSc; rw [eF a (by omega) (by omega)]; exact gs
  · unfold rTl; rw [eF (a + 50) (by omega) (by omega)]; exact gt
  · unfold rJb; rw [eF (a + 44) (by omega) (by omega)]; exact gj
  · have := h1.1.2.1
    have := hp r (by omega)
    exact (gr r hr).heap (eF _ (by omega) (by omega)) (eI _ (by omega) (by omega)) (eI _ (by omega) (by omega))
  · have := hp 12 (by omega)
    exact gb.heap (eF _ (by omega) (by omega)) (eI _ (by omega) (by omega)) (eI _ (by omega) (by omega))
  · have := hp 13 (by omega)
    exact go.heap (eF _ (by omega) (by omega)) (eI _ (by omega) (by omega)) (eI _ (by omega) (by omega))
  · exact gJ.heap (eF _ (by omega) (by omega)) (fun c hc => eI _ (by omega) (by omega))
  · exact hv.heap (eF _ (by omega) (by omega)) (eI _ (by omega) (by omega)) (eI _ (by omega) (by omega)) (eI _ (by omega) (by omega)) (eI _ (by omega) (by omega))
  · rw [eF (a + 44) (by omega) (by omega)]; exact hl
end FR
section CHO
variable {E : xE} {M M' : xM} {X : xX} {pc : Nat} {L : List (Option Value)} {st rest : List Value} {z : Nat} {T : Nat → Nat × Int} {F : Nat → Nat → Int} {I I' : Nat → Int → Int} {P : Nat → Nat → Option Nat} {Y : Nat → Int → Option Nat} {c n d mc ms k' i a : Nat} {w w' : Int → Int}
theorem xg_callVe {b : Nat} {post : Option Value → xH → Prop} (q : Nat) (ci : Nat) (As rest : List Value) (hM : xMv M') (hci : ∃ (Tt : u_T) (N : Nat), vwCl[ci]? = some (M'.1.cls, Tt, N)) (hl : Cond.methodLink M.1.cls i M'.1 ∈ xT) (d0 : decode M.2.1 pc = .ok (.invokevirtual i, 3)) (hq : pc + 3 = q) (hk : (T b).1 = ci + 1) (hci2 : ci ≤ 12)
    (hn : As.length = M'.2.2.2.2) (hst : st = As.reverse ++ .ref b :: rest) (hsum : (rest.map fun v => v.category).sum ≤ 8) (hd : k' + 1 ≤ d) (hc : c ≤ mc ∧ n ≤ ms) (ct : Ct E k' M' 0 0 (.ref b :: As) (z, T, F, I, P, Y) post) (_ : (0 : Nat) = 0)
    (kk : ∀ v h', post v h' → xG E M (xR d mc ms) X q L (v.toList ++ rest) h' c n) : xG E M (xR d mc ms) X pc L st (z, T, F, I, P, Y) c n :=
  xg_callV0 q hM hci hl d0 hq hk hci2 hn hst hsum hd (by simpa using hc) ct (fun v h' e => kk v h' e)
/-- nothing but the rows of the choices at c is new -/
def cFr (c : Nat) (I I' : Nat → Int → Int) : Prop := ∀ b : Nat, b < c ∨ c + 39 ≤ b → I' b = I b
theorem cFr.rf : cFr c I I := fun _ _ => rfl
theorem cFr.up (h : cFr c I I') {x : Nat} (hx : c ≤ x ∧ x < c + 39) (k v : Int) : cFr c I (upI I' x k v) := fun b hb => by rw [upI_na _ _ _ _ (by omega)]; exact h b hb
theorem cFr.tr {I2 : Nat → Int → Int} (h : cFr c I I') (h2 : cFr c I' I2) : cFr c I I2 := fun b hb => (h2 b hb).trans (h b hb)
/-- the leads of all stretches of fewer than k runs, and of those of k that begin ahead of f0 -/
def pLd (w : Int → Int) (I : Nat → Int → Int) (c k f0 : Nat) : Prop := ∀ l f : Nat, 1 ≤ l → (f : Int) + l ≤ w 0 → (l < k ∨ (l = k ∧ f < f0)) → I (c + 1 + 1 + f) ((f : Int) + l - 1) = sAh w l f
theorem pLd.at {k f0 : Nat} (h : pLd w I c k f0) {l f : Nat} {j : Int} (h1 : 1 ≤ l) (hj : j = (f : Int) + l - 1) (h2 : (f : Int) + l ≤ w 0) (h3 : l < k ∨ (l = k ∧ f < f0)) : I (c + 1 + 1 + f) j = sAh w l f := by subst hj; exact h l f h1 h2 h3
theorem pLd.S {k f : Nat} (h : pLd w I c k f) {j v : Int} (hj : j = (f : Int) + k - 1) (hv : v = sAh w k f) : pLd w (upI I (c + 1 + 1 + f) j v) c k (f + 1) := by
  intro l g h1 h2 h3
  by_cases e : g = f
  · subst e
    by_cases e2 : l = k
    · subst e2; rw [hj, upI_at]; exact hv
    · rw [upI_nk _ _ _ _ (by omega)]; exact h l g h1 h2 (by omega)
  · rw [upI_na _ _ _ _ (by omega)]; exact h l g h1 h2 (by omega)
theorem pLd.nx {k f : Nat} (h : pLd w I c k f) (hf : w 0 < (f : Int) + k) : pLd w I c (k + 1) 0 := fun l g h1 h2 h3 => h l g h1 h2 (by omega)
theorem sAh_1 (w : Int → Int) (f : Nat) : max (sE w (f : Int)) (sE w (f : Int)) = sAh w 1 (f : Int) := by
  rw [sAh, sAh, sAh]
  simp
theorem sAh_k (w : Int → Int) {k f : Nat} (hk : 2 ≤ k) : max (sE w (f : Int) - sAh w (k - 1) ((f + 1 : Nat) : Int)) (sE w ((f + k - 1 : Nat) : Int) - sAh w (k - 1) (f : Int)) = sAh w k (f : Int) := by
  obtain ⟨l, rfl⟩ : ∃ l, k = l + 1 := ⟨k - 1, by omega⟩
  rw [sAh, show l + 1 - 1 = l by omega, show ((f + 1 : Nat) : Int) = (f : Int) + 1 by omega, show ((f + (l + 1) - 1 : Nat) : Int) = (f : Int) + (l : Int) by omega]
def xLd (c : Nat) (r : Option Value) (z : Nat) (T : Nat → Nat × Int) (F : Nat → Nat → Int) (I : Nat → Int → Int) (P : Nat → Nat → Option Nat) (Y : Nat → Int → Option Nat) (w : Int → Int) : Option Value → xH → Prop := fun v h' => v = r ∧ ∃ I' : Nat → Int → Int, h' = (z, T, F, I', P, Y) ∧ cFr c I I' ∧ pLd w I' c 13 0
def xCh (c : Nat) (r : Option Value) (z : Nat) (T : Nat → Nat × Int) (F : Nat → Nat → Int) (I : Nat → Int → Int) (P : Nat → Nat → Option Nat) (Y : Nat → Int → Option Nat) : Option Value → xH → Prop := fun v h' => v = r ∧ ∃ I' : Nat → Int → Int, h' = (z, T, F, I', P, Y) ∧ cFr c I I'
theorem sE_bd (w : Int → Int) (r : Int) : 0 ≤ sE w r ∧ sE w r ≤ 60 := sEnt_bd w _
end CHO

theorem dX0_leadOfTurns_0 : decode cX0_leadOfTurns 0 = .ok (.bipush 12, 2) := by decide +kernel
theorem dX0_leadOfTurns_2 : decode cX0_leadOfTurns 2 = .ok (.aload_n 1, 1) := by decide +kernel
theorem dX0_leadOfTurns_3 : decode cX0_leadOfTurns 3 = .ok (.getfield 32, 3) := by decide +kernel
theorem dX0_leadOfTurns_6 : decode cX0_leadOfTurns 6 = .ok (.invokestatic 38, 3) := by decide +kernel
theorem dX0_leadOfTurns_9 : decode cX0_leadOfTurns 9 = .ok (.istore_n 2, 1) := by decide +kernel
theorem dX0_leadOfTurns_10 : decode cX0_leadOfTurns 10 = .ok (.iload_n 2, 1) := by decide +kernel
theorem dX0_leadOfTurns_11 : decode cX0_leadOfTurns 11 = .ok (.ifCond .gt 5, 3) := by decide +kernel
theorem dX0_leadOfTurns_14 : decode cX0_leadOfTurns 14 = .ok (.iconst 0, 1) := by decide +kernel
theorem dX0_leadOfTurns_15 : decode cX0_leadOfTurns 15 = .ok (.ireturn, 1) := by decide +kernel
theorem dX0_leadOfTurns_16 : decode cX0_leadOfTurns 16 = .ok (.iconst 1, 1) := by decide +kernel
theorem dX0_leadOfTurns_17 : decode cX0_leadOfTurns 17 = .ok (.istore_n 3, 1) := by decide +kernel
theorem dX0_leadOfTurns_18 : decode cX0_leadOfTurns 18 = .ok (.iload_n 3, 1) := by decide +kernel
theorem dX0_leadOfTurns_19 : decode cX0_leadOfTurns 19 = .ok (.iload_n 2, 1) := by decide +kernel
theorem dX0_leadOfTurns_20 : decode cX0_leadOfTurns 20 = .ok (.if_icmp .gt 114, 3) := by decide +kernel
theorem dX0_leadOfTurns_23 : decode cX0_leadOfTurns 23 = .ok (.iconst 0, 1) := by decide +kernel
theorem dX0_leadOfTurns_24 : decode cX0_leadOfTurns 24 = .ok (.istore 4, 2) := by decide +kernel
theorem dX0_leadOfTurns_26 : decode cX0_leadOfTurns 26 = .ok (.iload 4, 2) := by decide +kernel
theorem dX0_leadOfTurns_28 : decode cX0_leadOfTurns 28 = .ok (.iload_n 3, 1) := by decide +kernel
theorem dX0_leadOfTurns_29 : decode cX0_leadOfTurns 29 = .ok (.iadd, 1) := by decide +kernel
theorem dX0_leadOfTurns_30 : decode cX0_leadOfTurns 30 = .ok (.iload_n 2, 1) := by decide +kernel
theorem dX0_leadOfTurns_31 : decode cX0_leadOfTurns 31 = .ok (.if_icmp .gt 97, 3) := by decide +kernel
theorem dX0_leadOfTurns_34 : decode cX0_leadOfTurns 34 = .ok (.iload 4, 2) := by decide +kernel
theorem dX0_leadOfTurns_36 : decode cX0_leadOfTurns 36 = .ok (.iload_n 3, 1) := by decide +kernel
theorem dX0_leadOfTurns_37 : decode cX0_leadOfTurns 37 = .ok (.iadd, 1) := by decide +kernel
theorem dX0_leadOfTurns_38 : decode cX0_leadOfTurns 38 = .ok (.iconst 1, 1) := by decide +kernel
theorem dX0_leadOfTurns_39 : decode cX0_leadOfTurns 39 = .ok (.isub, 1) := by decide +kernel
theorem dX0_leadOfTurns_40 : decode cX0_leadOfTurns 40 = .ok (.istore 5, 2) := by decide +kernel
theorem dX0_leadOfTurns_42 : decode cX0_leadOfTurns 42 = .ok (.aload_n 1, 1) := by decide +kernel
theorem dX0_leadOfTurns_43 : decode cX0_leadOfTurns 43 = .ok (.getfield 44, 3) := by decide +kernel
theorem dX0_leadOfTurns_46 : decode cX0_leadOfTurns 46 = .ok (.iload 4, 2) := by decide +kernel
theorem dX0_leadOfTurns_48 : decode cX0_leadOfTurns 48 = .ok (.aaload, 1) := by decide +kernel
theorem dX0_leadOfTurns_49 : decode cX0_leadOfTurns 49 = .ok (.getfield 48, 3) := by decide +kernel
theorem dX0_leadOfTurns_52 : decode cX0_leadOfTurns 52 = .ok (.istore 6, 2) := by decide +kernel
theorem dX0_leadOfTurns_54 : decode cX0_leadOfTurns 54 = .ok (.aload_n 1, 1) := by decide +kernel
theorem dX0_leadOfTurns_55 : decode cX0_leadOfTurns 55 = .ok (.getfield 44, 3) := by decide +kernel
theorem dX0_leadOfTurns_58 : decode cX0_leadOfTurns 58 = .ok (.iload 5, 2) := by decide +kernel
theorem dX0_leadOfTurns_60 : decode cX0_leadOfTurns 60 = .ok (.aaload, 1) := by decide +kernel
theorem dX0_leadOfTurns_61 : decode cX0_leadOfTurns 61 = .ok (.getfield 48, 3) := by decide +kernel
theorem dX0_leadOfTurns_64 : decode cX0_leadOfTurns 64 = .ok (.istore 7, 2) := by decide +kernel
theorem dX0_leadOfTurns_66 : decode cX0_leadOfTurns 66 = .ok (.iload_n 3, 1) := by decide +kernel
theorem dX0_leadOfTurns_67 : decode cX0_leadOfTurns 67 = .ok (.iconst 1, 1) := by decide +kernel
theorem dX0_leadOfTurns_68 : decode cX0_leadOfTurns 68 = .ok (.if_icmp .le 37, 3) := by decide +kernel
theorem dX0_leadOfTurns_71 : decode cX0_leadOfTurns 71 = .ok (.iload 6, 2) := by decide +kernel
theorem dX0_leadOfTurns_73 : decode cX0_leadOfTurns 73 = .ok (.aload_n 0, 1) := by decide +kernel
theorem dX0_leadOfTurns_74 : decode cX0_leadOfTurns 74 = .ok (.getfield 11, 3) := by decide +kernel
theorem dX0_leadOfTurns_77 : decode cX0_leadOfTurns 77 = .ok (.iload 4, 2) := by decide +kernel
theorem dX0_leadOfTurns_79 : decode cX0_leadOfTurns 79 = .ok (.iconst 1, 1) := by decide +kernel
theorem dX0_leadOfTurns_80 : decode cX0_leadOfTurns 80 = .ok (.iadd, 1) := by decide +kernel
theorem dX0_leadOfTurns_81 : decode cX0_leadOfTurns 81 = .ok (.aaload, 1) := by decide +kernel
theorem dX0_leadOfTurns_82 : decode cX0_leadOfTurns 82 = .ok (.iload 5, 2) := by decide +kernel
theorem dX0_leadOfTurns_84 : decode cX0_leadOfTurns 84 = .ok (.iaload, 1) := by decide +kernel
theorem dX0_leadOfTurns_85 : decode cX0_leadOfTurns 85 = .ok (.isub, 1) := by decide +kernel
theorem dX0_leadOfTurns_86 : decode cX0_leadOfTurns 86 = .ok (.istore 6, 2) := by decide +kernel
theorem dX0_leadOfTurns_88 : decode cX0_leadOfTurns 88 = .ok (.iload 7, 2) := by decide +kernel
theorem dX0_leadOfTurns_90 : decode cX0_leadOfTurns 90 = .ok (.aload_n 0, 1) := by decide +kernel
theorem dX0_leadOfTurns_91 : decode cX0_leadOfTurns 91 = .ok (.getfield 11, 3) := by decide +kernel
theorem dX0_leadOfTurns_94 : decode cX0_leadOfTurns 94 = .ok (.iload 4, 2) := by decide +kernel
theorem dX0_leadOfTurns_96 : decode cX0_leadOfTurns 96 = .ok (.aaload, 1) := by decide +kernel
theorem dX0_leadOfTurns_97 : decode cX0_leadOfTurns 97 = .ok (.iload 5, 2) := by decide +kernel
theorem dX0_leadOfTurns_99 : decode cX0_leadOfTurns 99 = .ok (.iconst 1, 1) := by decide +kernel
theorem dX0_leadOfTurns_100 : decode cX0_leadOfTurns 100 = .ok (.isub, 1) := by decide +kernel
theorem dX0_leadOfTurns_101 : decode cX0_leadOfTurns 101 = .ok (.iaload, 1) := by decide +kernel
theorem dX0_leadOfTurns_102 : decode cX0_leadOfTurns 102 = .ok (.isub, 1) := by decide +kernel
theorem dX0_leadOfTurns_103 : decode cX0_leadOfTurns 103 = .ok (.istore 7, 2) := by decide +kernel
theorem dX0_leadOfTurns_105 : decode cX0_leadOfTurns 105 = .ok (.aload_n 0, 1) := by decide +kernel
theorem dX0_leadOfTurns_106 : decode cX0_leadOfTurns 106 = .ok (.getfield 11, 3) := by decide +kernel
theorem dX0_leadOfTurns_109 : decode cX0_leadOfTurns 109 = .ok (.iload 4, 2) := by decide +kernel
theorem dX0_leadOfTurns_111 : decode cX0_leadOfTurns 111 = .ok (.aaload, 1) := by decide +kernel
theorem dX0_leadOfTurns_112 : decode cX0_leadOfTurns 112 = .ok (.iload 5, 2) := by decide +kernel
theorem dX0_leadOfTurns_114 : decode cX0_leadOfTurns 114 = .ok (.iload 6, 2) := by decide +kernel
theorem dX0_leadOfTurns_116 : decode cX0_leadOfTurns 116 = .ok (.iload 7, 2) := by decide +kernel
theorem dX0_leadOfTurns_118 : decode cX0_leadOfTurns 118 = .ok (.invokestatic 58, 3) := by decide +kernel
theorem dX0_leadOfTurns_121 : decode cX0_leadOfTurns 121 = .ok (.iastore, 1) := by decide +kernel
theorem dX0_leadOfTurns_122 : decode cX0_leadOfTurns 122 = .ok (.iinc 4 1, 3) := by decide +kernel
theorem dX0_leadOfTurns_125 : decode cX0_leadOfTurns 125 = .ok (.goto (-99), 3) := by decide +kernel
theorem dX0_leadOfTurns_128 : decode cX0_leadOfTurns 128 = .ok (.iinc 3 1, 3) := by decide +kernel
theorem dX0_leadOfTurns_131 : decode cX0_leadOfTurns 131 = .ok (.goto (-113), 3) := by decide +kernel
theorem dX0_leadOfTurns_134 : decode cX0_leadOfTurns 134 = .ok (.aload_n 0, 1) := by decide +kernel
theorem dX0_leadOfTurns_135 : decode cX0_leadOfTurns 135 = .ok (.getfield 11, 3) := by decide +kernel
theorem dX0_leadOfTurns_138 : decode cX0_leadOfTurns 138 = .ok (.iconst 0, 1) := by decide +kernel
theorem dX0_leadOfTurns_139 : decode cX0_leadOfTurns 139 = .ok (.aaload, 1) := by decide +kernel
theorem dX0_leadOfTurns_140 : decode cX0_leadOfTurns 140 = .ok (.iload_n 2, 1) := by decide +kernel
theorem dX0_leadOfTurns_141 : decode cX0_leadOfTurns 141 = .ok (.iconst 1, 1) := by decide +kernel
theorem dX0_leadOfTurns_142 : decode cX0_leadOfTurns 142 = .ok (.isub, 1) := by decide +kernel
theorem dX0_leadOfTurns_143 : decode cX0_leadOfTurns 143 = .ok (.iaload, 1) := by decide +kernel
theorem dX0_leadOfTurns_144 : decode cX0_leadOfTurns 144 = .ok (.ireturn, 1) := by decide +kernel
theorem dX0_sideOfTurns_0 : decode cX0_sideOfTurns 0 = .ok (.aload_n 0, 1) := by decide +kernel
theorem dX0_sideOfTurns_1 : decode cX0_sideOfTurns 1 = .ok (.aload_n 1, 1) := by decide +kernel
theorem dX0_sideOfTurns_2 : decode cX0_sideOfTurns 2 = .ok (.invokevirtual 61, 3) := by decide +kernel
theorem dX0_sideOfTurns_5 : decode cX0_sideOfTurns 5 = .ok (.istore_n 2, 1) := by decide +kernel
theorem dX0_sideOfTurns_6 : decode cX0_sideOfTurns 6 = .ok (.bipush 12, 2) := by decide +kernel
theorem dX0_sideOfTurns_8 : decode cX0_sideOfTurns 8 = .ok (.aload_n 1, 1) := by decide +kernel
theorem dX0_sideOfTurns_9 : decode cX0_sideOfTurns 9 = .ok (.getfield 32, 3) := by decide +kernel
theorem dX0_sideOfTurns_12 : decode cX0_sideOfTurns 12 = .ok (.invokestatic 38, 3) := by decide +kernel
theorem dX0_sideOfTurns_15 : decode cX0_sideOfTurns 15 = .ok (.istore_n 3, 1) := by decide +kernel
theorem dX0_sideOfTurns_16 : decode cX0_sideOfTurns 16 = .ok (.iload_n 3, 1) := by decide +kernel
theorem dX0_sideOfTurns_17 : decode cX0_sideOfTurns 17 = .ok (.iconst 2, 1) := by decide +kernel
theorem dX0_sideOfTurns_18 : decode cX0_sideOfTurns 18 = .ok (.if_icmp .ge 5, 3) := by decide +kernel
theorem dX0_sideOfTurns_21 : decode cX0_sideOfTurns 21 = .ok (.iconst 0, 1) := by decide +kernel
theorem dX0_sideOfTurns_22 : decode cX0_sideOfTurns 22 = .ok (.ireturn, 1) := by decide +kernel
theorem dX0_sideOfTurns_23 : decode cX0_sideOfTurns 23 = .ok (.aload_n 1, 1) := by decide +kernel
theorem dX0_sideOfTurns_24 : decode cX0_sideOfTurns 24 = .ok (.getfield 44, 3) := by decide +kernel
theorem dX0_sideOfTurns_27 : decode cX0_sideOfTurns 27 = .ok (.iconst 0, 1) := by decide +kernel
theorem dX0_sideOfTurns_28 : decode cX0_sideOfTurns 28 = .ok (.aaload, 1) := by decide +kernel
theorem dX0_sideOfTurns_29 : decode cX0_sideOfTurns 29 = .ok (.getfield 48, 3) := by decide +kernel
theorem dX0_sideOfTurns_32 : decode cX0_sideOfTurns 32 = .ok (.aload_n 0, 1) := by decide +kernel
theorem dX0_sideOfTurns_33 : decode cX0_sideOfTurns 33 = .ok (.getfield 11, 3) := by decide +kernel
theorem dX0_sideOfTurns_36 : decode cX0_sideOfTurns 36 = .ok (.iconst 1, 1) := by decide +kernel
theorem dX0_sideOfTurns_37 : decode cX0_sideOfTurns 37 = .ok (.aaload, 1) := by decide +kernel
theorem dX0_sideOfTurns_38 : decode cX0_sideOfTurns 38 = .ok (.iload_n 3, 1) := by decide +kernel
theorem dX0_sideOfTurns_39 : decode cX0_sideOfTurns 39 = .ok (.iconst 1, 1) := by decide +kernel
theorem dX0_sideOfTurns_40 : decode cX0_sideOfTurns 40 = .ok (.isub, 1) := by decide +kernel
theorem dX0_sideOfTurns_41 : decode cX0_sideOfTurns 41 = .ok (.iaload, 1) := by decide +kernel
theorem dX0_sideOfTurns_42 : decode cX0_sideOfTurns 42 = .ok (.isub, 1) := by decide +kernel
theorem dX0_sideOfTurns_43 : decode cX0_sideOfTurns 43 = .ok (.iload_n 2, 1) := by decide +kernel
theorem dX0_sideOfTurns_44 : decode cX0_sideOfTurns 44 = .ok (.if_icmp .ne 7, 3) := by decide +kernel
theorem dX0_sideOfTurns_47 : decode cX0_sideOfTurns 47 = .ok (.iconst 0, 1) := by decide +kernel
theorem dX0_sideOfTurns_48 : decode cX0_sideOfTurns 48 = .ok (.goto 4, 3) := by decide +kernel
theorem dX0_sideOfTurns_51 : decode cX0_sideOfTurns 51 = .ok (.iconst 1, 1) := by decide +kernel
theorem dX0_sideOfTurns_52 : decode cX0_sideOfTurns 52 = .ok (.ireturn, 1) := by decide +kernel
set_option maxHeartbeats 4000000 in
set_option maxRecDepth 100000 in
theorem ct_X0_leadOfTurns {E : xE} {z : Nat} {T : Nat → Nat × Int} {F : Nat → Nat → Int} {I : Nat → Int → Int} {P : Nat → Nat → Option Nat} {Y : Nat → Int → Option Nat} {a c : Nat} {w : Int → Int} (hC : wCho T P Y c) (hS : SR T F I P Y a w) : Ct E 1 mX0_leadOfTurns 0 0 [.ref c, .ref a] (z, T, F, I, P, Y) (xLd c (some (J (sAh w (wN w) 0))) z T F I P Y w) := by
  obtain ⟨k0, ⟨b1, ⟨b2, b3⟩, b4⟩, ⟨g1, ⟨g2, g3⟩, g4⟩, ⟨u1, u2, u3⟩, ⟨h1, ⟨h2, h3⟩, h4⟩, ⟨m1, m2, m3⟩, n1, n2, n3⟩ := id hC
  obtain ⟨⟨hO, hL, hTy⟩, hLw, ⟨π, hB⟩, hV, hLf⟩ := id hS
  obtain ⟨⟨⟨⟨s0, s1, s2, s3⟩, sR, ⟨s4, s5⟩, ⟨s6, sLv⟩, ⟨s7, s8⟩, ⟨s9, sJo⟩, s10, s11, s12⟩, p1, p2, p3, p4, p5⟩, ⟨⟨c1, c9, c10, c11, c12, c13, c14, c15⟩, hTl, j0, j1, j2⟩, hRn, hTb, hOt, hJo⟩ := id hB
  obtain ⟨hR, o0, o1, o2, o3, o4, o5, o6, oc, o13, o14, o16, o17, o18, ov⟩ := id hO
  have hN := wN_i o0.1
  refine Ct.of [some (.ref c), some (.ref a), none, none, none, none, none, none] kt_X0_leadOfTurns rfl (Nat.le_of_ble_eq_true rfl) rfl (fun d hd => ?_)
  generalize hX : xN E _ _ _ = X
  refine xg_bipush 2 dX0_leadOfTurns_0 rfl (by decide) ?_
  refine xg_aloadn 3 dX0_leadOfTurns_2 rfl rfl rfl ?_
  refine xg_getI 6 kf_RX0_32 dX0_leadOfTurns_3 rfl (by assumption) ?_
  rw [c1]
  refine xg_mmin 9 kl_RX0_38 dX0_leadOfTurns_6 rfl (by omega) (Nat.le_of_ble_eq_true rfl) (by omega) ⟨Nat.le_refl _, Nat.le_refl _⟩ ?_
  rw [show min 12 (w 0) = w 0 by omega]
  refine xg_istoren 10 _ dX0_leadOfTurns_9 rfl rfl rfl (by decide) (Or.inr rfl) ?_
  refine xg_iloadn 11 dX0_leadOfTurns_10 rfl rfl rfl ?_
  refine xg_ifgt 16 14 dX0_leadOfTurns_11 rfl rfl (by omega) (fun hb11 => ?_) (fun hb11 => ?_)
  · skip
    refine xg_iconst 17 dX0_leadOfTurns_16 rfl ?_
    refine xg_istoren 18 _ dX0_leadOfTurns_17 rfl rfl rfl (by decide) (Or.inr rfl) ?_
    have loop18 : ∀ (mm : Nat) (k : Nat) (J2 : Nat → Int → Int), (1 ≤ k ∧ k ≤ 13) → cFr c I J2 → pLd w J2 c k 0 → 13 - (k : Int) < (mm : Int) → xG E mX0_leadOfTurns (xR d 0 0) X 18 [some (.ref c), some (.ref a), some (J (w 0)), some (J (k : Int)), none, none, none, none] [] (z, T, F, J2, P, Y) 0 0 := by
      intro mm
      induction mm with
      | zero => intro k J2 hk hf hp hm; exfalso; omega
      | succ mm ih =>
        intro k J2 hk hf hp hm
        refine xg_iloadn 19 dX0_leadOfTurns_18 rfl rfl rfl ?_
        refine xg_iloadn 20 dX0_leadOfTurns_19 rfl rfl rfl ?_
        refine xg_icgt 134 23 dX0_leadOfTurns_20 rfl rfl (by omega) (fun hb20 => ?_) (fun hb20 => ?_)
        · skip
          refine xg_aloadn 135 dX0_leadOfTurns_134 rfl rfl rfl ?_
          refine xg_getP 138 kf_RX0_11 dX0_leadOfTurns_135 rfl (by assumption) (by assumption) ?_
          refine xg_iconst 139 dX0_leadOfTurns_138 rfl ?_
          refine xg_aald 140 dX0_leadOfTurns_139 rfl (by assumption) (by omega) (by exact (b4 0 (by omega)).1) ?_
          refine xg_iloadn 141 dX0_leadOfTurns_140 rfl rfl rfl ?_
          refine xg_iconst 142 dX0_leadOfTurns_141 rfl ?_
          refine xg_isub 143 dX0_leadOfTurns_142 rfl ?_
          refine xg_iald 144 dX0_leadOfTurns_143 rfl (b4 0 (by omega)).2.1 (by rw [(b4 0 (by omega)).2.2]; omega) ?_
          subst hX
          exact xg_ireturn dX0_leadOfTurns_144 rfl ⟨Nat.le_refl _, Nat.le_refl _⟩ ⟨congrArg (fun v => some (J v)) (by have h9 := hp.at (l := wN w) (f := 0) (j := w 0 - 1) (by omega) (by omega) (by omega) (by omega); exact h9), J2, rfl, hf, fun l f h1 h2 h3 => hp l f h1 h2 (by omega)⟩
        · skip
          refine xg_iconst 24 dX0_leadOfTurns_23 rfl ?_
          refine xg_istore 26 _ dX0_leadOfTurns_24 rfl rfl (by decide) (Or.inr rfl) ?_
          have loop26 : ∀ (mm : Nat) (f : Nat) (J3 : Nat → Int → Int), (f : Int) + k ≤ w 0 + 1 → cFr c I J3 → pLd w J3 c k f → 20 - (f : Int) < (mm : Int) → xG E mX0_leadOfTurns (xR d 0 0) X 26 [some (.ref c), some (.ref a), some (J (w 0)), some (J (k : Int)), some (J (f : Int)), none, none, none] [] (z, T, F, J3, P, Y) 0 0 := by
            intro mm
            induction mm with
            | zero => intro f J3 hf1 hf2 hp2 hm; exfalso; omega
            | succ mm ih2 =>
              intro f J3 hf1 hf2 hp2 hm
              have e1 := sE_bd w (f : Int)
              have e2 := sE_bd w ((f + k - 1 : Nat) : Int)
              have e3 := sAh_bd w (k - 1) ((f + 1 : Nat) : Int)
              have e4 := sAh_bd w (k - 1) (f : Int)
              refine xg_iload 28 dX0_leadOfTurns_26 rfl rfl ?_
              refine xg_iloadn 29 dX0_leadOfTurns_28 rfl rfl rfl ?_
              refine xg_iadd 30 dX0_leadOfTurns_29 rfl ?_
              refine xg_iloadn 31 dX0_leadOfTurns_30 rfl rfl rfl ?_
              refine xg_icgt 128 34 dX0_leadOfTurns_31 rfl rfl (by omega) (fun hb31 => ?_) (fun hb31 => ?_)
              · skip
                refine xg_iinc 131 _ dX0_leadOfTurns_128 rfl rfl rfl rfl (by decide) (Or.inr rfl) ?_
                refine xg_goto 18 dX0_leadOfTurns_131 rfl ?_
                exact xg_weak _ (xle_s rfl (xle_s rfl (xle_s rfl (xle_s rfl (xle_n (xle_n (xle_n (xle_n xle_0)))))))) (ih (k + 1) J3 (by omega) hf2 (hp2.nx (by omega)) (by omega))
              · skip
                refine xg_iload 36 dX0_leadOfTurns_34 rfl rfl ?_
                refine xg_iloadn 37 dX0_leadOfTurns_36 rfl rfl rfl ?_
                refine xg_iadd 38 dX0_leadOfTurns_37 rfl ?_
                refine xg_iconst 39 dX0_leadOfTurns_38 rfl ?_
                refine xg_isub 40 dX0_leadOfTurns_39 rfl ?_
                rw [show (f : Int) + (k : Int) - 1 = ((f + k - 1 : Nat) : Int) by omega]
                refine xg_istore 42 _ dX0_leadOfTurns_40 rfl rfl (by decide) (Or.inr rfl) ?_
                refine xg_aloadn 43 dX0_leadOfTurns_42 rfl rfl rfl ?_
                refine xg_getP 46 kf_RX0_44 dX0_leadOfTurns_43 rfl (by assumption) (by assumption) ?_
                refine xg_iload 48 dX0_leadOfTurns_46 rfl rfl ?_
                refine xg_rald 49 dX0_leadOfTurns_48 rfl (by assumption) (by omega) (p1 f (by omega)) ?_
                refine xg_getI 52 kf_RX0_48 dX0_leadOfTurns_49 rfl (sR (π f) (p4 f (by omega))).1 ?_
                rw [show F (a + 2 + 3 * π f) 2 = sE w (f : Int) from (hRn f (by omega)).n]
                refine xg_istore 54 _ dX0_leadOfTurns_52 rfl rfl (by decide) (Or.inr rfl) ?_
                refine xg_aloadn 55 dX0_leadOfTurns_54 rfl rfl rfl ?_
                refine xg_getP 58 kf_RX0_44 dX0_leadOfTurns_55 rfl (by assumption) (by assumption) ?_
                refine xg_iload 60 dX0_leadOfTurns_58 rfl rfl ?_
                refine xg_rald 61 dX0_leadOfTurns_60 rfl (by assumption) (by omega) (p1 (f + k - 1) (by omega)) ?_
                refine xg_getI 64 kf_RX0_48 dX0_leadOfTurns_61 rfl (sR (π (f + k - 1)) (p4 _ (by omega))).1 ?_
                rw [show F (a + 2 + 3 * π (f + k - 1)) 2 = sE w ((f + k - 1 : Nat) : Int) from (hRn (f + k - 1) (by omega)).n]
                refine xg_istore 66 _ dX0_leadOfTurns_64 rfl rfl (by decide) (Or.inr rfl) ?_
                refine xg_iloadn 67 dX0_leadOfTurns_66 rfl rfl rfl ?_
                refine xg_iconst 68 dX0_leadOfTurns_67 rfl ?_
                refine xg_icle 105 71 dX0_leadOfTurns_68 rfl rfl (by omega) (fun hb68 => ?_) (fun hb68 => ?_)
                · skip
                  refine xg_aloadn 106 dX0_leadOfTurns_105 rfl rfl rfl ?_
                  refine xg_getP 109 kf_RX0_11 dX0_leadOfTurns_106 rfl (by assumption) (by assumption) ?_
                  refine xg_iload 111 dX0_leadOfTurns_109 rfl rfl ?_
                  refine xg_aald 112 dX0_leadOfTurns_111 rfl (by assumption) (by omega) (b4 f (by omega)).1 ?_
                  refine xg_iload 114 dX0_leadOfTurns_112 rfl rfl ?_
                  refine xg_iload 116 dX0_leadOfTurns_114 rfl rfl ?_
                  refine xg_iload 118 dX0_leadOfTurns_116 rfl rfl ?_
                  refine xg_mmax 121 kl_RX0_58 dX0_leadOfTurns_118 rfl (by omega) (Nat.le_of_ble_eq_true rfl) (by omega) ⟨Nat.le_refl _, Nat.le_refl _⟩ ?_
                  refine xg_iast 122 dX0_leadOfTurns_121 rfl (b4 f (by omega)).2.1 (by rw [(b4 f (by omega)).2.2]; omega) ?_
                  refine xg_iinc 125 _ dX0_leadOfTurns_122 rfl rfl rfl rfl (by decide) (Or.inr rfl) ?_
                  refine xg_goto 26 dX0_leadOfTurns_125 rfl ?_
                  exact xg_weak _ (xle_s rfl (xle_s rfl (xle_s rfl (xle_s rfl (xle_s rfl (xle_n (xle_n (xle_n xle_0)))))))) (ih2 (f + 1) _ (by omega) (hf2.up (by omega) _ _) (hp2.S (by omega) (by rw [show k = 1 by omega, show f + 1 - 1 = f by omega]; exact sAh_1 w f)) (by omega))
                · skip
                  refine xg_iload 73 dX0_leadOfTurns_71 rfl rfl ?_
                  refine xg_aloadn 74 dX0_leadOfTurns_73 rfl rfl rfl ?_
                  refine xg_getP 77 kf_RX0_11 dX0_leadOfTurns_74 rfl (by assumption) (by assumption) ?_
                  refine xg_iload 79 dX0_leadOfTurns_77 rfl rfl ?_
                  refine xg_iconst 80 dX0_leadOfTurns_79 rfl ?_
                  refine xg_iadd 81 dX0_leadOfTurns_80 rfl ?_
                  rw [show (f : Int) + 1 = ((f + 1 : Nat) : Int) by omega]
                  refine xg_aald 82 dX0_leadOfTurns_81 rfl (by assumption) (by omega) (b4 (f + 1) (by omega)).1 ?_
                  refine xg_iload 84 dX0_leadOfTurns_82 rfl rfl ?_
                  refine xg_iald 85 dX0_leadOfTurns_84 rfl (b4 (f + 1) (by omega)).2.1 (by rw [(b4 (f + 1) (by omega)).2.2]; omega) ?_
                  rw [hp2.at (l := k - 1) (f := f + 1) (j := ((f + k - 1 : Nat) : Int)) (by omega) (by omega) (by omega) (by omega)]
                  refine xg_isub 86 dX0_leadOfTurns_85 rfl ?_
                  refine xg_istore 88 _ dX0_leadOfTurns_86 rfl rfl (by decide) (Or.inr rfl) ?_
                  refine xg_iload 90 dX0_leadOfTurns_88 rfl rfl ?_
                  refine xg_aloadn 91 dX0_leadOfTurns_90 rfl rfl rfl ?_
                  refine xg_getP 94 kf_RX0_11 dX0_leadOfTurns_91 rfl (by assumption) (by assumption) ?_
                  refine xg_iload 96 dX0_leadOfTurns_94 rfl rfl ?_
                  refine xg_aald 97 dX0_leadOfTurns_96 rfl (by assumption) (by omega) (b4 f (by omega)).1 ?_
                  refine xg_iload 99 dX0_leadOfTurns_97 rfl rfl ?_
                  refine xg_iconst 100 dX0_leadOfTurns_99 rfl ?_
                  skip
                  refine xg_isub 101 dX0_leadOfTurns_100 rfl ?_
                  refine xg_iald 102 dX0_leadOfTurns_101 rfl (b4 f (by omega)).2.1 (by rw [(b4 f (by omega)).2.2]; omega) ?_
                  rw [hp2.at (l := k - 1) (f := f) (j := ((f + k - 1 : Nat) : Int) - 1) (by omega) (by omega) (by omega) (by omega)]
                  refine xg_isub 103 dX0_leadOfTurns_102 rfl ?_
                  refine xg_istore 105 _ dX0_leadOfTurns_103 rfl rfl (by decide) (Or.inr rfl) ?_
                  refine xg_aloadn 106 dX0_leadOfTurns_105 rfl rfl rfl ?_
                  refine xg_getP 109 kf_RX0_11 dX0_leadOfTurns_106 rfl (by assumption) (by assumption) ?_
                  refine xg_iload 111 dX0_leadOfTurns_109 rfl rfl ?_
                  refine xg_aald 112 dX0_leadOfTurns_111 rfl (by assumption) (by omega) (b4 f (by omega)).1 ?_
                  refine xg_iload 114 dX0_leadOfTurns_112 rfl rfl ?_
                  refine xg_iload 116 dX0_leadOfTurns_114 rfl rfl ?_
                  refine xg_iload 118 dX0_leadOfTurns_116 rfl rfl ?_
                  refine xg_mmax 121 kl_RX0_58 dX0_leadOfTurns_118 rfl (by omega) (Nat.le_of_ble_eq_true rfl) (by omega) ⟨Nat.le_refl _, Nat.le_refl _⟩ ?_
                  refine xg_iast 122 dX0_leadOfTurns_121 rfl (b4 f (by omega)).2.1 (by rw [(b4 f (by omega)).2.2]; omega) ?_
                  refine xg_iinc 125 _ dX0_leadOfTurns_122 rfl rfl rfl rfl (by decide) (Or.inr rfl) ?_
                  refine xg_goto 26 dX0_leadOfTurns_125 rfl ?_
                  exact xg_weak _ (xle_s rfl (xle_s rfl (xle_s rfl (xle_s rfl (xle_s rfl (xle_n (xle_n (xle_n xle_0)))))))) (ih2 (f + 1) _ (by omega) (hf2.up (by omega) _ _) (hp2.S (by omega) (sAh_k w (by omega))) (by omega))
          exact xg_weak _ (xle_s rfl (xle_s rfl (xle_s rfl (xle_s rfl (xle_s rfl (xle_n (xle_n (xle_n xle_0)))))))) (loop26 30 0 J2 (by omega) hf hp (by omega))
    exact xg_weak _ (xle_s rfl (xle_s rfl (xle_s rfl (xle_s rfl (xle_n (xle_n (xle_n (xle_n xle_0)))))))) (loop18 20 1 I (by omega) cFr.rf (fun l f h1 h2 h3 => by omega) (by omega))
  · skip
    refine xg_iconst 15 dX0_leadOfTurns_14 rfl ?_
    subst hX
    exact xg_ireturn dX0_leadOfTurns_15 rfl ⟨Nat.le_refl _, Nat.le_refl _⟩ ⟨by rw [show wN w = 0 by omega]; rfl, I, rfl, cFr.rf, fun l f h1 h2 h3 => by omega⟩

theorem sSide_0 {w : Int → Int} (h : w 0 < 2) (h0 : 0 ≤ w 0) : sSide w = 0 := by
  unfold sSide
  by_cases e : w 0 = 0
  · rw [if_pos (Or.inl e)]
  · rw [if_pos (Or.inr ?_)]
    have h1 : w 0 = 1 := by omega
    have h2 : wN w = 1 := by unfold wN; omega
    rw [h1, h2]
    show sE w (1 - 1) - sAh w 0 0 ≤ sE w 0 - sAh w 0 1
    rw [sAh, sAh]
    exact Int.le_refl _
theorem sSide_2 {w : Int → Int} (h : 2 ≤ w 0) : sSide w = if sE w 0 - sAh w (wN w - 1) ((1 : Nat) : Int) = sAh w (wN w) 0 then 0 else 1 := by
  have h2 : ∃ l, wN w = l + 1 := ⟨wN w - 1, by unfold wN; omega⟩
  obtain ⟨l, hl⟩ := h2
  have h3 : w 0 - 1 = 0 + (l : Int) := by unfold wN at hl; omega
  unfold sSide
  rw [hl, h3, sAh, show l + 1 - 1 = l by omega]
  show (if w 0 = 0 ∨ sE w (0 + (l : Int)) - sAh w l 0 ≤ sE w 0 - sAh w l 1 then (0 : Int) else 1) = if sE w 0 - sAh w l 1 = max (sE w 0 - sAh w l (0 + 1)) (sE w (0 + (l : Int)) - sAh w l 0) then 0 else 1
  rw [show (0 : Int) + 1 = 1 from rfl]
  by_cases e : sE w (0 + (l : Int)) - sAh w l 0 ≤ sE w 0 - sAh w l 1
  · rw [if_pos (Or.inr e), if_pos (by omega)]
  · rw [if_neg (by omega), if_neg (by omega)]
set_option maxHeartbeats 4000000 in
set_option maxRecDepth 100000 in
theorem ct_X0_sideOfTurns {E : xE} {z : Nat} {T : Nat → Nat × Int} {F : Nat → Nat → Int} {I : Nat → Int → Int} {P : Nat → Nat → Option Nat} {Y : Nat → Int → Option Nat} {a c : Nat} {w : Int → Int} (hC : wCho T P Y c) (hS : SR T F I P Y a w) : Ct E 2 mX0_sideOfTurns 0 0 [.ref c, .ref a] (z, T, F, I, P, Y) (xCh c (some (J (sSide w))) z T F I P Y) := by
  obtain ⟨k0, ⟨b1, ⟨b2, b3⟩, b4⟩, ⟨g1, ⟨g2, g3⟩, g4⟩, ⟨u1, u2, u3⟩, ⟨h1, ⟨h2, h3⟩, h4⟩, ⟨m1, m2, m3⟩, n1, n2, n3⟩ := id hC
  obtain ⟨⟨hO, hL, hTy⟩, hLw, ⟨π, hB⟩, hV, hLf⟩ := id hS
  obtain ⟨⟨⟨⟨s0, s1, s2, s3⟩, sR, ⟨s4, s5⟩, ⟨s6, sLv⟩, ⟨s7, s8⟩, ⟨s9, sJo⟩, s10, s11, s12⟩, p1, p2, p3, p4, p5⟩, ⟨⟨c1, c9, c10, c11, c12, c13, c14, c15⟩, hTl, j0, j1, j2⟩, hRn, hTb, hOt, hJo⟩ := id hB
  obtain ⟨hR, o0, o1, o2, o3, o4, o5, o6, oc, o13, o14, o16, o17, o18, ov⟩ := id hO
  have hN := wN_i o0.1
  have e1 := sE_bd w 0
  have e3 := sAh_bd w (wN w - 1) ((1 : Nat) : Int)
  have e4 := sAh_bd w (wN w) 0
  refine Ct.of [some (.ref c), some (.ref a), none, none] kt_X0_sideOfTurns rfl (Nat.le_of_ble_eq_true rfl) rfl (fun d hd => ?_)
  generalize hX : xN E _ _ _ = X
  refine xg_aloadn 1 dX0_sideOfTurns_0 rfl rfl rfl ?_
  refine xg_aloadn 2 dX0_sideOfTurns_1 rfl rfl rfl ?_
  refine xg_callVe 5 0 [_] _ kv_X0_leadOfTurns ⟨_, _, rfl⟩ kl_RX0_61 dX0_sideOfTurns_2 rfl (by assumption) (by omega) rfl rfl (Nat.le_of_ble_eq_true rfl) (by omega) ⟨Nat.le_refl _, Nat.le_refl _⟩ (ct_X0_leadOfTurns hC hS) rfl (fun v9 h9 e9 => ?_)
  obtain ⟨rfl, J2, rfl, hf, hp⟩ := e9
  refine xg_istoren 6 _ dX0_sideOfTurns_5 rfl rfl rfl (by decide) (Or.inr rfl) ?_
  refine xg_bipush 8 dX0_sideOfTurns_6 rfl (by decide) ?_
  refine xg_aloadn 9 dX0_sideOfTurns_8 rfl rfl rfl ?_
  refine xg_getI 12 kf_RX0_32 dX0_sideOfTurns_9 rfl (by assumption) ?_
  rw [c1]
  refine xg_mmin 15 kl_RX0_38 dX0_sideOfTurns_12 rfl (by omega) (Nat.le_of_ble_eq_true rfl) (by omega) ⟨Nat.le_refl _, Nat.le_refl _⟩ ?_
  rw [show min 12 (w 0) = w 0 by omega]
  refine xg_istoren 16 _ dX0_sideOfTurns_15 rfl rfl rfl (by decide) (Or.inr rfl) ?_
  refine xg_iloadn 17 dX0_sideOfTurns_16 rfl rfl rfl ?_
  refine xg_iconst 18 dX0_sideOfTurns_17 rfl ?_
  refine xg_icge 23 21 dX0_sideOfTurns_18 rfl rfl (by omega) (fun hb18 => ?_) (fun hb18 => ?_)
  · skip
    refine xg_aloadn 24 dX0_sideOfTurns_23 rfl rfl rfl ?_
    refine xg_getP 27 kf_RX0_44 dX0_sideOfTurns_24 rfl (by assumption) (by assumption) ?_
    refine xg_iconst 28 dX0_sideOfTurns_27 rfl ?_
    refine xg_rald 29 dX0_sideOfTurns_28 rfl (by assumption) (by omega) (by exact p1 0 (by omega)) ?_
    refine xg_getI 32 kf_RX0_48 dX0_sideOfTurns_29 rfl (sR (π 0) (p4 0 (by omega))).1 ?_
    rw [show F (a + 2 + 3 * π 0) 2 = sE w 0 from by have h9 := (hRn 0 (by omega)).n; exact h9]
    refine xg_aloadn 33 dX0_sideOfTurns_32 rfl rfl rfl ?_
    refine xg_getP 36 kf_RX0_11 dX0_sideOfTurns_33 rfl (by assumption) (by assumption) ?_
    refine xg_iconst 37 dX0_sideOfTurns_36 rfl ?_
    refine xg_aald 38 dX0_sideOfTurns_37 rfl (by assumption) (by omega) (by exact (b4 1 (by omega)).1) ?_
    refine xg_iloadn 39 dX0_sideOfTurns_38 rfl rfl rfl ?_
    refine xg_iconst 40 dX0_sideOfTurns_39 rfl ?_
    refine xg_isub 41 dX0_sideOfTurns_40 rfl ?_
    refine xg_iald 42 dX0_sideOfTurns_41 rfl (b4 1 (by omega)).2.1 (by rw [(b4 1 (by omega)).2.2]; omega) ?_
    rw [hp.at (l := wN w - 1) (f := 1) (j := w 0 - 1) (by omega) (by omega) (by omega) (by omega)]
    refine xg_isub 43 dX0_sideOfTurns_42 rfl ?_
    refine xg_iloadn 44 dX0_sideOfTurns_43 rfl rfl rfl ?_
    refine xg_icne 51 47 dX0_sideOfTurns_44 rfl rfl (by omega) (fun hb44 => ?_) (fun hb44 => ?_)
    · skip
      refine xg_iconst 52 dX0_sideOfTurns_51 rfl ?_
      subst hX
      exact xg_ireturn dX0_sideOfTurns_52 rfl ⟨Nat.le_refl _, Nat.le_refl _⟩ ⟨by rw [sSide_2 (by omega), if_neg (by omega)], J2, rfl, hf⟩
    · skip
      refine xg_iconst 48 dX0_sideOfTurns_47 rfl ?_
      refine xg_goto 52 dX0_sideOfTurns_48 rfl ?_
      subst hX
      exact xg_ireturn dX0_sideOfTurns_52 rfl ⟨Nat.le_refl _, Nat.le_refl _⟩ ⟨by rw [sSide_2 (by omega), if_pos (by omega)], J2, rfl, hf⟩
  · skip
    refine xg_iconst 22 dX0_sideOfTurns_21 rfl ?_
    subst hX
    exact xg_ireturn dX0_sideOfTurns_22 rfl ⟨Nat.le_refl _, Nat.le_refl _⟩ ⟨by rw [sSide_0 (by omega) (by omega)], J2, rfl, hf⟩

