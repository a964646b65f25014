theorem dX12_law_0 : decode cX12_law 0 = .ok (.aload_n 0, 1) := by decide +kernel
theorem dX12_law_1 : decode cX12_law 1 = .ok (.iconst 0, 1) := by decide +kernel
theorem dX12_law_2 : decode cX12_law 2 = .ok (.invokevirtual 247, 3) := by decide +kernel
theorem dX12_law_5 : decode cX12_law 5 = .ok (.istore_n 1, 1) := by decide +kernel
theorem dX12_law_6 : decode cX12_law 6 = .ok (.aload_n 0, 1) := by decide +kernel
theorem dX12_law_7 : decode cX12_law 7 = .ok (.iload_n 1, 1) := by decide +kernel
theorem dX12_law_8 : decode cX12_law 8 = .ok (.ifCond .ge 10, 3) := by decide +kernel
theorem dX12_law_11 : decode cX12_law 11 = .ok (.aload_n 0, 1) := by decide +kernel
theorem dX12_law_12 : decode cX12_law 12 = .ok (.getfield 93, 3) := by decide +kernel
theorem dX12_law_15 : decode cX12_law 15 = .ok (.goto 4, 3) := by decide +kernel
theorem dX12_law_18 : decode cX12_law 18 = .ok (.iconst (-1), 1) := by decide +kernel
theorem dX12_law_19 : decode cX12_law 19 = .ok (.putfield 33, 3) := by decide +kernel
theorem dX12_law_22 : decode cX12_law 22 = .ok (.aload_n 0, 1) := by decide +kernel
theorem dX12_law_23 : decode cX12_law 23 = .ok (.iload_n 1, 1) := by decide +kernel
theorem dX12_law_24 : decode cX12_law 24 = .ok (.ifCond .ge 7, 3) := by decide +kernel
theorem dX12_law_27 : decode cX12_law 27 = .ok (.iconst 1, 1) := by decide +kernel
theorem dX12_law_28 : decode cX12_law 28 = .ok (.goto 4, 3) := by decide +kernel
theorem dX12_law_31 : decode cX12_law 31 = .ok (.iconst 0, 1) := by decide +kernel
theorem dX12_law_32 : decode cX12_law 32 = .ok (.iconst 1, 1) := by decide +kernel
theorem dX12_law_33 : decode cX12_law 33 = .ok (.invokevirtual 251, 3) := by decide +kernel
theorem dX12_law_36 : decode cX12_law 36 = .ok (.ifCond .eq 5, 3) := by decide +kernel
theorem dX12_law_39 : decode cX12_law 39 = .ok (.iconst 0, 1) := by decide +kernel
theorem dX12_law_40 : decode cX12_law 40 = .ok (.ireturn, 1) := by decide +kernel
theorem dX12_law_41 : decode cX12_law 41 = .ok (.aload_n 0, 1) := by decide +kernel
theorem dX12_law_42 : decode cX12_law 42 = .ok (.getfield 13, 3) := by decide +kernel
theorem dX12_law_45 : decode cX12_law 45 = .ok (.sipush 2752, 3) := by decide +kernel
theorem dX12_law_48 : decode cX12_law 48 = .ok (.iload_n 1, 1) := by decide +kernel
theorem dX12_law_49 : decode cX12_law 49 = .ok (.iastore, 1) := by decide +kernel
theorem dX12_law_50 : decode cX12_law 50 = .ok (.iconst 0, 1) := by decide +kernel
theorem dX12_law_51 : decode cX12_law 51 = .ok (.istore_n 2, 1) := by decide +kernel
theorem dX12_law_52 : decode cX12_law 52 = .ok (.iload_n 2, 1) := by decide +kernel
theorem dX12_law_53 : decode cX12_law 53 = .ok (.sipush 849, 3) := by decide +kernel
theorem dX12_law_56 : decode cX12_law 56 = .ok (.if_icmp .ge 29, 3) := by decide +kernel
theorem dX12_law_59 : decode cX12_law 59 = .ok (.aload_n 0, 1) := by decide +kernel
theorem dX12_law_60 : decode cX12_law 60 = .ok (.getfield 13, 3) := by decide +kernel
theorem dX12_law_63 : decode cX12_law 63 = .ok (.sipush 1903, 3) := by decide +kernel
theorem dX12_law_66 : decode cX12_law 66 = .ok (.iload_n 2, 1) := by decide +kernel
theorem dX12_law_67 : decode cX12_law 67 = .ok (.iadd, 1) := by decide +kernel
theorem dX12_law_68 : decode cX12_law 68 = .ok (.aload_n 0, 1) := by decide +kernel
theorem dX12_law_69 : decode cX12_law 69 = .ok (.getfield 13, 3) := by decide +kernel
theorem dX12_law_72 : decode cX12_law 72 = .ok (.sipush 2752, 3) := by decide +kernel
theorem dX12_law_75 : decode cX12_law 75 = .ok (.iload_n 2, 1) := by decide +kernel
theorem dX12_law_76 : decode cX12_law 76 = .ok (.iadd, 1) := by decide +kernel
theorem dX12_law_77 : decode cX12_law 77 = .ok (.iaload, 1) := by decide +kernel
theorem dX12_law_78 : decode cX12_law 78 = .ok (.iastore, 1) := by decide +kernel
theorem dX12_law_79 : decode cX12_law 79 = .ok (.iinc 2 1, 3) := by decide +kernel
theorem dX12_law_82 : decode cX12_law 82 = .ok (.goto (-30), 3) := by decide +kernel
theorem dX12_law_85 : decode cX12_law 85 = .ok (.aload_n 0, 1) := by decide +kernel
theorem dX12_law_86 : decode cX12_law 86 = .ok (.getfield 13, 3) := by decide +kernel
theorem dX12_law_89 : decode cX12_law 89 = .ok (.iconst 2, 1) := by decide +kernel
theorem dX12_law_90 : decode cX12_law 90 = .ok (.iconst 1, 1) := by decide +kernel
theorem dX12_law_91 : decode cX12_law 91 = .ok (.iastore, 1) := by decide +kernel
theorem dX12_law_92 : decode cX12_law 92 = .ok (.aload_n 0, 1) := by decide +kernel
theorem dX12_law_93 : decode cX12_law 93 = .ok (.iconst 0, 1) := by decide +kernel
theorem dX12_law_94 : decode cX12_law 94 = .ok (.putfield 59, 3) := by decide +kernel
theorem dX12_law_97 : decode cX12_law 97 = .ok (.iload_n 1, 1) := by decide +kernel
theorem dX12_law_98 : decode cX12_law 98 = .ok (.ireturn, 1) := by decide +kernel
/-- the law that was read takes the place of the one before -/
def cpyL (w : Int → Int) (k : Int) : Int → Int := fun j => if 1903 ≤ j ∧ j < 1903 + k then w (j + 849) else w j
theorem cpyL_0 (w : Int → Int) : cpyL w 0 = w := by funext j; unfold cpyL; rw [if_neg (by omega)]
theorem cpyL_hi (w : Int → Int) {k j : Int} (h : j < 1903 ∨ 1903 + k ≤ j) : cpyL w k j = w j := by unfold cpyL; rw [if_neg (by omega)]
theorem cpyL_in (w : Int → Int) {k j : Int} (h : 1903 ≤ j ∧ j < 1903 + k) : cpyL w k j = w (j + 849) := by unfold cpyL; rw [if_pos h]
theorem cpyL_S (w : Int → Int) {k : Int} (h : 0 ≤ k) : wS (cpyL w k) (1903 + k) (cpyL w k (2752 + k)) = cpyL w (k + 1) := by
  funext j
  by_cases e : j = 1903 + k
  · subst e; rw [wS_at, cpyL_hi _ (by omega), cpyL_in _ (by omega), show 1903 + k + 849 = 2752 + k by omega]
  · rw [wS_ne _ _ _ e]
    by_cases q : 1903 ≤ j ∧ j < 1903 + k
    · rw [cpyL_in _ q, cpyL_in _ (by omega)]
    · rw [cpyL_hi _ (by omega), cpyL_hi _ (by omega)]
def wLwd (w : Int → Int) (n : Int) : Int → Int := wS (cpyL (wS w 2752 n) 849) 2 1
theorem cpyL_32 {w : Int → Int} (h : w32 w) (k : Int) : w32 (cpyL w k) := by intro j; unfold cpyL; split <;> exact h _
def rLawP (m z : Nat) (T : Nat → Nat × Int) (F : Nat → Nat → Int) (I : Nat → Int → Int) (P : Nat → Nat → Option Nat) (Y : Nat → Int → Option Nat) (w : Int → Int) : (Int ⊕ (List gLn × List (Int × Int))) → Option Value → xH → Prop
  | .inl f => fun v h' => v = some (J 0) ∧ ∃ (p d c1 : Int) (w1 : Int → Int), (∀ j : Int, j < 2753 ∨ 3601 ≤ j → w1 j = w j) ∧ w32 w1 ∧ h' = (z, T, upF (upF (fR (fUse F m) m p f d c1) m 14 f) m 0 1, upA I (m + 1) w1, P, Y)
  | .inr (ls, cs) => fun v h' => v = some (J ls.length) ∧ ∃ (p b d c1 : Int) (w1 : Int → Int), pDr w w1 ls cs ∧ w32 w1 ∧ h' = (z, T, upF (upF (fR (fUse F m) m p b d c1) m 14 (-1)) m 7 0, upA I (m + 1) (wLwd w1 ls.length), P, Y)
theorem rLaws.cg {E : xE} {m z kk : Nat} {T : Nat → Nat × Int} {F : Nat → Nat → Int} {I : Nat → Int → Int} {P : Nat → Nat → Option Nat} {Y : Nat → Int → Option Nat} {w : Int → Int} {M : xM} {As : List Value} {hh : xH} {x y : (Int ⊕ (List gLn × List (Int × Int)))} (h : x = y) (ct : Ct E kk M 0 0 As hh (rLaws m z T F I P Y w x)) : Ct E kk M 0 0 As hh (rLaws m z T F I P Y w y) := h ▸ ct
/-- a law that is read: how many lines, how many codes -/
theorem gLawL_ok {t : Int → Int} {e : Int} : ∀ (k : Nat) (q : Int) (cs : List (Int × Int)) (ls : List gLn) (x : List gLn × List (Int × Int)), gLawL t e k q cs ls = .inr x → ls.length + k ≤ 12 → (cs.length : Int) ≤ q → q ≤ e → (∀ c ∈ cs, cOk c) → x.1.length ≤ 12 ∧ (x.2.length : Int) ≤ e ∧ ∀ c ∈ x.2, cOk c
  | 0, q, cs, ls, x, h, h1, h2, h3, h4 => by rw [gLawL] at h; cases h
  | k + 1, q, cs, ls, x, h, h1, h2, h3, h4 => by
    rw [gLawL] at h
    cases hs : gLine t e q with
    | inl f => rw [hs] at h; cases h
    | inr y =>
      obtain ⟨ka, c, q'⟩ := y
      obtain ⟨a1, a2, a3, a4, a5, a6⟩ := gLine_ok hs
      rw [hs] at h
      have h5 : (if zK t e q' = 52 then (Sum.inr (ls ++ [(ka.1, ka.2, (cs.length : Int), ((cs ++ c).length : Int))], cs ++ c) : Int ⊕ (List gLn × List (Int × Int))) else if zK t e q' = 159 then gLawL t e k (zX t e q') (cs ++ c) (ls ++ [(ka.1, ka.2, (cs.length : Int), ((cs ++ c).length : Int))]) else .inl q') = .inr x := h
      have hcs : ∀ d ∈ cs ++ c, cOk d := fun d hd => (List.mem_append.mp hd).elim (h4 d) (a4 d)
      have hl : (ls ++ [(ka.1, ka.2, (cs.length : Int), ((cs ++ c).length : Int))]).length = ls.length + 1 := by rw [List.length_append]; rfl
      have hc : ((cs ++ c).length : Int) = cs.length + c.length := by rw [List.length_append]; omega
      split at h5
      · cases h5
        exact ⟨by show (ls ++ _).length ≤ 12; rw [hl]; omega, by show ((cs ++ c).length : Int) ≤ e; omega, hcs⟩
      · split at h5
        · rename_i hk
          have b1 := zX_b (t := t) (zK_lt (t := t) (e := e) (q := q') (by omega))
          exact gLawL_ok k _ _ _ x h5 (by rw [hl]; omega) (by omega) b1.2 hcs
        · cases h5
theorem gLaw_ok {t : Int → Int} {e : Int} (he : 0 ≤ e) {x : List gLn × List (Int × Int)} (h : gLaw t e = .inr x) : x.1.length ≤ 12 ∧ (x.2.length : Int) ≤ e ∧ ∀ c ∈ x.2, cOk c := by
  have hq := zSk_b (t := t) (e := e) (p := 0) he
  unfold gLaw at h
  split at h
  · cases h; exact ⟨by decide, by show ((0 : Nat) : Int) ≤ e; omega, fun c hc => absurd hc List.not_mem_nil⟩
  · exact gLawL_ok 12 _ _ _ x h (by decide) (by show ((0 : Nat) : Int) ≤ _; omega) hq.2 (fun c hc => absurd hc List.not_mem_nil)
set_option maxHeartbeats 4000000 in
set_option maxRecDepth 100000 in
theorem ct_X12_law {E : xE} {z : Nat} {T : Nat → Nat × Int} {F : Nat → Nat → Int} {I : Nat → Int → Int} {P : Nat → Nat → Option Nat} {Y : Nat → Int → Option Nat} {m : Nat} {w : Int → Int} (hw : wM T P m) (hT : ∀ j : Int, -128 ≤ I (m + 6) j ∧ I (m + 6) j ≤ 127) {t : Int → Int} {e : Int} (ht : rTp t (I (m + 6)) e) (he : 0 ≤ e ∧ e ≤ 400) (h9 : F m 9 = e) {ad adv : Nat → Nat} {sio : Option Nat} (hW : ∀ u : State, E.2.2.2.2 u → oWs E.2.2.2.1 ad adv sio u) (hR : w32 w) : Ct E 50 mX12_law 0 0 [.ref m] (z, T, F, upA I (m + 1) w, P, Y) (rLawP m z T F I P Y w (gLaw t e)) := by
  obtain ⟨⟨q0, q1, q2, q3⟩, -⟩ := id hw
  refine Ct.of [some (.ref m), none, none] kt_X12_law rfl (Nat.le_of_ble_eq_true rfl) rfl (fun d hd => ?_)
  generalize hX : xN E _ _ _ = X
  refine xg_aloadn 1 dX12_law_0 rfl rfl rfl ?_
  refine xg_iconst 2 dX12_law_1 rfl ?_
  rcases hs : gLaw t e with f | ⟨ls, cs⟩
  · skip
    refine xg_callVe 5 12 [_] _ kv_X12_readAll ⟨_, _, rfl⟩ kl_RX12_247 dX12_law_2 rfl (by assumption) (by omega) rfl rfl (Nat.le_of_ble_eq_true rfl) (by omega) ⟨Nat.le_refl _, Nat.le_refl _⟩ (rLaws.cg hs (ct_X12_readAll_law hw hT ht he h9 hW hR)) rfl (fun v9 h9 e9 => ?_)
    obtain ⟨rfl, p, d9, c1, w1, hw1, hR1, rfl⟩ := e9
    refine xg_istoren 6 _ dX12_law_5 rfl rfl rfl (by decide) (Or.inr rfl) ?_
    refine xg_aloadn 7 dX12_law_6 rfl rfl rfl ?_
    refine xg_iloadn 8 dX12_law_7 rfl rfl rfl ?_
    refine xg_ifge 18 11 dX12_law_8 rfl rfl (by omega) (fun hb8 => ?_) (fun hb8 => ?_)
    · exfalso; omega
    · skip
      refine xg_aloadn 12 dX12_law_11 rfl rfl rfl ?_
      refine xg_getI 15 kf_RX12_93 dX12_law_12 rfl (by assumption) ?_
      refine xg_goto 19 dX12_law_15 rfl ?_
      rw [fR_12]
      refine xg_putI 22 kf_RX12_33 dX12_law_19 rfl (by assumption) ?_
      refine xg_aloadn 23 dX12_law_22 rfl rfl rfl ?_
      refine xg_iloadn 24 dX12_law_23 rfl rfl rfl ?_
      refine xg_ifge 31 27 dX12_law_24 rfl rfl (by omega) (fun hb24 => ?_) (fun hb24 => ?_)
      · exfalso; omega
      · skip
        refine xg_iconst 28 dX12_law_27 rfl ?_
        refine xg_goto 32 dX12_law_28 rfl ?_
        refine xg_iconst 33 dX12_law_32 rfl ?_
        refine xg_callV 36 12 [_, _] _ kv_X12_throwsIf ⟨_, _, rfl⟩ kl_RX12_251 dX12_law_33 rfl (by assumption) (by omega) rfl rfl (Nat.le_of_ble_eq_true rfl) (by omega) ⟨Nat.le_refl _, Nat.le_refl _⟩ (ct_throwsT hw) rfl ?_
        refine xg_ifeq 41 39 dX12_law_36 rfl rfl (by omega) (fun hb36 => ?_) (fun hb36 => ?_)
        · exfalso; omega
        · skip
          refine xg_iconst 40 dX12_law_39 rfl ?_
          subst hX
          refine xg_ireturn dX12_law_40 rfl ⟨Nat.le_refl _, Nat.le_refl _⟩ ?_
          rw [hs]
          exact ⟨rfl, _, _, _, _, hw1, hR1, rfl⟩
  · have hlk := gLaw_ok he.1 hs
    have hlk1 : (ls.length : Int) ≤ 12 := by have h9 : ls.length ≤ 12 := hlk.1; omega
    refine xg_callVe 5 12 [_] _ kv_X12_readAll ⟨_, _, rfl⟩ kl_RX12_247 dX12_law_2 rfl (by assumption) (by omega) rfl rfl (Nat.le_of_ble_eq_true rfl) (by omega) ⟨Nat.le_refl _, Nat.le_refl _⟩ (rLaws.cg hs (ct_X12_readAll_law hw hT ht he h9 hW hR)) rfl (fun v9 h9 e9 => ?_)
    obtain ⟨rfl, p, b, d9, c1, w1, hD1, hR1, rfl⟩ := e9
    refine xg_istoren 6 _ dX12_law_5 rfl rfl rfl (by decide) (Or.inr rfl) ?_
    refine xg_aloadn 7 dX12_law_6 rfl rfl rfl ?_
    refine xg_iloadn 8 dX12_law_7 rfl rfl rfl ?_
    refine xg_ifge 18 11 dX12_law_8 rfl rfl (by omega) (fun hb8 => ?_) (fun hb8 => ?_)
    · skip
      refine xg_iconst 19 dX12_law_18 rfl ?_
      skip
      refine xg_putI 22 kf_RX12_33 dX12_law_19 rfl (by assumption) ?_
      refine xg_aloadn 23 dX12_law_22 rfl rfl rfl ?_
      refine xg_iloadn 24 dX12_law_23 rfl rfl rfl ?_
      refine xg_ifge 31 27 dX12_law_24 rfl rfl (by omega) (fun hb24 => ?_) (fun hb24 => ?_)
      · skip
        refine xg_iconst 32 dX12_law_31 rfl ?_
        refine xg_iconst 33 dX12_law_32 rfl ?_
        refine xg_callV 36 12 [_, _] _ kv_X12_throwsIf ⟨_, _, rfl⟩ kl_RX12_251 dX12_law_33 rfl (by assumption) (by omega) rfl rfl (Nat.le_of_ble_eq_true rfl) (by omega) ⟨Nat.le_refl _, Nat.le_refl _⟩ (ct_throwsF hw) rfl ?_
        refine xg_ifeq 41 39 dX12_law_36 rfl rfl (by omega) (fun hb36 => ?_) (fun hb36 => ?_)
        · skip
          refine xg_aloadn 42 dX12_law_41 rfl rfl rfl ?_
          refine xg_getP 45 kf_RX12_13 dX12_law_42 rfl (by assumption) (by assumption) ?_
          refine xg_sipush 48 dX12_law_45 rfl (by decide) ?_
          refine xg_iloadn 49 dX12_law_48 rfl rfl rfl ?_
          refine xg_iastW 50 dX12_law_49 rfl q2 (by rw [q3]; omega) ?_
          refine xg_iconst 51 dX12_law_50 rfl ?_
          refine xg_istoren 52 _ dX12_law_51 rfl rfl rfl (by decide) (Or.inr rfl) ?_
          have loop52 : ∀ (mm : Nat) (k : Nat), k ≤ 849 → 900 - (k : Int) < (mm : Int) → xG E mX12_law (xR d 0 0) X 52 [some (.ref m), some (J (ls.length : Int)), some (J (k : Int))] [] (z, T, (upF (fR (fUse F m) m p b d9 c1) m 14 (-1)), upA I (m + 1) (cpyL (wS w1 2752 (ls.length : Int)) (k : Int)), P, Y) 0 0 := by
            intro mm
            induction mm with
            | zero => intro k hk hm; exfalso; omega
            | succ mm ih =>
              intro k hk hm
              skip
              refine xg_iloadn 53 dX12_law_52 rfl rfl rfl ?_
              refine xg_sipush 56 dX12_law_53 rfl (by decide) ?_
              refine xg_icge 85 59 dX12_law_56 rfl rfl (by omega) (fun hb56 => ?_) (fun hb56 => ?_)
              · skip
                refine xg_aloadn 86 dX12_law_85 rfl rfl rfl ?_
                refine xg_getP 89 kf_RX12_13 dX12_law_86 rfl (by assumption) (by assumption) ?_
                refine xg_iconst 90 dX12_law_89 rfl ?_
                refine xg_iconst 91 dX12_law_90 rfl ?_
                refine xg_iastW 92 dX12_law_91 rfl q2 (by rw [q3]; omega) ?_
                refine xg_aloadn 93 dX12_law_92 rfl rfl rfl ?_
                refine xg_iconst 94 dX12_law_93 rfl ?_
                refine xg_putI 97 kf_RX12_59 dX12_law_94 rfl (by assumption) ?_
                refine xg_iloadn 98 dX12_law_97 rfl rfl rfl ?_
                subst hX
                refine xg_ireturn dX12_law_98 rfl ⟨Nat.le_refl _, Nat.le_refl _⟩ ?_
                rw [hs, show k = 849 by omega]
                exact ⟨rfl, _, _, _, _, _, hD1, hR1, rfl⟩
              · skip
                refine xg_aloadn 60 dX12_law_59 rfl rfl rfl ?_
                refine xg_getP 63 kf_RX12_13 dX12_law_60 rfl (by assumption) (by assumption) ?_
                refine xg_sipush 66 dX12_law_63 rfl (by decide) ?_
                refine xg_iloadn 67 dX12_law_66 rfl rfl rfl ?_
                refine xg_iadd 68 dX12_law_67 rfl ?_
                refine xg_aloadn 69 dX12_law_68 rfl rfl rfl ?_
                refine xg_getP 72 kf_RX12_13 dX12_law_69 rfl (by assumption) (by assumption) ?_
                refine xg_sipush 75 dX12_law_72 rfl (by decide) ?_
                refine xg_iloadn 76 dX12_law_75 rfl rfl rfl ?_
                refine xg_iadd 77 dX12_law_76 rfl ?_
                refine xg_ialdW 78 dX12_law_77 rfl q2 (by rw [q3]; omega) ?_
                refine xg_iastW 79 dX12_law_78 rfl q2 (by rw [q3]; omega) ?_
                rw [cpyL_S _ (by omega)]
                refine xg_iinc 82 _ dX12_law_79 rfl rfl rfl rfl (by decide) (Or.inr rfl) ?_
                refine xg_goto 52 dX12_law_82 rfl ?_
                have l1 := ih (k + 1) (by omega) (by omega)
                rw [show ((k + 1 : Nat) : Int) = (k : Int) + 1 by omega] at l1
                exact xg_weak _ (xle_s rfl (xle_s rfl (xle_s rfl xle_0))) l1
          have l0 := loop52 1000 0 (by omega) (by omega)
          rw [show ((0 : Nat) : Int) = 0 from rfl, cpyL_0] at l0
          exact l0
        · exfalso; omega
      · exfalso; omega
    · exfalso; omega

