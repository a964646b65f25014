def sW1 (w : Int → Int) (key v : Int) : Int → Int := wS (wS w 9 (min 99999 (w 9 + 1))) (19 + key) v
noncomputable def sStp (w : Int → Int) (s : Int) : Int → Int :=
  wS (wS (sPaid (sCan w) 1) 10 (min 9999 (sPaid (sCan w) 1 10 + 1))) 11 (min 9999 (max (wS (sPaid (sCan w) 1) 10 (min 9999 (sPaid (sCan w) 1 10 + 1)) 11) (s + 1)))
noncomputable def sStl : Nat → (Int → Int) → Int → (Int → Int) × Int
  | 0, w, s => (w, s)
  | f + 1, w, s => if sCanB w = true then sStl f (sStp w s) (s + 1) else (sCan w, s)
def sStop : Nat → (Int → Int) → Int → Prop
  | 0, _, _ => False
  | f + 1, w, s => sCanB w = true → sStop f (sStp w s) (s + 1)
/-- how often a writer may stall at most (its value is 60000) -/
noncomputable def sFu : Nat := Classical.choose (⟨60000, rfl⟩ : ∃ k : Nat, k = 60000)
theorem sFu_eq : sFu = 60000 := Classical.choose_spec (⟨60000, rfl⟩ : ∃ k : Nat, k = 60000)
noncomputable def sRoom (w : Int → Int) : (Int → Int) × Int := if w 5 ≤ sEnt w 19 then
    ((if sCrowd (sStl sFu w 0).1 = true then (sStl sFu w 0).1 else sFlush (sStl sFu w 0).1), (sStl sFu w 0).2) else (w, 0)
noncomputable def sTail (w : Int → Int) : Int → Int := if sBeg w 16 = 1 then sPaid (sBeg w) 0 else sBeg w
noncomputable def sWrite (w : Int → Int) (key v : Int) : Int → Int := sTail (sRoom (sW1 w key v)).1
noncomputable def sWriteN (w : Int → Int) (key v : Int) : Int := (sRoom (sW1 w key v)).2
theorem wOk_W1 {w : Int → Int} (h : wOk w) {key v : Int} (hk : 0 ≤ key ∧ key < 60) (hv : 0 ≤ v ∧ v ≤ 100) : wOk (sW1 w key v) := by
  have h9 := h.2.2.2.2.2.2.2.2.1 9 (by omega) (by omega)
  refine wOk_S (wOk_S h _ _ ?_) _ _ ?_
  all_goals unfold wCell; omega
theorem wHi_W1 {w : Int → Int} {key v : Int} (hk : 0 ≤ key ∧ key < 60) : wHi w (sW1 w key v) := (wHi_S _ _ _ (by omega)).tr (wHi_S _ _ _ (by omega))
theorem wOk_can {w : Int → Int} (h : wOk w) : wOk (sCan w) := by
  unfold sCan; split
  · exact wOk_beg h
  · exact h
theorem wHi_can {w : Int → Int} (h : wOk w) : wHi w (sCan w) := by
  unfold sCan; split
  · exact wHi_beg h
  · exact wHi.rf
theorem wOk_stp {w : Int → Int} (h : wOk w) (hL : wLw w) {s : Int} (hs : 0 ≤ s) : wOk (sStp w s) := by
  have h1 := wOk_paid (wOk_can h) (wLw_hi (wHi_can h) hL) 1
  have h10 := h1.2.2.2.2.2.2.2.2.1 10 (by omega) (by omega)
  have h11 := h1.2.2.2.2.2.2.2.2.1 11 (by omega) (by omega)
  refine wOk_S (wOk_S h1 _ _ ?_) _ _ ?_
  · unfold wCell; omega
  · rw [wS_ne _ _ _ (by omega)]; unfold wCell; omega
theorem wHi_stp {w : Int → Int} (h : wOk w) (hL : wLw w) (s : Int) : wHi w (sStp w s) :=
  (((wHi_can h).tr (wHi_paid (wOk_can h) (wLw_hi (wHi_can h) hL) 1)).tr (wHi_S _ _ _ (by omega))).tr (wHi_S _ _ _ (by omega))
theorem sStl_ok : ∀ (f : Nat) {w : Int → Int} {s : Int}, wOk w → wLw w → 0 ≤ s → wOk (sStl f w s).1 ∧ wHi w (sStl f w s).1 ∧ s ≤ (sStl f w s).2 ∧ (sStl f w s).2 ≤ s + f
  | 0, w, s, h, _, _ => ⟨h, wHi.rf, Int.le_refl _, by show s ≤ s + 0; omega⟩
  | f + 1, w, s, h, hL, hs => by
    rw [sStl]
    split
    · have h1 := wHi_stp h hL s
      obtain ⟨a, b, c, d⟩ := sStl_ok f (wOk_stp h hL hs) (wLw_hi h1 hL) (show 0 ≤ s + 1 by omega)
      exact ⟨a, h1.tr b, by omega, by omega⟩
    · exact ⟨wOk_can h, wHi_can h, Int.le_refl _, by show s ≤ _; omega⟩
theorem sCrowd_lt {w : Int → Int} (h : wOk w) (hc : sCrowd w = false) : w 0 < 12 := by
  have o0 := h.2.1
  have := of_decide_eq_false hc
  omega
theorem sRoom_ok {w : Int → Int} (h : wOk w) (hL : wLw w) : wOk (sRoom w).1 ∧ wHi w (sRoom w).1 ∧ 0 ≤ (sRoom w).2 ∧ (sRoom w).2 ≤ 60000 := by
  obtain ⟨a, b, c, d⟩ := sStl_ok sFu h hL (show (0 : Int) ≤ 0 by omega)
  have hfu := sFu_eq
  unfold sRoom
  split
  · dsimp only
    split
    · exact ⟨a, b, c, by omega⟩
    · rename_i hc
      have hc : sCrowd (sStl sFu w 0).1 = false := by rw [← Bool.not_eq_true]; exact hc
      have h1 := sCrowd_lt a hc
      exact ⟨wOk_flush a h1, b.tr (wHi_flush a h1), c, by omega⟩
  · exact ⟨h, wHi.rf, Int.le_refl _, by show (0 : Int) ≤ 60000; omega⟩
theorem sTail_ok {w : Int → Int} (h : wOk w) (hL : wLw w) : wOk (sTail w) ∧ wHi w (sTail w) := by
  have h1 := wLw_hi (wHi_beg h) hL
  unfold sTail
  split
  · exact ⟨wOk_paid (wOk_beg h) h1 0, (wHi_beg h).tr (wHi_paid (wOk_beg h) h1 0)⟩
  · exact ⟨wOk_beg h, wHi_beg h⟩
theorem sWrite_ok {w : Int → Int} (h : wOk w) (hL : wLw w) {key v : Int} (hk : 0 ≤ key ∧ key < 60) (hv : 0 ≤ v ∧ v ≤ 100) : wOk (sWrite w key v) ∧ wHi w (sWrite w key v) ∧ 0 ≤ sWriteN w key v ∧ sWriteN w key v ≤ 60000 := by
  have h1 := wOk_W1 h hk hv
  have h2 := wHi_W1 (w := w) (v := v) hk
  obtain ⟨a, b, c, d⟩ := sRoom_ok h1 (wLw_hi h2 hL)
  obtain ⟨e1, e2⟩ := sTail_ok a (wLw_hi (h2.tr b) hL)
  exact ⟨e1, (h2.tr b).tr e2, c, d⟩
theorem sCan_t {w : Int → Int} (h : sCanB w = true) : sCan w 16 = 1 := by
  unfold sCanB at h
  rw [Bool.and_eq_true] at h
  unfold sCan
  rw [if_pos h.1]
  exact of_decide_eq_true h.2
theorem dX12_isWritten_0 : decode cX12_isWritten 0 = .ok (.aload_n 0, 1) := by decide +kernel
theorem dX12_isWritten_1 : decode cX12_isWritten 1 = .ok (.bipush 9, 2) := by decide +kernel
theorem dX12_isWritten_3 : decode cX12_isWritten 3 = .ok (.iconst 1, 1) := by decide +kernel
theorem dX12_isWritten_4 : decode cX12_isWritten 4 = .ok (.ldc_w 327, 3) := by decide +kernel
theorem dX12_isWritten_7 : decode cX12_isWritten 7 = .ok (.invokevirtual 302, 3) := by decide +kernel
theorem dX12_isWritten_10 : decode cX12_isWritten 10 = .ok (.aload_n 0, 1) := by decide +kernel
theorem dX12_isWritten_11 : decode cX12_isWritten 11 = .ok (.getfield 13, 3) := by decide +kernel
theorem dX12_isWritten_14 : decode cX12_isWritten 14 = .ok (.bipush 19, 2) := by decide +kernel
theorem dX12_isWritten_16 : decode cX12_isWritten 16 = .ok (.iload_n 1, 1) := by decide +kernel
theorem dX12_isWritten_17 : decode cX12_isWritten 17 = .ok (.iadd, 1) := by decide +kernel
theorem dX12_isWritten_18 : decode cX12_isWritten 18 = .ok (.iload_n 2, 1) := by decide +kernel
theorem dX12_isWritten_19 : decode cX12_isWritten 19 = .ok (.iastore, 1) := by decide +kernel
theorem dX12_isWritten_20 : decode cX12_isWritten 20 = .ok (.iconst 0, 1) := by decide +kernel
theorem dX12_isWritten_21 : decode cX12_isWritten 21 = .ok (.istore_n 3, 1) := by decide +kernel
theorem dX12_isWritten_22 : decode cX12_isWritten 22 = .ok (.aload_n 0, 1) := by decide +kernel
theorem dX12_isWritten_23 : decode cX12_isWritten 23 = .ok (.bipush 19, 2) := by decide +kernel
theorem dX12_isWritten_25 : decode cX12_isWritten 25 = .ok (.invokevirtual 268, 3) := by decide +kernel
theorem dX12_isWritten_28 : decode cX12_isWritten 28 = .ok (.aload_n 0, 1) := by decide +kernel
theorem dX12_isWritten_29 : decode cX12_isWritten 29 = .ok (.getfield 13, 3) := by decide +kernel
theorem dX12_isWritten_32 : decode cX12_isWritten 32 = .ok (.iconst 5, 1) := by decide +kernel
theorem dX12_isWritten_33 : decode cX12_isWritten 33 = .ok (.iaload, 1) := by decide +kernel
theorem dX12_isWritten_34 : decode cX12_isWritten 34 = .ok (.if_icmp .lt 67, 3) := by decide +kernel
theorem dX12_isWritten_37 : decode cX12_isWritten 37 = .ok (.aload_n 0, 1) := by decide +kernel
theorem dX12_isWritten_38 : decode cX12_isWritten 38 = .ok (.invokevirtual 358, 3) := by decide +kernel
theorem dX12_isWritten_41 : decode cX12_isWritten 41 = .ok (.ifCond .eq 49, 3) := by decide +kernel
theorem dX12_isWritten_44 : decode cX12_isWritten 44 = .ok (.aload_n 0, 1) := by decide +kernel
theorem dX12_isWritten_45 : decode cX12_isWritten 45 = .ok (.iconst 1, 1) := by decide +kernel
theorem dX12_isWritten_46 : decode cX12_isWritten 46 = .ok (.invokevirtual 361, 3) := by decide +kernel
theorem dX12_isWritten_49 : decode cX12_isWritten 49 = .ok (.pop, 1) := by decide +kernel
theorem dX12_isWritten_50 : decode cX12_isWritten 50 = .ok (.aload_n 0, 1) := by decide +kernel
theorem dX12_isWritten_51 : decode cX12_isWritten 51 = .ok (.bipush 10, 2) := by decide +kernel
theorem dX12_isWritten_53 : decode cX12_isWritten 53 = .ok (.iconst 1, 1) := by decide +kernel
theorem dX12_isWritten_54 : decode cX12_isWritten 54 = .ok (.sipush 9999, 3) := by decide +kernel
theorem dX12_isWritten_57 : decode cX12_isWritten 57 = .ok (.invokevirtual 302, 3) := by decide +kernel
theorem dX12_isWritten_60 : decode cX12_isWritten 60 = .ok (.iinc 3 1, 3) := by decide +kernel
theorem dX12_isWritten_63 : decode cX12_isWritten 63 = .ok (.aload_n 0, 1) := by decide +kernel
theorem dX12_isWritten_64 : decode cX12_isWritten 64 = .ok (.getfield 13, 3) := by decide +kernel
theorem dX12_isWritten_67 : decode cX12_isWritten 67 = .ok (.bipush 11, 2) := by decide +kernel
theorem dX12_isWritten_69 : decode cX12_isWritten 69 = .ok (.sipush 9999, 3) := by decide +kernel
theorem dX12_isWritten_72 : decode cX12_isWritten 72 = .ok (.aload_n 0, 1) := by decide +kernel
theorem dX12_isWritten_73 : decode cX12_isWritten 73 = .ok (.getfield 13, 3) := by decide +kernel
theorem dX12_isWritten_76 : decode cX12_isWritten 76 = .ok (.bipush 11, 2) := by decide +kernel
theorem dX12_isWritten_78 : decode cX12_isWritten 78 = .ok (.iaload, 1) := by decide +kernel
theorem dX12_isWritten_79 : decode cX12_isWritten 79 = .ok (.iload_n 3, 1) := by decide +kernel
theorem dX12_isWritten_80 : decode cX12_isWritten 80 = .ok (.invokestatic 343, 3) := by decide +kernel
theorem dX12_isWritten_83 : decode cX12_isWritten 83 = .ok (.invokestatic 74, 3) := by decide +kernel
theorem dX12_isWritten_86 : decode cX12_isWritten 86 = .ok (.iastore, 1) := by decide +kernel
theorem dX12_isWritten_87 : decode cX12_isWritten 87 = .ok (.goto (-50), 3) := by decide +kernel
theorem dX12_isWritten_90 : decode cX12_isWritten 90 = .ok (.aload_n 0, 1) := by decide +kernel
theorem dX12_isWritten_91 : decode cX12_isWritten 91 = .ok (.invokevirtual 352, 3) := by decide +kernel
theorem dX12_isWritten_94 : decode cX12_isWritten 94 = .ok (.ifCond .ne 7, 3) := by decide +kernel
theorem dX12_isWritten_97 : decode cX12_isWritten 97 = .ok (.aload_n 0, 1) := by decide +kernel
theorem dX12_isWritten_98 : decode cX12_isWritten 98 = .ok (.invokevirtual 364, 3) := by decide +kernel
theorem dX12_isWritten_101 : decode cX12_isWritten 101 = .ok (.aload_n 0, 1) := by decide +kernel
theorem dX12_isWritten_102 : decode cX12_isWritten 102 = .ok (.invokevirtual 355, 3) := by decide +kernel
theorem dX12_isWritten_105 : decode cX12_isWritten 105 = .ok (.aload_n 0, 1) := by decide +kernel
theorem dX12_isWritten_106 : decode cX12_isWritten 106 = .ok (.invokevirtual 278, 3) := by decide +kernel
theorem dX12_isWritten_109 : decode cX12_isWritten 109 = .ok (.ifCond .eq 9, 3) := by decide +kernel
theorem dX12_isWritten_112 : decode cX12_isWritten 112 = .ok (.aload_n 0, 1) := by decide +kernel
theorem dX12_isWritten_113 : decode cX12_isWritten 113 = .ok (.iconst 0, 1) := by decide +kernel
theorem dX12_isWritten_114 : decode cX12_isWritten 114 = .ok (.invokevirtual 361, 3) := by decide +kernel
theorem dX12_isWritten_117 : decode cX12_isWritten 117 = .ok (.pop, 1) := by decide +kernel
theorem dX12_isWritten_118 : decode cX12_isWritten 118 = .ok (.iload_n 3, 1) := by decide +kernel
theorem dX12_isWritten_119 : decode cX12_isWritten 119 = .ok (.ireturn, 1) := by decide +kernel
set_option maxHeartbeats 4000000 in
set_option maxRecDepth 100000 in
theorem ct_X12_isWritten {E : xE} {z : Nat} {T : Nat → Nat × Int} {F : Nat → Nat → Int} {I : Nat → Int → Int} {P : Nat → Nat → Option Nat} {Y : Nat → Int → Option Nat} {m : Nat} {w : Int → Int} (hw : wM T P m) (hO : wOk w) (hL : wLw w){key v : Int} (hk : 0 ≤ key ∧ key < 60) (hv : 0 ≤ v ∧ v ≤ 100) (hS : sStop sFu (sW1 w key v) 0) : Ct E 12 mX12_isWritten 0 0 [.ref m, J key, J v] (z, T, F, upA I (m + 1) w, P, Y) (xs m (some (J (sWriteN w key v))) z T F I (sWrite w key v) P Y) := by
  obtain ⟨⟨q0, q1, q2, q3⟩, -⟩ := id hw
  have hR := hO.1
  have o9 := hO.2.2.2.2.2.2.2.2.1 9 (by omega) (by omega)
  have hO1 := wOk_W1 hO hk hv
  have hL1 := wLw_hi (wHi_W1 (w := w) (v := v) hk) hL
  have heb := sEnt_bd (sW1 w key v) 19
  have hs5 := hO1.2.2.2.2.2.2.1
  have hfu := sFu_eq
  obtain ⟨r1, r2, r3, r4⟩ := sRoom_ok hO1 hL1
  have hLr := wLw_hi r2 hL1
  have hOb := wOk_beg r1
  have hLb := wLw_hi (wHi_beg r1) hLr
  refine Ct.of [some (.ref m), some (J key), some (J v), none] kt_X12_isWritten rfl (Nat.le_of_ble_eq_true rfl) rfl (fun d hd => ?_)
  generalize hX : xN E _ _ _ = X
  refine xg_aloadn 1 dX12_isWritten_0 rfl rfl rfl ?_
  refine xg_bipush 3 dX12_isWritten_1 rfl (by decide) ?_
  refine xg_iconst 4 dX12_isWritten_3 rfl ?_
  refine xg_ldcw (z := 99999) 7 kk_RX12_327 dX12_isWritten_4 rfl rfl ?_
  refine xg_callV 10 12 [_, _, _] _ kv_X12_more ⟨_, _, rfl⟩ kl_RX12_302 dX12_isWritten_7 rfl (by assumption) (by omega) rfl rfl (Nat.le_of_ble_eq_true rfl) (by omega) ⟨Nat.le_refl _, Nat.le_refl _⟩ (ct_X12_more hw (by omega) (by omega) (by omega)) rfl ?_
  refine xg_aloadn 11 dX12_isWritten_10 rfl rfl rfl ?_
  refine xg_getP 14 kf_RX12_13 dX12_isWritten_11 rfl (by assumption) (by assumption) ?_
  refine xg_bipush 16 dX12_isWritten_14 rfl (by decide) ?_
  refine xg_iloadn 17 dX12_isWritten_16 rfl rfl rfl ?_
  refine xg_iadd 18 dX12_isWritten_17 rfl ?_
  refine xg_iloadn 19 dX12_isWritten_18 rfl rfl rfl ?_
  refine xg_iastW 20 dX12_isWritten_19 rfl (by assumption) (by first | omega | exact hR _ | exact ⟨hR _, by omega⟩ | exact ⟨by omega, hR _⟩ | exact ⟨hR _, hR _⟩) ?_
  refine xg_iconst 21 dX12_isWritten_20 rfl ?_
  refine xg_istoren 22 _ dX12_isWritten_21 rfl rfl rfl (by decide) (Or.inr rfl) ?_
  have join101 : ∀ (Ia : Nat → Int → Int), xScr m I Ia → xG E mX12_isWritten (xR d 0 0) X 101 [some (.ref m), some (J key), some (J v), some (J (sRoom (sW1 w key v)).2)] [] (z, T, F, upA Ia (m + 1) (sRoom (sW1 w key v)).1, P, Y) 0 0 := by
    intro Ia hIa
    refine xg_aloadn 102 dX12_isWritten_101 rfl rfl rfl ?_
    refine xg_callVs 105 12 [] _ kv_X12_mayBegin ⟨_, _, rfl⟩ kl_RX12_355 dX12_isWritten_102 rfl (by assumption) (by omega) rfl rfl (Nat.le_of_ble_eq_true rfl) (by omega) ⟨Nat.le_refl _, Nat.le_refl _⟩ (ct_X12_mayBegin hw r1 hLr) rfl (fun Id hId => ?_)
    refine xg_aloadn 106 dX12_isWritten_105 rfl rfl rfl ?_
    refine xg_callV 109 12 [] _ kv_X12_isBusy ⟨_, _, rfl⟩ kl_RX12_278 dX12_isWritten_106 rfl (by assumption) (by omega) rfl rfl (Nat.le_of_ble_eq_true rfl) (by omega) ⟨Nat.le_refl _, Nat.le_refl _⟩ (ct_X12_isBusy hw hOb.1) rfl ?_
    refine xg_deq 118 112 dX12_isWritten_109 rfl rfl (fun hb109 => ?_) (fun hb109 => ?_)
    · skip
      refine xg_iloadn 119 dX12_isWritten_118 rfl rfl rfl ?_
      subst hX
      exact xg_ireturn dX12_isWritten_119 rfl ⟨Nat.le_refl _, Nat.le_refl _⟩ ⟨rfl, Id, hIa.tr hId, by unfold sWrite sTail; rw [if_neg hb109]⟩
    · skip
      refine xg_aloadn 113 dX12_isWritten_112 rfl rfl rfl ?_
      refine xg_iconst 114 dX12_isWritten_113 rfl ?_
      refine xg_callVs 117 12 [_] _ kv_X12_paidSlice ⟨_, _, rfl⟩ kl_RX12_361 dX12_isWritten_114 rfl (by assumption) (by omega) rfl rfl (Nat.le_of_ble_eq_true rfl) (by omega) ⟨Nat.le_refl _, Nat.le_refl _⟩ (ct_X12_paidSlice hw hOb hLb (by omega)) rfl (fun Ie hIe => ?_)
      refine xg_pop 118 dX12_isWritten_117 rfl rfl ?_
      refine xg_iloadn 119 dX12_isWritten_118 rfl rfl rfl ?_
      subst hX
      exact xg_ireturn dX12_isWritten_119 rfl ⟨Nat.le_refl _, Nat.le_refl _⟩ ⟨rfl, Ie, (hIa.tr hId).tr hIe, by unfold sWrite sTail; rw [if_pos hb109]⟩
  refine xg_aloadn 23 dX12_isWritten_22 rfl rfl rfl ?_
  refine xg_bipush 25 dX12_isWritten_23 rfl (by decide) ?_
  refine xg_callV 28 12 [_] _ kv_X12_entriesOf ⟨_, _, rfl⟩ kl_RX12_268 dX12_isWritten_25 rfl (by assumption) (by omega) rfl rfl (Nat.le_of_ble_eq_true rfl) (by omega) ⟨Nat.le_refl _, Nat.le_refl _⟩ (ct_X12_entriesOf hw hO1.1 (by omega)) rfl ?_
  refine xg_aloadn 29 dX12_isWritten_28 rfl rfl rfl ?_
  refine xg_getP 32 kf_RX12_13 dX12_isWritten_29 rfl (by assumption) (by assumption) ?_
  refine xg_iconst 33 dX12_isWritten_32 rfl ?_
  refine xg_ialdW 34 dX12_isWritten_33 rfl (by assumption) (by first | omega | exact hR _ | exact ⟨hR _, by omega⟩ | exact ⟨by omega, hR _⟩ | exact ⟨hR _, hR _⟩) ?_
  refine xg_iclt 101 37 dX12_isWritten_34 rfl rfl (by first | omega | exact hR _ | exact ⟨hR _, by omega⟩ | exact ⟨by omega, hR _⟩ | exact ⟨hR _, hR _⟩) (fun hb34 => ?_) (fun hb34 => ?_)
  · skip
    have hr0 : sRoom (sW1 w key v) = (sW1 w key v, 0) := by unfold sRoom; rw [if_neg (by omega)]
    have j0 := join101 I xScr.rf
    rw [hr0] at j0
    exact j0
  · skip
    have loop37 : ∀ (mm : Nat) (f : Nat) (W : Int → Int) (s : Int) (Ia : Nat → Int → Int), wOk W → wLw W → sStop f W s → sStl f W s = sStl sFu (sW1 w key v) 0 → (0 ≤ s ∧ s + f ≤ 60000) → xScr m I Ia → (f : Int) < (mm : Int) → xG E mX12_isWritten (xR d 0 0) X 37 [some (.ref m), some (J key), some (J v), some (J s)] [] (z, T, F, upA Ia (m + 1) W, P, Y) 0 0 := by
      intro mm
      induction mm with
      | zero => intro f W s Ia hW hLW hSt he hsb hIa hm; exfalso; omega
      | succ mm ih =>
        intro f W s Ia hW hLW hSt he hsb hIa hm
        obtain ⟨f, rfl⟩ : ∃ g, f = g + 1 := by
          cases f with
          | zero => exact hSt.elim
          | succ g => exact ⟨g, rfl⟩
        rw [sStl] at he
        have hOc := wOk_can hW
        have hLc := wLw_hi (wHi_can hW) hLW
        have hOp := wOk_paid hOc hLc 1
        have p10 := hOp.2.2.2.2.2.2.2.2.1 10 (by omega) (by omega)
        have p11 := hOp.2.2.2.2.2.2.2.2.1 11 (by omega) (by omega)
        refine xg_aloadn 38 dX12_isWritten_37 rfl rfl rfl ?_
        refine xg_callVs 41 12 [] _ kv_X12_canGoOn ⟨_, _, rfl⟩ kl_RX12_358 dX12_isWritten_38 rfl (by assumption) (by omega) rfl rfl (Nat.le_of_ble_eq_true rfl) (by omega) ⟨Nat.le_refl _, Nat.le_refl _⟩ (ct_X12_canGoOn hw hW hLW) rfl (fun Ib hIb => ?_)
        refine xg_beq 90 44 dX12_isWritten_41 rfl rfl (fun hb41 => ?_) (fun hb41 => ?_)
        · skip
          have he2 : (sCan W, s) = sStl sFu (sW1 w key v) 0 := by rw [← he, if_neg (by rw [hb41]; decide)]
          refine xg_aloadn 91 dX12_isWritten_90 rfl rfl rfl ?_
          refine xg_callV 94 12 [] _ kv_X12_isCrowded ⟨_, _, rfl⟩ kl_RX12_352 dX12_isWritten_91 rfl (by assumption) (by omega) rfl rfl (Nat.le_of_ble_eq_true rfl) (by omega) ⟨Nat.le_refl _, Nat.le_refl _⟩ (ct_X12_isCrowded hw hOc) rfl ?_
          refine xg_bne 101 97 dX12_isWritten_94 rfl rfl (fun hb94 => ?_) (fun hb94 => ?_)
          · skip
            have hr0 : sRoom (sW1 w key v) = (sCan W, s) := by unfold sRoom; rw [if_pos hb34, ← he2]; dsimp only; rw [if_pos hb94]
            have j0 := join101 Ib (hIa.tr hIb)
            rw [hr0] at j0
            exact xg_weak _ (xle_s rfl (xle_s rfl (xle_s rfl (xle_s rfl xle_0)))) j0
          · skip
            refine xg_aloadn 98 dX12_isWritten_97 rfl rfl rfl ?_
            refine xg_callV 101 12 [] _ kv_X12_isFlushed ⟨_, _, rfl⟩ kl_RX12_364 dX12_isWritten_98 rfl (by assumption) (by omega) rfl rfl (Nat.le_of_ble_eq_true rfl) (by omega) ⟨Nat.le_refl _, Nat.le_refl _⟩ (ct_X12_isFlushed hw hOc (sCrowd_lt hOc hb94)) rfl ?_
            have hr0 : sRoom (sW1 w key v) = (sFlush (sCan W), s) := by unfold sRoom; rw [if_pos hb34, ← he2]; dsimp only; rw [if_neg (by rw [hb94]; decide)]
            have j0 := join101 Ib (hIa.tr hIb)
            rw [hr0] at j0
            exact xg_weak _ (xle_s rfl (xle_s rfl (xle_s rfl (xle_s rfl xle_0)))) j0
        · skip
          refine xg_aloadn 45 dX12_isWritten_44 rfl rfl rfl ?_
          refine xg_iconst 46 dX12_isWritten_45 rfl ?_
          refine xg_callVs 49 12 [_] _ kv_X12_paidSlice ⟨_, _, rfl⟩ kl_RX12_361 dX12_isWritten_46 rfl (by assumption) (by omega) rfl rfl (Nat.le_of_ble_eq_true rfl) (by omega) ⟨Nat.le_refl _, Nat.le_refl _⟩ (ct_X12_paidSlice hw hOc hLc (by omega)) rfl (fun Ic hIc => ?_)
          refine xg_pop 50 dX12_isWritten_49 rfl rfl ?_
          refine xg_aloadn 51 dX12_isWritten_50 rfl rfl rfl ?_
          refine xg_bipush 53 dX12_isWritten_51 rfl (by decide) ?_
          refine xg_iconst 54 dX12_isWritten_53 rfl ?_
          refine xg_sipush 57 dX12_isWritten_54 rfl (by decide) ?_
          refine xg_callV 60 12 [_, _, _] _ kv_X12_more ⟨_, _, rfl⟩ kl_RX12_302 dX12_isWritten_57 rfl (by assumption) (by omega) rfl rfl (Nat.le_of_ble_eq_true rfl) (by omega) ⟨Nat.le_refl _, Nat.le_refl _⟩ (ct_X12_more hw (by omega) (by omega) (by omega)) rfl ?_
          refine xg_iinc 63 _ dX12_isWritten_60 rfl rfl rfl rfl (by decide) (Or.inr rfl) ?_
          refine xg_aloadn 64 dX12_isWritten_63 rfl rfl rfl ?_
          refine xg_getP 67 kf_RX12_13 dX12_isWritten_64 rfl (by assumption) (by assumption) ?_
          refine xg_bipush 69 dX12_isWritten_67 rfl (by decide) ?_
          refine xg_sipush 72 dX12_isWritten_69 rfl (by decide) ?_
          refine xg_aloadn 73 dX12_isWritten_72 rfl rfl rfl ?_
          refine xg_getP 76 kf_RX12_13 dX12_isWritten_73 rfl (by assumption) (by assumption) ?_
          refine xg_bipush 78 dX12_isWritten_76 rfl (by decide) ?_
          have hp11 : wS (sPaid (sCan W) 1) 10 (min 9999 (sPaid (sCan W) 1 10 + 1)) 11 = sPaid (sCan W) 1 11 := wS_ne _ _ _ (by omega)
          refine xg_ialdW 79 dX12_isWritten_78 rfl (by assumption) (by first | omega | exact hR _ | exact ⟨hR _, by omega⟩ | exact ⟨by omega, hR _⟩ | exact ⟨hR _, hR _⟩) ?_
          refine xg_iloadn 80 dX12_isWritten_79 rfl rfl rfl ?_
          refine xg_mmax 83 kl_RX12_343 dX12_isWritten_80 rfl (by first | omega | exact hR _ | exact ⟨hR _, by omega⟩ | exact ⟨by omega, hR _⟩ | exact ⟨hR _, hR _⟩) (Nat.le_of_ble_eq_true rfl) (by omega) ⟨Nat.le_refl _, Nat.le_refl _⟩ ?_
          refine xg_mmin 86 kl_RX12_74 dX12_isWritten_83 rfl (by first | omega | exact hR _ | exact ⟨hR _, by omega⟩ | exact ⟨by omega, hR _⟩ | exact ⟨hR _, hR _⟩) (Nat.le_of_ble_eq_true rfl) (by omega) ⟨Nat.le_refl _, Nat.le_refl _⟩ ?_
          refine xg_iastW 87 dX12_isWritten_86 rfl (by assumption) (by first | omega | exact hR _ | exact ⟨hR _, by omega⟩ | exact ⟨by omega, hR _⟩ | exact ⟨hR _, hR _⟩) ?_
          refine xg_goto 37 dX12_isWritten_87 rfl ?_
          exact xg_weak _ (xle_s rfl (xle_s rfl (xle_s rfl (xle_s rfl xle_0)))) (ih f (sStp W s) (s + 1) Ic (wOk_stp hW hLW hsb.1) (wLw_hi (wHi_stp hW hLW s) hLW) (hSt hb41) (by rw [← he, if_pos hb41]) (by omega) ((hIa.tr hIb).tr hIc) (by omega))
    exact xg_weak _ (xle_s rfl (xle_s rfl (xle_s rfl (xle_s rfl xle_0)))) (loop37 60001 sFu (sW1 w key v) 0 I hO1 hL1 hS rfl (by omega) xScr.rf (by omega))

/-- the draws of a tick: the seed three times on, the key and the value -/
def sSeed (w : Int → Int) : Int → Int := wS w 15 (xw (1103515245 * w 15 + 12345))
def sDraw (w : Int → Int) (x : Int) : Int := xand (xshr (xw (1103515245 * w 15 + 12345)) 16) 32767 % x
def sGone (w : Int → Int) : Bool := decide (sDraw (sSeed w) 4 = 0)
def sTkV (w : Int → Int) : Int := if sGone w = true then 100 else sDraw (sSeed (sSeed w)) 100
def sTkW (w : Int → Int) : Int → Int := if sGone w = true then sSeed (sSeed w) else sSeed (sSeed (sSeed w))
noncomputable def sTick (w : Int → Int) : Int → Int := wS (sWrite (sTkW w) (sDraw w 60) (sTkV w)) 13 (min 9999 (sWrite (sTkW w) (sDraw w 60) (sTkV w) 13 + 1))
noncomputable def sTickN (w : Int → Int) : Int := sWriteN (sTkW w) (sDraw w 60) (sTkV w)
theorem sDraw_bd (w : Int → Int) {x : Int} (hx : 0 < x) : 0 ≤ sDraw w x ∧ sDraw w x < x := ⟨Int.emod_nonneg _ (by omega), Int.emod_lt_of_pos _ hx⟩
theorem wOk_seed {w : Int → Int} (h : wOk w) : wOk (sSeed w) := wOk_S h _ _ (by have := xw_r (1103515245 * w 15 + 12345); unfold wCell; omega)
theorem wHi_seed (w : Int → Int) : wHi w (sSeed w) := wHi_S _ _ _ (by omega)
theorem wOk_tkW {w : Int → Int} (h : wOk w) : wOk (sTkW w) := by
  unfold sTkW; split
  · exact wOk_seed (wOk_seed h)
  · exact wOk_seed (wOk_seed (wOk_seed h))
theorem wHi_tkW (w : Int → Int) : wHi w (sTkW w) := by
  unfold sTkW; split
  · exact (wHi_seed _).tr (wHi_seed _)
  · exact ((wHi_seed _).tr (wHi_seed _)).tr (wHi_seed _)
theorem sTkV_bd (w : Int → Int) : 0 ≤ sTkV w ∧ sTkV w ≤ 100 := by
  have := sDraw_bd (sSeed (sSeed w)) (x := 100) (by omega)
  unfold sTkV; split <;> omega
theorem sTick_ok {w : Int → Int} (h : wOk w) (hL : wLw w) : wOk (sTick w) ∧ wHi w (sTick w) ∧ 0 ≤ sTickN w ∧ sTickN w ≤ 60000 := by
  have h1 := sDraw_bd w (x := 60) (by omega)
  obtain ⟨a, b, c, d⟩ := sWrite_ok (wOk_tkW h) (wLw_hi (wHi_tkW w) hL) (key := sDraw w 60) (v := sTkV w) (by omega) (sTkV_bd w)
  have h13 := a.2.2.2.2.2.2.2.2.2.1
  exact ⟨wOk_S a _ _ (by unfold wCell; omega), ((wHi_tkW w).tr b).tr (wHi_S _ _ _ (by omega)), c, d⟩
/-- a tick's writing comes to its end -/
def sTickS (w : Int → Int) : Prop := sStop sFu (sW1 (sTkW w) (sDraw w 60) (sTkV w)) 0
noncomputable def sGo : Nat → (Int → Int) → (Int → Int) × Int
  | 0, w => (w, 0)
  | k + 1, w => (sTick (sGo k w).1, (sGo k w).2 + sTickN (sGo k w).1)
theorem sGo_ok {w : Int → Int} (h : wOk w) (hL : wLw w) : ∀ k : Nat, wOk (sGo k w).1 ∧ wHi w (sGo k w).1 ∧ 0 ≤ (sGo k w).2 ∧ (sGo k w).2 ≤ 60000 * k
  | 0 => ⟨h, wHi.rf, Int.le_refl _, by show (0 : Int) ≤ 60000 * 0; omega⟩
  | k + 1 => by
    obtain ⟨a, b, c, d⟩ := sGo_ok h hL k
    obtain ⟨e, f, g, i⟩ := sTick_ok a (wLw_hi b hL)
    rw [sGo]
    exact ⟨e, b.tr f, by dsimp only; omega, by dsimp only; omega⟩
def sGoS (w : Int → Int) (n : Nat) : Prop := ∀ k, k < n → sTickS (sGo k w).1
theorem dX12_oneTick_0 : decode cX12_oneTick 0 = .ok (.aload_n 0, 1) := by decide +kernel
theorem dX12_oneTick_1 : decode cX12_oneTick 1 = .ok (.bipush 60, 2) := by decide +kernel
theorem dX12_oneTick_3 : decode cX12_oneTick 3 = .ok (.invokevirtual 367, 3) := by decide +kernel
theorem dX12_oneTick_6 : decode cX12_oneTick 6 = .ok (.istore_n 1, 1) := by decide +kernel
theorem dX12_oneTick_7 : decode cX12_oneTick 7 = .ok (.aload_n 0, 1) := by decide +kernel
theorem dX12_oneTick_8 : decode cX12_oneTick 8 = .ok (.iconst 4, 1) := by decide +kernel
theorem dX12_oneTick_9 : decode cX12_oneTick 9 = .ok (.invokevirtual 367, 3) := by decide +kernel
theorem dX12_oneTick_12 : decode cX12_oneTick 12 = .ok (.ifCond .ne 7, 3) := by decide +kernel
theorem dX12_oneTick_15 : decode cX12_oneTick 15 = .ok (.iconst 1, 1) := by decide +kernel
theorem dX12_oneTick_16 : decode cX12_oneTick 16 = .ok (.goto 4, 3) := by decide +kernel
theorem dX12_oneTick_19 : decode cX12_oneTick 19 = .ok (.iconst 0, 1) := by decide +kernel
theorem dX12_oneTick_20 : decode cX12_oneTick 20 = .ok (.istore_n 2, 1) := by decide +kernel
theorem dX12_oneTick_21 : decode cX12_oneTick 21 = .ok (.aload_n 0, 1) := by decide +kernel
theorem dX12_oneTick_22 : decode cX12_oneTick 22 = .ok (.iload_n 1, 1) := by decide +kernel
theorem dX12_oneTick_23 : decode cX12_oneTick 23 = .ok (.iload_n 2, 1) := by decide +kernel
theorem dX12_oneTick_24 : decode cX12_oneTick 24 = .ok (.ifCond .eq 8, 3) := by decide +kernel
theorem dX12_oneTick_27 : decode cX12_oneTick 27 = .ok (.bipush 100, 2) := by decide +kernel
theorem dX12_oneTick_29 : decode cX12_oneTick 29 = .ok (.goto 9, 3) := by decide +kernel
theorem dX12_oneTick_32 : decode cX12_oneTick 32 = .ok (.aload_n 0, 1) := by decide +kernel
theorem dX12_oneTick_33 : decode cX12_oneTick 33 = .ok (.bipush 100, 2) := by decide +kernel
theorem dX12_oneTick_35 : decode cX12_oneTick 35 = .ok (.invokevirtual 367, 3) := by decide +kernel
theorem dX12_oneTick_38 : decode cX12_oneTick 38 = .ok (.invokevirtual 140, 3) := by decide +kernel
theorem dX12_oneTick_41 : decode cX12_oneTick 41 = .ok (.istore_n 3, 1) := by decide +kernel
theorem dX12_oneTick_42 : decode cX12_oneTick 42 = .ok (.aload_n 0, 1) := by decide +kernel
theorem dX12_oneTick_43 : decode cX12_oneTick 43 = .ok (.bipush 13, 2) := by decide +kernel
theorem dX12_oneTick_45 : decode cX12_oneTick 45 = .ok (.iconst 1, 1) := by decide +kernel
theorem dX12_oneTick_46 : decode cX12_oneTick 46 = .ok (.sipush 9999, 3) := by decide +kernel
theorem dX12_oneTick_49 : decode cX12_oneTick 49 = .ok (.invokevirtual 302, 3) := by decide +kernel
theorem dX12_oneTick_52 : decode cX12_oneTick 52 = .ok (.iload_n 3, 1) := by decide +kernel
theorem dX12_oneTick_53 : decode cX12_oneTick 53 = .ok (.ireturn, 1) := by decide +kernel
set_option maxHeartbeats 4000000 in
set_option maxRecDepth 100000 in
theorem ct_X12_oneTick {E : xE} {z : Nat} {T : Nat → Nat × Int} {F : Nat → Nat → Int} {I : Nat → Int → Int} {P : Nat → Nat → Option Nat} {Y : Nat → Int → Option Nat} {m : Nat} {w : Int → Int} (hw : wM T P m) (hO : wOk w) (hL : wLw w)(hS : sTickS w) : Ct E 13 mX12_oneTick 0 0 [.ref m] (z, T, F, upA I (m + 1) w, P, Y) (xs m (some (J (sTickN w))) z T F I (sTick w) P Y) := by
  obtain ⟨⟨q0, q1, q2, q3⟩, -⟩ := id hw
  have hR := hO.1
  have hdb := sDraw_bd w (x := 60) (by omega)
  have hdb4 := sDraw_bd (sSeed w) (x := 4) (by omega)
  have hv := sTkV_bd w
  have hOk := wOk_tkW hO
  have hLk := wLw_hi (wHi_tkW w) hL
  obtain ⟨t1, t2, t3, t4⟩ := sWrite_ok hOk hLk (key := sDraw w 60) (v := sTkV w) (by omega) hv
  have h13 := t1.2.2.2.2.2.2.2.2.2.1
  refine Ct.of [some (.ref m), none, none, none] kt_X12_oneTick rfl (Nat.le_of_ble_eq_true rfl) rfl (fun d hd => ?_)
  generalize hX : xN E _ _ _ = X
  refine xg_aloadn 1 dX12_oneTick_0 rfl rfl rfl ?_
  refine xg_bipush 3 dX12_oneTick_1 rfl (by decide) ?_
  refine xg_callV 6 12 [_] _ kv_X12_drawn ⟨_, _, rfl⟩ kl_RX12_367 dX12_oneTick_3 rfl (by assumption) (by omega) rfl rfl (Nat.le_of_ble_eq_true rfl) (by omega) ⟨Nat.le_refl _, Nat.le_refl _⟩ (ct_X12_drawn hw (by omega)) rfl ?_
  change xG _ _ _ _ _ _ (J (sDraw w 60) :: _) (z, T, F, upA I (m + 1) (sSeed w), P, Y) _ _
  refine xg_istoren 7 _ dX12_oneTick_6 rfl rfl rfl (by decide) (Or.inr rfl) ?_
  refine xg_aloadn 8 dX12_oneTick_7 rfl rfl rfl ?_
  refine xg_iconst 9 dX12_oneTick_8 rfl ?_
  refine xg_callV 12 12 [_] _ kv_X12_drawn ⟨_, _, rfl⟩ kl_RX12_367 dX12_oneTick_9 rfl (by assumption) (by omega) rfl rfl (Nat.le_of_ble_eq_true rfl) (by omega) ⟨Nat.le_refl _, Nat.le_refl _⟩ (ct_X12_drawn hw (by omega)) rfl ?_
  change xG _ _ _ _ _ _ (J (sDraw (sSeed w) 4) :: _) (z, T, F, upA I (m + 1) (sSeed (sSeed w)), P, Y) _ _
  refine xg_ifne 19 15 dX12_oneTick_12 rfl rfl (by first | omega | exact hR _ | exact ⟨hR _, by omega⟩ | exact ⟨by omega, hR _⟩ | exact ⟨hR _, hR _⟩) (fun hb12 => ?_) (fun hb12 => ?_)
  · skip
    refine xg_iconst 20 dX12_oneTick_19 rfl ?_
    refine xg_istoren 21 _ dX12_oneTick_20 rfl rfl rfl (by decide) (Or.inr rfl) ?_
    refine xg_aloadn 22 dX12_oneTick_21 rfl rfl rfl ?_
    refine xg_iloadn 23 dX12_oneTick_22 rfl rfl rfl ?_
    refine xg_iloadn 24 dX12_oneTick_23 rfl rfl rfl ?_
    refine xg_ifeq 32 27 dX12_oneTick_24 rfl rfl (by first | omega | exact hR _ | exact ⟨hR _, by omega⟩ | exact ⟨by omega, hR _⟩ | exact ⟨hR _, hR _⟩) (fun hb24 => ?_) (fun hb24 => ?_)
    · skip
      refine xg_aloadn 33 dX12_oneTick_32 rfl rfl rfl ?_
      refine xg_bipush 35 dX12_oneTick_33 rfl (by decide) ?_
      refine xg_callV 38 12 [_] _ kv_X12_drawn ⟨_, _, rfl⟩ kl_RX12_367 dX12_oneTick_35 rfl (by assumption) (by omega) rfl rfl (Nat.le_of_ble_eq_true rfl) (by omega) ⟨Nat.le_refl _, Nat.le_refl _⟩ (ct_X12_drawn hw (by omega)) rfl ?_
      change xG _ _ _ _ _ _ (J (sDraw (sSeed (sSeed w)) 100) :: _) (z, T, F, upA I (m + 1) (sSeed (sSeed (sSeed w))), P, Y) _ _
      have hg : sGone w = false := decide_eq_false hb12
      rw [show sDraw (sSeed (sSeed w)) 100 = sTkV w by unfold sTkV; rw [if_neg (by rw [hg]; decide)], show sSeed (sSeed (sSeed w)) = sTkW w by unfold sTkW; rw [if_neg (by rw [hg]; decide)]]
      refine xg_callVs 41 12 [_, _] _ kv_X12_isWritten ⟨_, _, rfl⟩ kl_RX12_140 dX12_oneTick_38 rfl (by assumption) (by omega) rfl rfl (Nat.le_of_ble_eq_true rfl) (by omega) ⟨Nat.le_refl _, Nat.le_refl _⟩ (ct_X12_isWritten hw hOk hLk hdb hv hS) rfl (fun Ib hIb => ?_)
      refine xg_istoren 42 _ dX12_oneTick_41 rfl rfl rfl (by decide) (Or.inr rfl) ?_
      refine xg_aloadn 43 dX12_oneTick_42 rfl rfl rfl ?_
      refine xg_bipush 45 dX12_oneTick_43 rfl (by decide) ?_
      refine xg_iconst 46 dX12_oneTick_45 rfl ?_
      refine xg_sipush 49 dX12_oneTick_46 rfl (by decide) ?_
      refine xg_callV 52 12 [_, _, _] _ kv_X12_more ⟨_, _, rfl⟩ kl_RX12_302 dX12_oneTick_49 rfl (by assumption) (by omega) rfl rfl (Nat.le_of_ble_eq_true rfl) (by omega) ⟨Nat.le_refl _, Nat.le_refl _⟩ (ct_X12_more hw (by omega) (by omega) (by omega)) rfl ?_
      refine xg_iloadn 53 dX12_oneTick_52 rfl rfl rfl ?_
      subst hX
      exact xg_ireturn dX12_oneTick_53 rfl ⟨Nat.le_refl _, Nat.le_refl _⟩ ⟨rfl, Ib, hIb, rfl⟩
    · exfalso; omega
  · skip
    refine xg_iconst 16 dX12_oneTick_15 rfl ?_
    refine xg_goto 20 dX12_oneTick_16 rfl ?_
    refine xg_istoren 21 _ dX12_oneTick_20 rfl rfl rfl (by decide) (Or.inr rfl) ?_
    refine xg_aloadn 22 dX12_oneTick_21 rfl rfl rfl ?_
    refine xg_iloadn 23 dX12_oneTick_22 rfl rfl rfl ?_
    refine xg_iloadn 24 dX12_oneTick_23 rfl rfl rfl ?_
    refine xg_ifeq 32 27 dX12_oneTick_24 rfl rfl (by first | omega | exact hR _ | exact ⟨hR _, by omega⟩ | exact ⟨by omega, hR _⟩ | exact ⟨hR _, hR _⟩) (fun hb24 => ?_) (fun hb24 => ?_)
    · exfalso; omega
    · skip
      refine xg_bipush 29 dX12_oneTick_27 rfl (by decide) ?_
      have hg : sGone w = true := decide_eq_true hb12
      rw [show sSeed (sSeed w) = sTkW w by unfold sTkW; rw [if_pos hg]]
      rw [show J (100 : Int) = J (sTkV w) by unfold sTkV; rw [if_pos hg]]
      refine xg_goto 38 dX12_oneTick_29 rfl ?_
      refine xg_callVs 41 12 [_, _] _ kv_X12_isWritten ⟨_, _, rfl⟩ kl_RX12_140 dX12_oneTick_38 rfl (by assumption) (by omega) rfl rfl (Nat.le_of_ble_eq_true rfl) (by omega) ⟨Nat.le_refl _, Nat.le_refl _⟩ (ct_X12_isWritten hw hOk hLk hdb hv hS) rfl (fun Ib hIb => ?_)
      refine xg_istoren 42 _ dX12_oneTick_41 rfl rfl rfl (by decide) (Or.inr rfl) ?_
      refine xg_aloadn 43 dX12_oneTick_42 rfl rfl rfl ?_
      refine xg_bipush 45 dX12_oneTick_43 rfl (by decide) ?_
      refine xg_iconst 46 dX12_oneTick_45 rfl ?_
      refine xg_sipush 49 dX12_oneTick_46 rfl (by decide) ?_
      refine xg_callV 52 12 [_, _, _] _ kv_X12_more ⟨_, _, rfl⟩ kl_RX12_302 dX12_oneTick_49 rfl (by assumption) (by omega) rfl rfl (Nat.le_of_ble_eq_true rfl) (by omega) ⟨Nat.le_refl _, Nat.le_refl _⟩ (ct_X12_more hw (by omega) (by omega) (by omega)) rfl ?_
      refine xg_iloadn 53 dX12_oneTick_52 rfl rfl rfl ?_
      subst hX
      exact xg_ireturn dX12_oneTick_53 rfl ⟨Nat.le_refl _, Nat.le_refl _⟩ ⟨rfl, Ib, hIb, rfl⟩

theorem dX12_goesOn_0 : decode cX12_goesOn 0 = .ok (.iconst 0, 1) := by decide +kernel
theorem dX12_goesOn_1 : decode cX12_goesOn 1 = .ok (.istore_n 2, 1) := by decide +kernel
theorem dX12_goesOn_2 : decode cX12_goesOn 2 = .ok (.iconst 0, 1) := by decide +kernel
theorem dX12_goesOn_3 : decode cX12_goesOn 3 = .ok (.istore_n 3, 1) := by decide +kernel
theorem dX12_goesOn_4 : decode cX12_goesOn 4 = .ok (.iload_n 3, 1) := by decide +kernel
theorem dX12_goesOn_5 : decode cX12_goesOn 5 = .ok (.iload_n 1, 1) := by decide +kernel
theorem dX12_goesOn_6 : decode cX12_goesOn 6 = .ok (.if_icmp .ge 16, 3) := by decide +kernel
theorem dX12_goesOn_9 : decode cX12_goesOn 9 = .ok (.iload_n 2, 1) := by decide +kernel
theorem dX12_goesOn_10 : decode cX12_goesOn 10 = .ok (.aload_n 0, 1) := by decide +kernel
theorem dX12_goesOn_11 : decode cX12_goesOn 11 = .ok (.invokevirtual 370, 3) := by decide +kernel
theorem dX12_goesOn_14 : decode cX12_goesOn 14 = .ok (.iadd, 1) := by decide +kernel
theorem dX12_goesOn_15 : decode cX12_goesOn 15 = .ok (.istore_n 2, 1) := by decide +kernel
theorem dX12_goesOn_16 : decode cX12_goesOn 16 = .ok (.iinc 3 1, 3) := by decide +kernel
theorem dX12_goesOn_19 : decode cX12_goesOn 19 = .ok (.goto (-15), 3) := by decide +kernel
theorem dX12_goesOn_22 : decode cX12_goesOn 22 = .ok (.iload_n 2, 1) := by decide +kernel
theorem dX12_goesOn_23 : decode cX12_goesOn 23 = .ok (.ireturn, 1) := by decide +kernel
set_option maxHeartbeats 4000000 in
set_option maxRecDepth 100000 in
theorem ct_X12_goesOn {E : xE} {z : Nat} {T : Nat → Nat × Int} {F : Nat → Nat → Int} {I : Nat → Int → Int} {P : Nat → Nat → Option Nat} {Y : Nat → Int → Option Nat} {m : Nat} {w : Int → Int} (hw : wM T P m) (hO : wOk w) (hL : wLw w){n : Nat} (hn : n ≤ 60) (hS : sGoS w n) : Ct E 14 mX12_goesOn 0 0 [.ref m, J (n : Int)] (z, T, F, upA I (m + 1) w, P, Y) (xs m (some (J (sGo n w).2)) z T F I ((sGo n w).1) P Y) := by
  obtain ⟨⟨q0, q1, q2, q3⟩, -⟩ := id hw
  refine Ct.of [some (.ref m), some (J (n : Int)), none, none] kt_X12_goesOn rfl (Nat.le_of_ble_eq_true rfl) rfl (fun d hd => ?_)
  generalize hX : xN E _ _ _ = X
  refine xg_iconst 1 dX12_goesOn_0 rfl ?_
  refine xg_istoren 2 _ dX12_goesOn_1 rfl rfl rfl (by decide) (Or.inr rfl) ?_
  refine xg_iconst 3 dX12_goesOn_2 rfl ?_
  refine xg_istoren 4 _ dX12_goesOn_3 rfl rfl rfl (by decide) (Or.inr rfl) ?_
  have loop4 : ∀ (mm : Nat) (k : Nat) (Ia : Nat → Int → Int), k ≤ n → xScr m I Ia → (n : Int) - k < (mm : Int) → xG E mX12_goesOn (xR d 0 0) X 4 [some (.ref m), some (J (n : Int)), some (J (sGo k w).2), some (J (k : Int))] [] (z, T, F, upA Ia (m + 1) (sGo k w).1, P, Y) 0 0 := by
    intro mm
    induction mm with
    | zero => intro k Ia hk hIa hm; exfalso; omega
    | succ mm ih =>
      intro k Ia hk hIa hm
      obtain ⟨g1, g2, g3, g4⟩ := sGo_ok hO hL k
      refine xg_iloadn 5 dX12_goesOn_4 rfl rfl rfl ?_
      refine xg_iloadn 6 dX12_goesOn_5 rfl rfl rfl ?_
      refine xg_icge 22 9 dX12_goesOn_6 rfl rfl (by first | omega | exact hR _ | exact ⟨hR _, by omega⟩ | exact ⟨by omega, hR _⟩ | exact ⟨hR _, hR _⟩) (fun hb6 => ?_) (fun hb6 => ?_)
      · skip
        refine xg_iloadn 23 dX12_goesOn_22 rfl rfl rfl ?_
        subst hX
        exact xg_ireturn dX12_goesOn_23 rfl ⟨Nat.le_refl _, Nat.le_refl _⟩ ⟨by rw [show k = n by omega], Ia, hIa, by rw [show k = n by omega]⟩
      · skip
        refine xg_iloadn 10 dX12_goesOn_9 rfl rfl rfl ?_
        refine xg_aloadn 11 dX12_goesOn_10 rfl rfl rfl ?_
        refine xg_callVs 14 12 [] _ kv_X12_oneTick ⟨_, _, rfl⟩ kl_RX12_370 dX12_goesOn_11 rfl (by assumption) (by omega) rfl rfl (Nat.le_of_ble_eq_true rfl) (by omega) ⟨Nat.le_refl _, Nat.le_refl _⟩ (ct_X12_oneTick hw g1 (wLw_hi g2 hL) (hS k (by omega))) rfl (fun Ib hIb => ?_)
        refine xg_iadd 15 dX12_goesOn_14 rfl ?_
        refine xg_istoren 16 _ dX12_goesOn_15 rfl rfl rfl (by decide) (Or.inr rfl) ?_
        refine xg_iinc 19 _ dX12_goesOn_16 rfl rfl rfl rfl (by decide) (Or.inr rfl) ?_
        refine xg_goto 4 dX12_goesOn_19 rfl ?_
        exact xg_weak _ (xle_s rfl (xle_s rfl (xle_s (by rw [sGo]) (xle_s rfl xle_0)))) (xg_to rfl (by rw [sGo]) (ih (k + 1) Ib (by omega) (hIa.tr hIb) (by omega)))
  exact xg_weak _ (xle_s rfl (xle_s rfl (xle_s rfl (xle_s rfl xle_0)))) (loop4 70 0 I (by omega) xScr.rf (by omega))

