noncomputable def fSum (w : Int → Int) (which level : Int) : Int → Int := fun n => if w (1904 + 4 * n) = which then (if sHolds w n level = true then w (1904 + 4 * n + 1) else 0) else 0
noncomputable def sSumOf (w : Int → Int) (which level : Int) : Int := if w 2 = 1 then pSum (fSum w which level) (w 1903).toNat else 0
theorem pSumL_bd {w : Int → Int} (h : wLw w) (h2 : w 2 = 1) (which level : Int) {k : Nat} (hk : (k : Int) ≤ w 1903) : 0 ≤ pSum (fSum w which level) k ∧ pSum (fSum w which level) k ≤ 40 * k := by
  refine pSum_bd (b := 40) (fun j hj => ?_)
  have hl := ((h h2).2 j (by omega)).2.1
  unfold fSum
  split
  · split <;> omega
  · omega
theorem sSumOf_bd {w : Int → Int} (h : wLw w) (which level : Int) : 0 ≤ sSumOf w which level ∧ sSumOf w which level ≤ 480 := by
  unfold sSumOf
  split
  · rename_i h2
    have h1 := (h h2).1
    have := pSumL_bd h h2 which level (k := (w 1903).toNat) (by omega)
    omega
  · omega
def sGoal (w : Int → Int) : Int := if w 16 = 1 then w 17 else 0
noncomputable def sSlice (w : Int → Int) : Int := w 6 + sDebt w / 8 + sSumOf w 0 (sGoal w)
noncomputable def sCost (w : Int → Int) : Int := 1 + sSumOf w 1 (sGoal w)
noncomputable def sWorth (w : Int → Int) (l : Int) : Int := 10 - l + sSumOf w 2 l
noncomputable def sDM (w : Int → Int) : Nat → Int
  | 0 => -1
  | l + 1 => if sDueB w (l : Int) = true ∧ (sDM w l = -1 ∨ sWorth w (sDM w l) < sWorth w (l : Int)) then (l : Int) else sDM w l
theorem sDM_bd (w : Int → Int) : ∀ l : Nat, -1 ≤ sDM w l ∧ sDM w l < l
  | 0 => by simp [sDM]
  | l + 1 => by
    have := sDM_bd w l
    rw [sDM]
    split <;> omega
theorem sGoal_bd {w : Int → Int} (h : wOk w) : 0 ≤ sGoal w ∧ sGoal w < 4 := by
  have := h.2.2.2.2.2.2.2.2.2.2.2.2.1
  unfold sGoal; split <;> omega
theorem sSlice_bd {w : Int → Int} (h : wOk w) (hL : wLw w) : 0 ≤ sSlice w ∧ sSlice w ≤ 1000 := by
  have h1 := sDebt_bd (w := w) h.2.1.2
  have h2 := sSumOf_bd hL 0 (sGoal w)
  have h6 := h.2.2.2.2.2.2.2.1
  unfold sSlice; omega
theorem sCost_bd {w : Int → Int} (hL : wLw w) : 1 ≤ sCost w ∧ sCost w ≤ 481 := by
  have h2 := sSumOf_bd hL 1 (sGoal w)
  unfold sCost; omega
theorem sWorth_bd {w : Int → Int} (hL : wLw w) {l : Int} (hl : -1 ≤ l ∧ l < 4) : 7 ≤ sWorth w l ∧ sWorth w l ≤ 491 := by
  have h2 := sSumOf_bd hL 2 l
  unfold sWorth; omega
theorem dX12_sumOf_0 : decode cX12_sumOf 0 = .ok (.iconst 0, 1) := by decide +kernel
theorem dX12_sumOf_1 : decode cX12_sumOf 1 = .ok (.istore_n 3, 1) := by decide +kernel
theorem dX12_sumOf_2 : decode cX12_sumOf 2 = .ok (.iconst 0, 1) := by decide +kernel
theorem dX12_sumOf_3 : decode cX12_sumOf 3 = .ok (.istore 4, 2) := by decide +kernel
theorem dX12_sumOf_5 : decode cX12_sumOf 5 = .ok (.aload_n 0, 1) := by decide +kernel
theorem dX12_sumOf_6 : decode cX12_sumOf 6 = .ok (.getfield 13, 3) := by decide +kernel
theorem dX12_sumOf_9 : decode cX12_sumOf 9 = .ok (.iconst 2, 1) := by decide +kernel
theorem dX12_sumOf_10 : decode cX12_sumOf 10 = .ok (.iaload, 1) := by decide +kernel
theorem dX12_sumOf_11 : decode cX12_sumOf 11 = .ok (.iconst 1, 1) := by decide +kernel
theorem dX12_sumOf_12 : decode cX12_sumOf 12 = .ok (.if_icmp .ne 67, 3) := by decide +kernel
theorem dX12_sumOf_15 : decode cX12_sumOf 15 = .ok (.iload 4, 2) := by decide +kernel
theorem dX12_sumOf_17 : decode cX12_sumOf 17 = .ok (.aload_n 0, 1) := by decide +kernel
theorem dX12_sumOf_18 : decode cX12_sumOf 18 = .ok (.getfield 13, 3) := by decide +kernel
theorem dX12_sumOf_21 : decode cX12_sumOf 21 = .ok (.sipush 1903, 3) := by decide +kernel
theorem dX12_sumOf_24 : decode cX12_sumOf 24 = .ok (.iaload, 1) := by decide +kernel
theorem dX12_sumOf_25 : decode cX12_sumOf 25 = .ok (.if_icmp .ge 54, 3) := by decide +kernel
theorem dX12_sumOf_28 : decode cX12_sumOf 28 = .ok (.aload_n 0, 1) := by decide +kernel
theorem dX12_sumOf_29 : decode cX12_sumOf 29 = .ok (.getfield 13, 3) := by decide +kernel
theorem dX12_sumOf_32 : decode cX12_sumOf 32 = .ok (.sipush 1904, 3) := by decide +kernel
theorem dX12_sumOf_35 : decode cX12_sumOf 35 = .ok (.iconst 4, 1) := by decide +kernel
theorem dX12_sumOf_36 : decode cX12_sumOf 36 = .ok (.iload 4, 2) := by decide +kernel
theorem dX12_sumOf_38 : decode cX12_sumOf 38 = .ok (.imul, 1) := by decide +kernel
theorem dX12_sumOf_39 : decode cX12_sumOf 39 = .ok (.iadd, 1) := by decide +kernel
theorem dX12_sumOf_40 : decode cX12_sumOf 40 = .ok (.iaload, 1) := by decide +kernel
theorem dX12_sumOf_41 : decode cX12_sumOf 41 = .ok (.iload_n 1, 1) := by decide +kernel
theorem dX12_sumOf_42 : decode cX12_sumOf 42 = .ok (.if_icmp .ne 31, 3) := by decide +kernel
theorem dX12_sumOf_45 : decode cX12_sumOf 45 = .ok (.aload_n 0, 1) := by decide +kernel
theorem dX12_sumOf_46 : decode cX12_sumOf 46 = .ok (.iload 4, 2) := by decide +kernel
theorem dX12_sumOf_48 : decode cX12_sumOf 48 = .ok (.iload_n 2, 1) := by decide +kernel
theorem dX12_sumOf_49 : decode cX12_sumOf 49 = .ok (.invokevirtual 275, 3) := by decide +kernel
theorem dX12_sumOf_52 : decode cX12_sumOf 52 = .ok (.ifCond .eq 21, 3) := by decide +kernel
theorem dX12_sumOf_55 : decode cX12_sumOf 55 = .ok (.iload_n 3, 1) := by decide +kernel
theorem dX12_sumOf_56 : decode cX12_sumOf 56 = .ok (.aload_n 0, 1) := by decide +kernel
theorem dX12_sumOf_57 : decode cX12_sumOf 57 = .ok (.getfield 13, 3) := by decide +kernel
theorem dX12_sumOf_60 : decode cX12_sumOf 60 = .ok (.sipush 1904, 3) := by decide +kernel
theorem dX12_sumOf_63 : decode cX12_sumOf 63 = .ok (.iconst 4, 1) := by decide +kernel
theorem dX12_sumOf_64 : decode cX12_sumOf 64 = .ok (.iload 4, 2) := by decide +kernel
theorem dX12_sumOf_66 : decode cX12_sumOf 66 = .ok (.imul, 1) := by decide +kernel
theorem dX12_sumOf_67 : decode cX12_sumOf 67 = .ok (.iadd, 1) := by decide +kernel
theorem dX12_sumOf_68 : decode cX12_sumOf 68 = .ok (.iconst 1, 1) := by decide +kernel
theorem dX12_sumOf_69 : decode cX12_sumOf 69 = .ok (.iadd, 1) := by decide +kernel
theorem dX12_sumOf_70 : decode cX12_sumOf 70 = .ok (.iaload, 1) := by decide +kernel
theorem dX12_sumOf_71 : decode cX12_sumOf 71 = .ok (.iadd, 1) := by decide +kernel
theorem dX12_sumOf_72 : decode cX12_sumOf 72 = .ok (.istore_n 3, 1) := by decide +kernel
theorem dX12_sumOf_73 : decode cX12_sumOf 73 = .ok (.iinc 4 1, 3) := by decide +kernel
theorem dX12_sumOf_76 : decode cX12_sumOf 76 = .ok (.goto (-71), 3) := by decide +kernel
theorem dX12_sumOf_79 : decode cX12_sumOf 79 = .ok (.iload_n 3, 1) := by decide +kernel
theorem dX12_sumOf_80 : decode cX12_sumOf 80 = .ok (.ireturn, 1) := by decide +kernel
set_option maxHeartbeats 4000000 in
set_option maxRecDepth 100000 in
theorem ct_X12_sumOf {E : xE} {z : Nat} {T : Nat → Nat × Int} {F : Nat → Nat → Int} {I : Nat → Int → Int} {P : Nat → Nat → Option Nat} {Y : Nat → Int → Option Nat} {m : Nat} {w : Int → Int} (hw : wM T P m) (hO : wOk w) (hL : wLw w){which level : Int} (hwh : 0 ≤ which ∧ which ≤ 2) (hl : 0 ≤ level ∧ level < 4) : Ct E 7 mX12_sumOf 0 0 [.ref m, J which, J level] (z, T, F, upA I (m + 1) w, P, Y) (xs m (some (J (sSumOf w which level))) z T F I (w) P Y) := by
  obtain ⟨⟨q0, q1, q2, q3⟩, -⟩ := id hw
  have hR := hO.1
  refine Ct.of [some (.ref m), some (J which), some (J level), none, none] kt_X12_sumOf rfl (Nat.le_of_ble_eq_true rfl) rfl (fun d hd => ?_)
  generalize hX : xN E _ _ _ = X
  refine xg_iconst 1 dX12_sumOf_0 rfl ?_
  refine xg_istoren 2 _ dX12_sumOf_1 rfl rfl rfl (by decide) (Or.inr rfl) ?_
  refine xg_iconst 3 dX12_sumOf_2 rfl ?_
  refine xg_istore 5 _ dX12_sumOf_3 rfl rfl (by decide) (Or.inr rfl) ?_
  have loop5 : ∀ (mm : Nat) (n : Nat) (s : Int) (Ia : Nat → Int → Int), (n = 0 ∨ (w 2 = 1 ∧ (n : Int) ≤ w 1903 ∧ w 1903 ≤ 12)) → s = pSum (fSum w which level) n → xScr m I Ia → 13 - (n : Int) < (mm : Int) → xG E mX12_sumOf (xR d 0 0) X 5 [some (.ref m), some (J which), some (J level), some (J s), some (J (n : Int))] [] (z, T, F, upA Ia (m + 1) w, P, Y) 0 0 := by
    intro mm
    induction mm with
    | zero => intro n s Ia hn hs hIa hm; exfalso; omega
    | succ mm ih =>
      intro n s Ia hn hs hIa hm
      refine xg_aloadn 6 dX12_sumOf_5 rfl rfl rfl ?_
      refine xg_getP 9 kf_RX12_13 dX12_sumOf_6 rfl (by assumption) (by assumption) ?_
      refine xg_iconst 10 dX12_sumOf_9 rfl ?_
      refine xg_ialdW 11 dX12_sumOf_10 rfl (by assumption) (by first | omega | exact hR _ | exact ⟨hR _, by omega⟩ | exact ⟨by omega, hR _⟩ | exact ⟨hR _, hR _⟩) ?_
      refine xg_iconst 12 dX12_sumOf_11 rfl ?_
      refine xg_icne 79 15 dX12_sumOf_12 rfl rfl (by first | omega | exact hR _ | exact ⟨hR _, by omega⟩ | exact ⟨by omega, hR _⟩ | exact ⟨hR _, hR _⟩) (fun hb12 => ?_) (fun hb12 => ?_)
      · skip
        refine xg_iloadn 80 dX12_sumOf_79 rfl rfl rfl ?_
        subst hX
        exact xg_ireturn dX12_sumOf_80 rfl ⟨Nat.le_refl _, Nat.le_refl _⟩ ⟨by unfold sSumOf; rw [if_neg hb12, hs, show n = 0 by omega]; rfl, Ia, hIa, rfl⟩
      · skip
        refine xg_iload 17 dX12_sumOf_15 rfl rfl ?_
        refine xg_aloadn 18 dX12_sumOf_17 rfl rfl rfl ?_
        refine xg_getP 21 kf_RX12_13 dX12_sumOf_18 rfl (by assumption) (by assumption) ?_
        refine xg_sipush 24 dX12_sumOf_21 rfl (by decide) ?_
        refine xg_ialdW 25 dX12_sumOf_24 rfl (by assumption) (by first | omega | exact hR _ | exact ⟨hR _, by omega⟩ | exact ⟨by omega, hR _⟩ | exact ⟨hR _, hR _⟩) ?_
        refine xg_icge 79 28 dX12_sumOf_25 rfl rfl (by first | omega | exact hR _ | exact ⟨hR _, by omega⟩ | exact ⟨by omega, hR _⟩ | exact ⟨hR _, hR _⟩) (fun hb25 => ?_) (fun hb25 => ?_)
        · skip
          refine xg_iloadn 80 dX12_sumOf_79 rfl rfl rfl ?_
          subst hX
          exact xg_ireturn dX12_sumOf_80 rfl ⟨Nat.le_refl _, Nat.le_refl _⟩ ⟨by unfold sSumOf; rw [if_pos hb12, hs, show n = (w 1903).toNat by have := (hL hb12).1; omega], Ia, hIa, rfl⟩
        · skip
          have h1903 := (hL hb12).1
          have hLn := (hL hb12).2 n (by omega)
          refine xg_aloadn 29 dX12_sumOf_28 rfl rfl rfl ?_
          refine xg_getP 32 kf_RX12_13 dX12_sumOf_29 rfl (by assumption) (by assumption) ?_
          refine xg_sipush 35 dX12_sumOf_32 rfl (by decide) ?_
          refine xg_iconst 36 dX12_sumOf_35 rfl ?_
          refine xg_iload 38 dX12_sumOf_36 rfl rfl ?_
          refine xg_imul 39 dX12_sumOf_38 rfl ?_
          refine xg_iadd 40 dX12_sumOf_39 rfl ?_
          refine xg_ialdW 41 dX12_sumOf_40 rfl (by assumption) (by first | omega | exact hR _ | exact ⟨hR _, by omega⟩ | exact ⟨by omega, hR _⟩ | exact ⟨hR _, hR _⟩) ?_
          refine xg_iloadn 42 dX12_sumOf_41 rfl rfl rfl ?_
          refine xg_icne 73 45 dX12_sumOf_42 rfl rfl (by first | omega | exact hR _ | exact ⟨hR _, by omega⟩ | exact ⟨by omega, hR _⟩ | exact ⟨hR _, hR _⟩) (fun hb42 => ?_) (fun hb42 => ?_)
          · skip
            refine xg_iinc 76 _ dX12_sumOf_73 rfl rfl rfl rfl (by decide) (Or.inr rfl) ?_
            refine xg_goto 5 dX12_sumOf_76 rfl ?_
            exact xg_weak _ (xle_s rfl (xle_s rfl (xle_s rfl (xle_s rfl (xle_s rfl xle_0))))) (ih (n + 1) _ Ia (by omega) (by rw [pSum_s, hs]; unfold fSum; rw [if_neg hb42, Int.add_zero]) hIa (by omega))
          · skip
            refine xg_aloadn 46 dX12_sumOf_45 rfl rfl rfl ?_
            refine xg_iload 48 dX12_sumOf_46 rfl rfl ?_
            refine xg_iloadn 49 dX12_sumOf_48 rfl rfl rfl ?_
            refine xg_callVs 52 12 [_, _] _ kv_X12_holdsLine ⟨_, _, rfl⟩ kl_RX12_275 dX12_sumOf_49 rfl (by assumption) (by omega) rfl rfl (Nat.le_of_ble_eq_true rfl) (by omega) ⟨Nat.le_refl _, Nat.le_refl _⟩ (ct_X12_holdsLine hw hO (by omega) hl hLn) rfl (fun Ib hIb => ?_)
            refine xg_beq 73 55 dX12_sumOf_52 rfl rfl (fun hb52 => ?_) (fun hb52 => ?_)
            · skip
              refine xg_iinc 76 _ dX12_sumOf_73 rfl rfl rfl rfl (by decide) (Or.inr rfl) ?_
              refine xg_goto 5 dX12_sumOf_76 rfl ?_
              exact xg_weak _ (xle_s rfl (xle_s rfl (xle_s rfl (xle_s rfl (xle_s rfl xle_0))))) (ih (n + 1) _ Ib (by omega) (by rw [pSum_s, hs]; unfold fSum; rw [if_pos hb42, if_neg (by rw [hb52]; decide), Int.add_zero]) (hIa.tr hIb) (by omega))
            · skip
              refine xg_iloadn 56 dX12_sumOf_55 rfl rfl rfl ?_
              refine xg_aloadn 57 dX12_sumOf_56 rfl rfl rfl ?_
              refine xg_getP 60 kf_RX12_13 dX12_sumOf_57 rfl (by assumption) (by assumption) ?_
              refine xg_sipush 63 dX12_sumOf_60 rfl (by decide) ?_
              refine xg_iconst 64 dX12_sumOf_63 rfl ?_
              refine xg_iload 66 dX12_sumOf_64 rfl rfl ?_
              refine xg_imul 67 dX12_sumOf_66 rfl ?_
              refine xg_iadd 68 dX12_sumOf_67 rfl ?_
              refine xg_iconst 69 dX12_sumOf_68 rfl ?_
              refine xg_iadd 70 dX12_sumOf_69 rfl ?_
              have hsb := pSumL_bd hL hb12 which level (k := n) (by omega)
              have hlb := hLn.2.1
              refine xg_ialdW 71 dX12_sumOf_70 rfl (by assumption) (by first | omega | exact hR _ | exact ⟨hR _, by omega⟩ | exact ⟨by omega, hR _⟩ | exact ⟨hR _, hR _⟩) ?_
              refine xg_iadd 72 dX12_sumOf_71 rfl ?_
              refine xg_istoren 73 _ dX12_sumOf_72 rfl rfl rfl (by decide) (Or.inr rfl) ?_
              refine xg_iinc 76 _ dX12_sumOf_73 rfl rfl rfl rfl (by decide) (Or.inr rfl) ?_
              refine xg_goto 5 dX12_sumOf_76 rfl ?_
              exact xg_weak _ (xle_s rfl (xle_s rfl (xle_s rfl (xle_s rfl (xle_s rfl xle_0))))) (ih (n + 1) _ Ib (by omega) (by rw [pSum_s, hs]; unfold fSum; rw [if_pos hb42, if_pos hb52]) (hIa.tr hIb) (by omega))
  exact xg_weak _ (xle_s rfl (xle_s rfl (xle_s rfl (xle_s rfl (xle_s rfl xle_0))))) (loop5 14 0 0 I (Or.inl rfl) rfl xScr.rf (by omega))

theorem dX12_goalOrNothing_0 : decode cX12_goalOrNothing 0 = .ok (.aload_n 0, 1) := by decide +kernel
theorem dX12_goalOrNothing_1 : decode cX12_goalOrNothing 1 = .ok (.invokevirtual 278, 3) := by decide +kernel
theorem dX12_goalOrNothing_4 : decode cX12_goalOrNothing 4 = .ok (.ifCond .eq 13, 3) := by decide +kernel
theorem dX12_goalOrNothing_7 : decode cX12_goalOrNothing 7 = .ok (.aload_n 0, 1) := by decide +kernel
theorem dX12_goalOrNothing_8 : decode cX12_goalOrNothing 8 = .ok (.getfield 13, 3) := by decide +kernel
theorem dX12_goalOrNothing_11 : decode cX12_goalOrNothing 11 = .ok (.bipush 17, 2) := by decide +kernel
theorem dX12_goalOrNothing_13 : decode cX12_goalOrNothing 13 = .ok (.iaload, 1) := by decide +kernel
theorem dX12_goalOrNothing_14 : decode cX12_goalOrNothing 14 = .ok (.goto 4, 3) := by decide +kernel
theorem dX12_goalOrNothing_17 : decode cX12_goalOrNothing 17 = .ok (.iconst 0, 1) := by decide +kernel
theorem dX12_goalOrNothing_18 : decode cX12_goalOrNothing 18 = .ok (.ireturn, 1) := by decide +kernel
set_option maxHeartbeats 4000000 in
set_option maxRecDepth 100000 in
theorem ct_X12_goalOrNothing {E : xE} {z : Nat} {T : Nat → Nat × Int} {F : Nat → Nat → Int} {I : Nat → Int → Int} {P : Nat → Nat → Option Nat} {Y : Nat → Int → Option Nat} {m : Nat} {w : Int → Int} (hw : wM T P m) (hO : wOk w) : Ct E 1 mX12_goalOrNothing 0 0 [.ref m] (z, T, F, upA I (m + 1) w, P, Y) (xd (some (J (sGoal w))) (z, T, F, upA I (m + 1) w, P, Y)) := by
  obtain ⟨⟨q0, q1, q2, q3⟩, -⟩ := id hw
  obtain ⟨hR, o0, o1, o2, o3, o4, o5, o6, oc, o13, o14, o16, o17, o18, ov⟩ := id hO
  have hN := wN_i o0.1
  refine Ct.of [some (.ref m)] kt_X12_goalOrNothing rfl (Nat.le_of_ble_eq_true rfl) rfl (fun d hd => ?_)
  generalize hX : xN E _ _ _ = X
  refine xg_aloadn 1 dX12_goalOrNothing_0 rfl rfl rfl ?_
  refine xg_callV 4 12 [] _ kv_X12_isBusy ⟨_, _, rfl⟩ kl_RX12_278 dX12_goalOrNothing_1 rfl (by assumption) (by omega) rfl rfl (Nat.le_of_ble_eq_true rfl) (by omega) ⟨Nat.le_refl _, Nat.le_refl _⟩ (ct_X12_isBusy hw hR) rfl ?_
  refine xg_deq 17 7 dX12_goalOrNothing_4 rfl rfl (fun hb4 => ?_) (fun hb4 => ?_)
  · skip
    refine xg_iconst 18 dX12_goalOrNothing_17 rfl ?_
    subst hX
    exact xg_ireturn dX12_goalOrNothing_18 rfl ⟨Nat.le_refl _, Nat.le_refl _⟩ ⟨congrArg (fun v => some (J v)) (by unfold sGoal; first | rw [if_pos hb4] | rw [if_neg hb4]), rfl⟩
  · skip
    refine xg_aloadn 8 dX12_goalOrNothing_7 rfl rfl rfl ?_
    refine xg_getP 11 kf_RX12_13 dX12_goalOrNothing_8 rfl (by assumption) (by assumption) ?_
    refine xg_bipush 13 dX12_goalOrNothing_11 rfl (by decide) ?_
    refine xg_ialdW 14 dX12_goalOrNothing_13 rfl (by assumption) (by first | omega | exact hR _ | exact ⟨hR _, by omega⟩ | exact ⟨by omega, hR _⟩ | exact ⟨hR _, hR _⟩) ?_
    refine xg_goto 18 dX12_goalOrNothing_14 rfl ?_
    subst hX
    exact xg_ireturn dX12_goalOrNothing_18 rfl ⟨Nat.le_refl _, Nat.le_refl _⟩ ⟨congrArg (fun v => some (J v)) (by unfold sGoal; first | rw [if_pos hb4] | rw [if_neg hb4]), rfl⟩

theorem dX12_sliceNow_0 : decode cX12_sliceNow 0 = .ok (.aload_n 0, 1) := by decide +kernel
theorem dX12_sliceNow_1 : decode cX12_sliceNow 1 = .ok (.getfield 13, 3) := by decide +kernel
theorem dX12_sliceNow_4 : decode cX12_sliceNow 4 = .ok (.bipush 6, 2) := by decide +kernel
theorem dX12_sliceNow_6 : decode cX12_sliceNow 6 = .ok (.iaload, 1) := by decide +kernel
theorem dX12_sliceNow_7 : decode cX12_sliceNow 7 = .ok (.aload_n 0, 1) := by decide +kernel
theorem dX12_sliceNow_8 : decode cX12_sliceNow 8 = .ok (.invokevirtual 265, 3) := by decide +kernel
theorem dX12_sliceNow_11 : decode cX12_sliceNow 11 = .ok (.bipush 8, 2) := by decide +kernel
theorem dX12_sliceNow_13 : decode cX12_sliceNow 13 = .ok (.idiv, 1) := by decide +kernel
theorem dX12_sliceNow_14 : decode cX12_sliceNow 14 = .ok (.iadd, 1) := by decide +kernel
theorem dX12_sliceNow_15 : decode cX12_sliceNow 15 = .ok (.aload_n 0, 1) := by decide +kernel
theorem dX12_sliceNow_16 : decode cX12_sliceNow 16 = .ok (.iconst 0, 1) := by decide +kernel
theorem dX12_sliceNow_17 : decode cX12_sliceNow 17 = .ok (.aload_n 0, 1) := by decide +kernel
theorem dX12_sliceNow_18 : decode cX12_sliceNow 18 = .ok (.invokevirtual 281, 3) := by decide +kernel
theorem dX12_sliceNow_21 : decode cX12_sliceNow 21 = .ok (.invokevirtual 284, 3) := by decide +kernel
theorem dX12_sliceNow_24 : decode cX12_sliceNow 24 = .ok (.iadd, 1) := by decide +kernel
theorem dX12_sliceNow_25 : decode cX12_sliceNow 25 = .ok (.ireturn, 1) := by decide +kernel
set_option maxHeartbeats 4000000 in
set_option maxRecDepth 100000 in
theorem ct_X12_sliceNow {E : xE} {z : Nat} {T : Nat → Nat × Int} {F : Nat → Nat → Int} {I : Nat → Int → Int} {P : Nat → Nat → Option Nat} {Y : Nat → Int → Option Nat} {m : Nat} {w : Int → Int} (hw : wM T P m) (hO : wOk w) (hL : wLw w) : Ct E 8 mX12_sliceNow 0 0 [.ref m] (z, T, F, upA I (m + 1) w, P, Y) (xs m (some (J (sSlice w))) z T F I (w) P Y) := by
  obtain ⟨⟨q0, q1, q2, q3⟩, -⟩ := id hw
  have hR := hO.1
  have hgb := sGoal_bd hO
  have hdb := sDebt_bd (w := w) hO.2.1.2
  refine Ct.of [some (.ref m)] kt_X12_sliceNow rfl (Nat.le_of_ble_eq_true rfl) rfl (fun d hd => ?_)
  generalize hX : xN E _ _ _ = X
  refine xg_aloadn 1 dX12_sliceNow_0 rfl rfl rfl ?_
  refine xg_getP 4 kf_RX12_13 dX12_sliceNow_1 rfl (by assumption) (by assumption) ?_
  refine xg_bipush 6 dX12_sliceNow_4 rfl (by decide) ?_
  refine xg_ialdW 7 dX12_sliceNow_6 rfl (by assumption) (by first | omega | exact hR _ | exact ⟨hR _, by omega⟩ | exact ⟨by omega, hR _⟩ | exact ⟨hR _, hR _⟩) ?_
  refine xg_aloadn 8 dX12_sliceNow_7 rfl rfl rfl ?_
  refine xg_callV 11 12 [] _ kv_X12_debtNow ⟨_, _, rfl⟩ kl_RX12_265 dX12_sliceNow_8 rfl (by assumption) (by omega) rfl rfl (Nat.le_of_ble_eq_true rfl) (by omega) ⟨Nat.le_refl _, Nat.le_refl _⟩ (ct_X12_debtNow hw hO) rfl ?_
  refine xg_bipush 13 dX12_sliceNow_11 rfl (by decide) ?_
  refine xg_idiv 14 dX12_sliceNow_13 rfl (by first | omega | exact hR _ | exact ⟨hR _, by omega⟩ | exact ⟨by omega, hR _⟩ | exact ⟨hR _, hR _⟩) ?_
  refine xg_iadd 15 dX12_sliceNow_14 rfl ?_
  refine xg_aloadn 16 dX12_sliceNow_15 rfl rfl rfl ?_
  refine xg_iconst 17 dX12_sliceNow_16 rfl ?_
  refine xg_aloadn 18 dX12_sliceNow_17 rfl rfl rfl ?_
  refine xg_callV 21 12 [] _ kv_X12_goalOrNothing ⟨_, _, rfl⟩ kl_RX12_281 dX12_sliceNow_18 rfl (by assumption) (by omega) rfl rfl (Nat.le_of_ble_eq_true rfl) (by omega) ⟨Nat.le_refl _, Nat.le_refl _⟩ (ct_X12_goalOrNothing hw hO) rfl ?_
  refine xg_callVs 24 12 [_, _] _ kv_X12_sumOf ⟨_, _, rfl⟩ kl_RX12_284 dX12_sliceNow_21 rfl (by assumption) (by omega) rfl rfl (Nat.le_of_ble_eq_true rfl) (by omega) ⟨Nat.le_refl _, Nat.le_refl _⟩ (ct_X12_sumOf hw hO hL (by omega) hgb) rfl (fun Ib hIb => ?_)
  refine xg_iadd 25 dX12_sliceNow_24 rfl ?_
  subst hX
  exact xg_ireturn dX12_sliceNow_25 rfl ⟨Nat.le_refl _, Nat.le_refl _⟩ ⟨rfl, Ib, hIb, rfl⟩

theorem dX12_costNow_0 : decode cX12_costNow 0 = .ok (.iconst 1, 1) := by decide +kernel
theorem dX12_costNow_1 : decode cX12_costNow 1 = .ok (.aload_n 0, 1) := by decide +kernel
theorem dX12_costNow_2 : decode cX12_costNow 2 = .ok (.iconst 1, 1) := by decide +kernel
theorem dX12_costNow_3 : decode cX12_costNow 3 = .ok (.aload_n 0, 1) := by decide +kernel
theorem dX12_costNow_4 : decode cX12_costNow 4 = .ok (.invokevirtual 281, 3) := by decide +kernel
theorem dX12_costNow_7 : decode cX12_costNow 7 = .ok (.invokevirtual 284, 3) := by decide +kernel
theorem dX12_costNow_10 : decode cX12_costNow 10 = .ok (.iadd, 1) := by decide +kernel
theorem dX12_costNow_11 : decode cX12_costNow 11 = .ok (.ireturn, 1) := by decide +kernel
set_option maxHeartbeats 4000000 in
set_option maxRecDepth 100000 in
theorem ct_X12_costNow {E : xE} {z : Nat} {T : Nat → Nat × Int} {F : Nat → Nat → Int} {I : Nat → Int → Int} {P : Nat → Nat → Option Nat} {Y : Nat → Int → Option Nat} {m : Nat} {w : Int → Int} (hw : wM T P m) (hO : wOk w) (hL : wLw w) : Ct E 8 mX12_costNow 0 0 [.ref m] (z, T, F, upA I (m + 1) w, P, Y) (xs m (some (J (sCost w))) z T F I (w) P Y) := by
  obtain ⟨⟨q0, q1, q2, q3⟩, -⟩ := id hw
  have hR := hO.1
  have hgb := sGoal_bd hO
  refine Ct.of [some (.ref m)] kt_X12_costNow rfl (Nat.le_of_ble_eq_true rfl) rfl (fun d hd => ?_)
  generalize hX : xN E _ _ _ = X
  refine xg_iconst 1 dX12_costNow_0 rfl ?_
  refine xg_aloadn 2 dX12_costNow_1 rfl rfl rfl ?_
  refine xg_iconst 3 dX12_costNow_2 rfl ?_
  refine xg_aloadn 4 dX12_costNow_3 rfl rfl rfl ?_
  refine xg_callV 7 12 [] _ kv_X12_goalOrNothing ⟨_, _, rfl⟩ kl_RX12_281 dX12_costNow_4 rfl (by assumption) (by omega) rfl rfl (Nat.le_of_ble_eq_true rfl) (by omega) ⟨Nat.le_refl _, Nat.le_refl _⟩ (ct_X12_goalOrNothing hw hO) rfl ?_
  refine xg_callVs 10 12 [_, _] _ kv_X12_sumOf ⟨_, _, rfl⟩ kl_RX12_284 dX12_costNow_7 rfl (by assumption) (by omega) rfl rfl (Nat.le_of_ble_eq_true rfl) (by omega) ⟨Nat.le_refl _, Nat.le_refl _⟩ (ct_X12_sumOf hw hO hL (by omega) hgb) rfl (fun Ib hIb => ?_)
  refine xg_iadd 11 dX12_costNow_10 rfl ?_
  subst hX
  exact xg_ireturn dX12_costNow_11 rfl ⟨Nat.le_refl _, Nat.le_refl _⟩ ⟨rfl, Ib, hIb, rfl⟩

theorem dX12_worthOf_0 : decode cX12_worthOf 0 = .ok (.bipush 10, 2) := by decide +kernel
theorem dX12_worthOf_2 : decode cX12_worthOf 2 = .ok (.iload_n 1, 1) := by decide +kernel
theorem dX12_worthOf_3 : decode cX12_worthOf 3 = .ok (.isub, 1) := by decide +kernel
theorem dX12_worthOf_4 : decode cX12_worthOf 4 = .ok (.aload_n 0, 1) := by decide +kernel
theorem dX12_worthOf_5 : decode cX12_worthOf 5 = .ok (.iconst 2, 1) := by decide +kernel
theorem dX12_worthOf_6 : decode cX12_worthOf 6 = .ok (.iload_n 1, 1) := by decide +kernel
theorem dX12_worthOf_7 : decode cX12_worthOf 7 = .ok (.invokevirtual 284, 3) := by decide +kernel
theorem dX12_worthOf_10 : decode cX12_worthOf 10 = .ok (.iadd, 1) := by decide +kernel
theorem dX12_worthOf_11 : decode cX12_worthOf 11 = .ok (.ireturn, 1) := by decide +kernel
set_option maxHeartbeats 4000000 in
set_option maxRecDepth 100000 in
theorem ct_X12_worthOf {E : xE} {z : Nat} {T : Nat → Nat × Int} {F : Nat → Nat → Int} {I : Nat → Int → Int} {P : Nat → Nat → Option Nat} {Y : Nat → Int → Option Nat} {m : Nat} {w : Int → Int} (hw : wM T P m) (hO : wOk w) (hL : wLw w){l : Int} (hl : 0 ≤ l ∧ l < 4) : Ct E 8 mX12_worthOf 0 0 [.ref m, J l] (z, T, F, upA I (m + 1) w, P, Y) (xs m (some (J (sWorth w l))) z T F I (w) P Y) := by
  obtain ⟨⟨q0, q1, q2, q3⟩, -⟩ := id hw
  have hR := hO.1
  refine Ct.of [some (.ref m), some (J l)] kt_X12_worthOf rfl (Nat.le_of_ble_eq_true rfl) rfl (fun d hd => ?_)
  generalize hX : xN E _ _ _ = X
  refine xg_bipush 2 dX12_worthOf_0 rfl (by decide) ?_
  refine xg_iloadn 3 dX12_worthOf_2 rfl rfl rfl ?_
  refine xg_isub 4 dX12_worthOf_3 rfl ?_
  refine xg_aloadn 5 dX12_worthOf_4 rfl rfl rfl ?_
  refine xg_iconst 6 dX12_worthOf_5 rfl ?_
  refine xg_iloadn 7 dX12_worthOf_6 rfl rfl rfl ?_
  refine xg_callVs 10 12 [_, _] _ kv_X12_sumOf ⟨_, _, rfl⟩ kl_RX12_284 dX12_worthOf_7 rfl (by assumption) (by omega) rfl rfl (Nat.le_of_ble_eq_true rfl) (by omega) ⟨Nat.le_refl _, Nat.le_refl _⟩ (ct_X12_sumOf hw hO hL (by omega) hl) rfl (fun Ib hIb => ?_)
  refine xg_iadd 11 dX12_worthOf_10 rfl ?_
  subst hX
  exact xg_ireturn dX12_worthOf_11 rfl ⟨Nat.le_refl _, Nat.le_refl _⟩ ⟨rfl, Ib, hIb, rfl⟩

theorem dX12_dueMost_0 : decode cX12_dueMost 0 = .ok (.iconst (-1), 1) := by decide +kernel
theorem dX12_dueMost_1 : decode cX12_dueMost 1 = .ok (.istore_n 1, 1) := by decide +kernel
theorem dX12_dueMost_2 : decode cX12_dueMost 2 = .ok (.iconst 0, 1) := by decide +kernel
theorem dX12_dueMost_3 : decode cX12_dueMost 3 = .ok (.istore_n 2, 1) := by decide +kernel
theorem dX12_dueMost_4 : decode cX12_dueMost 4 = .ok (.iload_n 2, 1) := by decide +kernel
theorem dX12_dueMost_5 : decode cX12_dueMost 5 = .ok (.iconst 4, 1) := by decide +kernel
theorem dX12_dueMost_6 : decode cX12_dueMost 6 = .ok (.if_icmp .ge 37, 3) := by decide +kernel
theorem dX12_dueMost_9 : decode cX12_dueMost 9 = .ok (.aload_n 0, 1) := by decide +kernel
theorem dX12_dueMost_10 : decode cX12_dueMost 10 = .ok (.iload_n 2, 1) := by decide +kernel
theorem dX12_dueMost_11 : decode cX12_dueMost 11 = .ok (.invokevirtual 293, 3) := by decide +kernel
theorem dX12_dueMost_14 : decode cX12_dueMost 14 = .ok (.ifCond .eq 23, 3) := by decide +kernel
theorem dX12_dueMost_17 : decode cX12_dueMost 17 = .ok (.iload_n 1, 1) := by decide +kernel
theorem dX12_dueMost_18 : decode cX12_dueMost 18 = .ok (.iconst (-1), 1) := by decide +kernel
theorem dX12_dueMost_19 : decode cX12_dueMost 19 = .ok (.if_icmp .eq 16, 3) := by decide +kernel
theorem dX12_dueMost_22 : decode cX12_dueMost 22 = .ok (.aload_n 0, 1) := by decide +kernel
theorem dX12_dueMost_23 : decode cX12_dueMost 23 = .ok (.iload_n 2, 1) := by decide +kernel
theorem dX12_dueMost_24 : decode cX12_dueMost 24 = .ok (.invokevirtual 306, 3) := by decide +kernel
theorem dX12_dueMost_27 : decode cX12_dueMost 27 = .ok (.aload_n 0, 1) := by decide +kernel
theorem dX12_dueMost_28 : decode cX12_dueMost 28 = .ok (.iload_n 1, 1) := by decide +kernel
theorem dX12_dueMost_29 : decode cX12_dueMost 29 = .ok (.invokevirtual 306, 3) := by decide +kernel
theorem dX12_dueMost_32 : decode cX12_dueMost 32 = .ok (.if_icmp .le 5, 3) := by decide +kernel
theorem dX12_dueMost_35 : decode cX12_dueMost 35 = .ok (.iload_n 2, 1) := by decide +kernel
theorem dX12_dueMost_36 : decode cX12_dueMost 36 = .ok (.istore_n 1, 1) := by decide +kernel
theorem dX12_dueMost_37 : decode cX12_dueMost 37 = .ok (.iinc 2 1, 3) := by decide +kernel
theorem dX12_dueMost_40 : decode cX12_dueMost 40 = .ok (.goto (-36), 3) := by decide +kernel
theorem dX12_dueMost_43 : decode cX12_dueMost 43 = .ok (.iload_n 1, 1) := by decide +kernel
theorem dX12_dueMost_44 : decode cX12_dueMost 44 = .ok (.ireturn, 1) := by decide +kernel
set_option maxHeartbeats 4000000 in
set_option maxRecDepth 100000 in
theorem ct_X12_dueMost {E : xE} {z : Nat} {T : Nat → Nat × Int} {F : Nat → Nat → Int} {I : Nat → Int → Int} {P : Nat → Nat → Option Nat} {Y : Nat → Int → Option Nat} {m : Nat} {w : Int → Int} (hw : wM T P m) (hO : wOk w) (hL : wLw w) : Ct E 9 mX12_dueMost 0 0 [.ref m] (z, T, F, upA I (m + 1) w, P, Y) (xs m (some (J (sDM w 4))) z T F I (w) P Y) := by
  obtain ⟨⟨q0, q1, q2, q3⟩, -⟩ := id hw
  have hR := hO.1
  refine Ct.of [some (.ref m), none, none] kt_X12_dueMost rfl (Nat.le_of_ble_eq_true rfl) rfl (fun d hd => ?_)
  generalize hX : xN E _ _ _ = X
  refine xg_iconst 1 dX12_dueMost_0 rfl ?_
  refine xg_istoren 2 _ dX12_dueMost_1 rfl rfl rfl (by decide) (Or.inr rfl) ?_
  refine xg_iconst 3 dX12_dueMost_2 rfl ?_
  refine xg_istoren 4 _ dX12_dueMost_3 rfl rfl rfl (by decide) (Or.inr rfl) ?_
  have loop4 : ∀ (mm : Nat) (l : Nat) (Ia : Nat → Int → Int), l ≤ 4 → xScr m I Ia → 4 - (l : Int) < (mm : Int) → xG E mX12_dueMost (xR d 0 0) X 4 [some (.ref m), some (J (sDM w l)), some (J (l : Int))] [] (z, T, F, upA Ia (m + 1) w, P, Y) 0 0 := by
    intro mm
    induction mm with
    | zero => intro l Ia hl hIa hm; exfalso; omega
    | succ mm ih =>
      intro l Ia hl hIa hm
      have hdb := sDM_bd w l
      have hwb := sWorth_bd hL (l := (l : Int))
      have hwb2 := sWorth_bd hL (l := sDM w l) (by omega)
      refine xg_iloadn 5 dX12_dueMost_4 rfl rfl rfl ?_
      refine xg_iconst 6 dX12_dueMost_5 rfl ?_
      refine xg_icge 43 9 dX12_dueMost_6 rfl rfl (by first | omega | exact hR _ | exact ⟨hR _, by omega⟩ | exact ⟨by omega, hR _⟩ | exact ⟨hR _, hR _⟩) (fun hb6 => ?_) (fun hb6 => ?_)
      · skip
        refine xg_iloadn 44 dX12_dueMost_43 rfl rfl rfl ?_
        subst hX
        exact xg_ireturn dX12_dueMost_44 rfl ⟨Nat.le_refl _, Nat.le_refl _⟩ ⟨by rw [show l = 4 by omega], Ia, hIa, rfl⟩
      · skip
        refine xg_aloadn 10 dX12_dueMost_9 rfl rfl rfl ?_
        refine xg_iloadn 11 dX12_dueMost_10 rfl rfl rfl ?_
        refine xg_callV 14 12 [_] _ kv_X12_isDue ⟨_, _, rfl⟩ kl_RX12_293 dX12_dueMost_11 rfl (by assumption) (by omega) rfl rfl (Nat.le_of_ble_eq_true rfl) (by omega) ⟨Nat.le_refl _, Nat.le_refl _⟩ (ct_X12_isDue hw hO (by omega)) rfl ?_
        refine xg_beq 37 17 dX12_dueMost_14 rfl rfl (fun hb14 => ?_) (fun hb14 => ?_)
        · skip
          refine xg_iinc 40 _ dX12_dueMost_37 rfl rfl rfl rfl (by decide) (Or.inr rfl) ?_
          refine xg_goto 4 dX12_dueMost_40 rfl ?_
          exact xg_weak _ (xle_s rfl (xle_s (by rw [sDM, if_neg (fun q => absurd q.1 (Bool.eq_false_iff.mp hb14))]) (xle_s rfl xle_0))) (ih (l + 1) Ia (by omega) hIa (by omega))
        · skip
          refine xg_iloadn 18 dX12_dueMost_17 rfl rfl rfl ?_
          refine xg_iconst 19 dX12_dueMost_18 rfl ?_
          refine xg_iceq 35 22 dX12_dueMost_19 rfl rfl (by first | omega | exact hR _ | exact ⟨hR _, by omega⟩ | exact ⟨by omega, hR _⟩ | exact ⟨hR _, hR _⟩) (fun hb19 => ?_) (fun hb19 => ?_)
          · skip
            refine xg_iloadn 36 dX12_dueMost_35 rfl rfl rfl ?_
            refine xg_istoren 37 _ dX12_dueMost_36 rfl rfl rfl (by decide) (Or.inr rfl) ?_
            refine xg_iinc 40 _ dX12_dueMost_37 rfl rfl rfl rfl (by decide) (Or.inr rfl) ?_
            refine xg_goto 4 dX12_dueMost_40 rfl ?_
            exact xg_weak _ (xle_s rfl (xle_s (by rw [sDM, if_pos ⟨hb14, Or.inl hb19⟩]) (xle_s rfl xle_0))) (ih (l + 1) Ia (by omega) hIa (by omega))
          · skip
            refine xg_aloadn 23 dX12_dueMost_22 rfl rfl rfl ?_
            refine xg_iloadn 24 dX12_dueMost_23 rfl rfl rfl ?_
            refine xg_callVs 27 12 [_] _ kv_X12_worthOf ⟨_, _, rfl⟩ kl_RX12_306 dX12_dueMost_24 rfl (by assumption) (by omega) rfl rfl (Nat.le_of_ble_eq_true rfl) (by omega) ⟨Nat.le_refl _, Nat.le_refl _⟩ (ct_X12_worthOf hw hO hL (by omega)) rfl (fun Ib hIb => ?_)
            refine xg_aloadn 28 dX12_dueMost_27 rfl rfl rfl ?_
            refine xg_iloadn 29 dX12_dueMost_28 rfl rfl rfl ?_
            refine xg_callVs 32 12 [_] _ kv_X12_worthOf ⟨_, _, rfl⟩ kl_RX12_306 dX12_dueMost_29 rfl (by assumption) (by omega) rfl rfl (Nat.le_of_ble_eq_true rfl) (by omega) ⟨Nat.le_refl _, Nat.le_refl _⟩ (ct_X12_worthOf hw hO hL (by omega)) rfl (fun Ic hIc => ?_)
            refine xg_icle 37 35 dX12_dueMost_32 rfl rfl (by first | omega | exact hR _ | exact ⟨hR _, by omega⟩ | exact ⟨by omega, hR _⟩ | exact ⟨hR _, hR _⟩) (fun hb32 => ?_) (fun hb32 => ?_)
            · skip
              refine xg_iinc 40 _ dX12_dueMost_37 rfl rfl rfl rfl (by decide) (Or.inr rfl) ?_
              refine xg_goto 4 dX12_dueMost_40 rfl ?_
              exact xg_weak _ (xle_s rfl (xle_s (by rw [sDM, if_neg (fun q => by omega)]) (xle_s rfl xle_0))) (ih (l + 1) Ic (by omega) ((hIa.tr hIb).tr hIc) (by omega))
            · skip
              refine xg_iloadn 36 dX12_dueMost_35 rfl rfl rfl ?_
              refine xg_istoren 37 _ dX12_dueMost_36 rfl rfl rfl (by decide) (Or.inr rfl) ?_
              refine xg_iinc 40 _ dX12_dueMost_37 rfl rfl rfl rfl (by decide) (Or.inr rfl) ?_
              refine xg_goto 4 dX12_dueMost_40 rfl ?_
              exact xg_weak _ (xle_s rfl (xle_s (by rw [sDM, if_pos ⟨hb14, Or.inr hb32⟩]) (xle_s rfl xle_0))) (ih (l + 1) Ic (by omega) ((hIa.tr hIb).tr hIc) (by omega))
  exact xg_weak _ (xle_s rfl (xle_s rfl (xle_s rfl xle_0))) (loop4 5 0 I (by omega) xScr.rf (by omega))

noncomputable def sBegS (w : Int → Int) (l : Int) : Nat := sRuns w l ||| (if w 3 = 1 ∧ l < 3 then sRuns w (l + 1) else 0)
theorem sBegS_lt {w : Int → Int} (h : w 0 ≤ 12) (l : Int) : sBegS w l < 4096 := by
  have h1 := sRuns_lt (w := w) l h
  have h2 := sRuns_lt (w := w) (l + 1) h
  unfold sBegS
  refine Nat.or_lt_two_pow (n := 12) h1 ?_
  split <;> omega
def wInS (w : Int → Int) (s : Nat) (k : Int) : Int → Int := fun j => if 200 ≤ j ∧ j < 200 + 122 * k ∧ (j - 200) % 122 = 0 then bI (s.testBit ((j - 200) / 122).toNat) else w j
theorem wInS_0 (w : Int → Int) (s : Nat) : wInS w s 0 = w := by funext j; exact if_neg (by omega)
theorem wInS_s (w : Int → Int) (s k : Nat) : wS (wInS w s (k : Int)) (199 + 122 * (k : Int) + 1) (bI (s.testBit k)) = wInS w s ((k : Int) + 1) := by
  funext j
  unfold wS wInS
  by_cases hj : j = 199 + 122 * (k : Int) + 1
  · rw [if_pos hj, if_pos (by omega), show ((j - 200) / 122).toNat = k by omega]
  · rw [if_neg hj]
    by_cases h1 : 200 ≤ j ∧ j < 200 + 122 * (k : Int) ∧ (j - 200) % 122 = 0
    · rw [if_pos h1, if_pos (by omega)]
    · rw [if_neg h1, if_neg (by omega)]
theorem wOk_InS {w : Int → Int} (h : wOk w) (s : Nat) (k : Int) (hk : k ≤ 12) : wOk (wInS w s k) := by
  rw [wOk_iff] at h ⊢
  intro j
  unfold wInS
  split
  · have := bI_01 (s.testBit ((j - 200) / 122).toNat)
    unfold wCell; omega
  · exact h j
noncomputable def sBegW (w : Int → Int) (l : Int) : Int → Int := wS (wS (wS (wE (wInS w (sBegS w l) (w 0)) 79 60) 16 1) 17 (min 3 (l + 1))) 18 0
noncomputable def sBeg1 (w : Int → Int) (l : Int) : Int → Int := sTold (sBegW w l) 1 (sBegW w l 17) (sEntIn (sBegW w l) (sBegS w l))
noncomputable def sBeg (w : Int → Int) : Int → Int := if w 16 = 1 then w else if sDM w 4 = -1 then w else sBeg1 w (sDM w 4)
theorem wOk_begW {w : Int → Int} (h : wOk w) {l : Int} (hl : 0 ≤ l ∧ l < 4) : wOk (sBegW w l) := by
  have o0 := h.2.1
  unfold sBegW
  refine wOk_S (wOk_S (wOk_S (wOk_E (wOk_InS h _ _ o0.2) 79 (by omega)) _ _ ?_) _ _ ?_) _ _ ?_
  all_goals unfold wCell; omega
theorem wOk_beg {w : Int → Int} (h : wOk w) : wOk (sBeg w) := by
  have hd := sDM_bd w 4
  unfold sBeg
  split
  · exact h
  · split
    · exact h
    · have h1 := wOk_begW h (l := sDM w 4) (by omega)
      have h2 := sEntIn_bd (w := sBegW w (sDM w 4)) (sBegS w (sDM w 4)) h1.2.1.2
      exact wOk_told h1 (by omega) (h1.1 17) (by omega)
/-- the law's cells stay -/
def wHi (w w' : Int → Int) : Prop := w' 2 = w 2 ∧ ∀ j : Int, (1903 ≤ j ∨ j < 0) → w' j = w j
theorem wHi.rf {w : Int → Int} : wHi w w := ⟨rfl, fun _ _ => rfl⟩
theorem wHi.tr {a b c : Int → Int} (h1 : wHi a b) (h2 : wHi b c) : wHi a c := ⟨h2.1.trans h1.1, fun j hj => (h2.2 j hj).trans (h1.2 j hj)⟩
theorem wHi_S (w : Int → Int) (i v : Int) (h : i ≠ 2 ∧ 0 ≤ i ∧ i < 1903) : wHi w (wS w i v) := ⟨wS_ne _ _ _ (by omega), fun j hj => wS_ne _ _ _ (by omega)⟩
theorem wCode_hi {w w' : Int → Int} (h : wHi w w') : ∀ (k : Nat) (i : Int), 0 ≤ i → wCode w' i k = wCode w i k
  | 0, _, _ => rfl
  | k + 1, i, hi => by rw [wCode, wCode, h.2 _ (by omega), h.2 _ (by omega), wCode_hi h k (i + 1) (by omega)]
theorem wLw_hi {w w' : Int → Int} (h : wHi w w') (hL : wLw w) : wLw w' := by
  intro h2
  rw [h.1] at h2
  obtain ⟨h1, h3⟩ := hL h2
  refine ⟨by rw [h.2 _ (by omega)]; exact h1, fun n hn => ?_⟩
  rw [h.2 _ (by omega)] at hn
  obtain ⟨a1, a2, a3, a4, a5⟩ := h3 n hn
  have e1 : wFrom w' n = wFrom w n := h.2 _ (by omega)
  have e2 : wTo w' n = wTo w n := h.2 _ (by omega)
  refine ⟨by rw [h.2 _ (by omega)]; exact a1, by rw [h.2 _ (by omega)]; exact a2, by rw [e1, e2]; exact a3, fun i hi1 hi2 => ?_, fun f => ?_⟩
  · rw [e1] at hi1
    rw [e2] at hi2
    rw [h.2 _ (by omega), h.2 _ (by omega)]
    exact a4 i hi1 hi2
  · have : wLcode w' n = wLcode w n := by unfold wLcode; rw [e1, e2, wCode_hi h _ _ a3.1]
    rw [this]; exact a5 f
theorem wHi_E (w : Int → Int) (a : Int) (ha : 19 ≤ a ∧ a + 60 ≤ 1903) : wHi w (wE w a 60) := ⟨if_neg (by omega), fun j hj => if_neg (by omega)⟩
theorem wHi_C (w : Int → Int) (a b n : Int) (hb : 19 ≤ b ∧ b + n ≤ 1903) : wHi w (wC w a b n) := ⟨if_neg (by omega), fun j hj => if_neg (by omega)⟩
theorem wHi_told (w : Int → Int) (a b c : Int) : wHi w (sTold w a b c) := by
  rw [sTold_14]
  refine wHi.tr (wHi.tr (wHi.tr (wHi.tr (wHi.tr ?_ (wHi_S _ _ _ (by omega))) (wHi_S _ _ _ (by omega))) (wHi_S _ _ _ (by omega))) (wHi_S _ _ _ (by omega))) (wHi_S _ _ _ (by omega))
  exact ⟨if_neg (by omega), fun j hj => if_neg (by omega)⟩
theorem wHi_nomore {w : Int → Int} (h : w 0 ≤ 12) : wHi w (sNoMore w) := by
  unfold sNoMore
  refine wHi.tr (wHi.tr ?_ (wHi_E _ 79 (by omega))) (wHi_S _ _ _ (by omega))
  exact ⟨if_neg (by omega), fun j hj => if_neg (by omega)⟩
theorem wHi_halt {w : Int → Int} (h : wOk w) : wHi w (sHalt w) := by
  unfold sHalt
  split
  · exact (wHi_told _ _ _ _).tr (wHi_nomore (by rw [sTold_lo _ _ _ _ (by omega) (by omega)]; exact h.2.1.2))
  · exact wHi.rf
theorem wHi_takes {w : Int → Int} {key : Int} (hk : 0 ≤ key ∧ key < 60) : wHi w (sTakes w key) := by
  unfold sTakes
  refine wHi.tr ?_ (wHi_S _ _ _ (by omega))
  split
  · unfold sTk2 sTk1
    exact (((wHi_S _ _ _ (by omega)).tr (wHi_S _ _ _ (by omega))).tr (wHi_S _ _ _ (by omega))).tr (wHi_S _ _ _ (by omega))
  · exact wHi_S _ _ _ (by omega)
theorem wHi_en (o n0 : Int) {w : Int → Int} (h : wOk w) : ∀ r : Nat, (r : Int) ≤ w 0 → wHi w (sEn o n0 w r).1
  | 0, _ => wHi.rf
  | r + 1, hr => by
    have h1 := wHi_en o n0 h r (by omega)
    obtain ⟨-, h2, -⟩ := sEn_ok o n0 h r (by omega)
    have o0 := h.2.1
    rw [sEn]
    generalize sEn o n0 w r = p at h1 h2
    unfold sEs
    split
    · refine (wHi.tr ?_ (wHi_S _ _ _ (by omega))).tr (wHi_C _ _ _ _ (by omega))
      split
      · exact h1
      · exact h1.tr (wHi_C _ _ _ _ (by omega))
    · split
      · exact h1
      · exact h1.tr (wHi_C _ _ _ _ (by omega))
theorem wHi_ends {w : Int → Int} (h : wOk w) : wHi w (sEnds w) := by
  have o0 := h.2.1
  have hN := wN_i o0.1
  have h2 := sEn_ok (sOld (sEnW w) (wN w)) (sEnt w 79) (wOk_enW h) (wN w) (by rw [sEnW_0]; omega)
  unfold sEnds sEnP
  refine (((wHi_told _ _ _ _).tr (wHi_en _ _ (wOk_enW h) (wN w) (by rw [sEnW_0]; omega))).tr (wHi_S _ 0 _ (by omega))).tr (wHi_nomore ?_)
  rw [wS_at]; omega
theorem wHi_wk : ∀ (f : Nat) {w : Int → Int} {done n : Int}, wHi w (sWk f w done n).1
  | 0, _, _, _ => wHi.rf
  | f + 1, w, done, n => by
    rw [sWk]
    split
    · rename_i hc
      exact (wHi_takes (by omega)).tr (wHi_wk f)
    · exact wHi.rf
theorem wHi_works {w : Int → Int} (h : wOk w) (n : Int) : wHi w (sWorks w n) := by
  have := sWk_ok 61 (done := 0) (n := n) h
  unfold sWorks
  split
  · exact (wHi_wk 61).tr (wHi_ends this)
  · exact wHi_wk 61
theorem wHi_beg {w : Int → Int} (h : wOk w) : wHi w (sBeg w) := by
  have o0 := h.2.1
  unfold sBeg
  split
  · exact wHi.rf
  · split
    · exact wHi.rf
    · unfold sBeg1
      refine wHi.tr ?_ (wHi_told _ _ _ _)
      unfold sBegW
      refine (((wHi.tr ?_ (wHi_E _ 79 (by omega))).tr (wHi_S _ _ _ (by omega))).tr (wHi_S _ _ _ (by omega))).tr (wHi_S _ _ _ (by omega))
      exact ⟨if_neg (by omega), fun j hj => if_neg (by omega)⟩
theorem wHi_flush {w : Int → Int} (h : wOk w) (hn : w 0 < 12) : wHi w (sFlush w) := by
  have o0 := h.2.1
  unfold sFlush
  refine wHi.tr ?_ (wHi_E _ 19 (by omega))
  refine wHi.tr (b := wC (wS (wS (wS (sFl1 w) 0 (sFl1 w 0 + 1)) 199 0) 200 0) 19 201 60) ?_ ⟨if_neg (by omega), fun j hj => if_neg (by omega)⟩
  refine ((((wHi.tr ?_ (wHi_S _ _ _ (by omega))).tr (wHi_S _ _ _ (by omega))).tr (wHi_S _ _ _ (by omega))).tr (wHi_C _ _ _ _ (by omega)))
  unfold sFl1
  exact (wHi_told _ _ _ _).tr ⟨if_neg (by omega), fun j hj => if_neg (by omega)⟩
noncomputable def sPaidN (w : Int → Int) (least : Int) : Int := max least (sSlice w)
noncomputable def sPaidW (w : Int → Int) : Int → Int := wS w 12 (min 99999 (w 12 + sCost w))
noncomputable def sPaid (w : Int → Int) (least : Int) : Int → Int := sWorks (sPaidW w) (sPaidN w least)
noncomputable def sPaidD (w : Int → Int) (least : Int) : Int := sWorksN (sPaidW w) (sPaidN w least)
theorem wOk_paidW {w : Int → Int} (h : wOk w) (hL : wLw w) : wOk (sPaidW w) := by
  have h1 := sCost_bd hL
  have h12 := h.2.2.2.2.2.2.2.2.1 12 (by omega) (by omega)
  exact wOk_S h 12 _ (by unfold wCell; omega)
theorem wOk_paid {w : Int → Int} (h : wOk w) (hL : wLw w) (least : Int) : wOk (sPaid w least) := wOk_works (wOk_paidW h hL) _
theorem wHi_paid {w : Int → Int} (h : wOk w) (hL : wLw w) (least : Int) : wHi w (sPaid w least) := (wHi_S _ _ _ (by omega)).tr (wHi_works (wOk_paidW h hL) _)
theorem dX12_mayBegin_0 : decode cX12_mayBegin 0 = .ok (.aload_n 0, 1) := by decide +kernel
theorem dX12_mayBegin_1 : decode cX12_mayBegin 1 = .ok (.invokevirtual 278, 3) := by decide +kernel
theorem dX12_mayBegin_4 : decode cX12_mayBegin 4 = .ok (.ifCond .eq 7, 3) := by decide +kernel
theorem dX12_mayBegin_7 : decode cX12_mayBegin 7 = .ok (.iconst (-1), 1) := by decide +kernel
theorem dX12_mayBegin_8 : decode cX12_mayBegin 8 = .ok (.goto 7, 3) := by decide +kernel
theorem dX12_mayBegin_11 : decode cX12_mayBegin 11 = .ok (.aload_n 0, 1) := by decide +kernel
theorem dX12_mayBegin_12 : decode cX12_mayBegin 12 = .ok (.invokevirtual 309, 3) := by decide +kernel
theorem dX12_mayBegin_15 : decode cX12_mayBegin 15 = .ok (.istore_n 1, 1) := by decide +kernel
theorem dX12_mayBegin_16 : decode cX12_mayBegin 16 = .ok (.iload_n 1, 1) := by decide +kernel
theorem dX12_mayBegin_17 : decode cX12_mayBegin 17 = .ok (.iconst (-1), 1) := by decide +kernel
theorem dX12_mayBegin_18 : decode cX12_mayBegin 18 = .ok (.if_icmp .ne 4, 3) := by decide +kernel
theorem dX12_mayBegin_21 : decode cX12_mayBegin 21 = .ok (.return_, 1) := by decide +kernel
theorem dX12_mayBegin_22 : decode cX12_mayBegin 22 = .ok (.aload_n 0, 1) := by decide +kernel
theorem dX12_mayBegin_23 : decode cX12_mayBegin 23 = .ok (.iload_n 1, 1) := by decide +kernel
theorem dX12_mayBegin_24 : decode cX12_mayBegin 24 = .ok (.invokevirtual 254, 3) := by decide +kernel
theorem dX12_mayBegin_27 : decode cX12_mayBegin 27 = .ok (.aload_n 0, 1) := by decide +kernel
theorem dX12_mayBegin_28 : decode cX12_mayBegin 28 = .ok (.getfield 13, 3) := by decide +kernel
theorem dX12_mayBegin_31 : decode cX12_mayBegin 31 = .ok (.iconst 3, 1) := by decide +kernel
theorem dX12_mayBegin_32 : decode cX12_mayBegin 32 = .ok (.iaload, 1) := by decide +kernel
theorem dX12_mayBegin_33 : decode cX12_mayBegin 33 = .ok (.iconst 1, 1) := by decide +kernel
theorem dX12_mayBegin_34 : decode cX12_mayBegin 34 = .ok (.if_icmp .ne 18, 3) := by decide +kernel
theorem dX12_mayBegin_37 : decode cX12_mayBegin 37 = .ok (.iload_n 1, 1) := by decide +kernel
theorem dX12_mayBegin_38 : decode cX12_mayBegin 38 = .ok (.iconst 3, 1) := by decide +kernel
theorem dX12_mayBegin_39 : decode cX12_mayBegin 39 = .ok (.if_icmp .ge 13, 3) := by decide +kernel
theorem dX12_mayBegin_42 : decode cX12_mayBegin 42 = .ok (.aload_n 0, 1) := by decide +kernel
theorem dX12_mayBegin_43 : decode cX12_mayBegin 43 = .ok (.iload_n 1, 1) := by decide +kernel
theorem dX12_mayBegin_44 : decode cX12_mayBegin 44 = .ok (.iconst 1, 1) := by decide +kernel
theorem dX12_mayBegin_45 : decode cX12_mayBegin 45 = .ok (.iadd, 1) := by decide +kernel
theorem dX12_mayBegin_46 : decode cX12_mayBegin 46 = .ok (.invokevirtual 254, 3) := by decide +kernel
theorem dX12_mayBegin_49 : decode cX12_mayBegin 49 = .ok (.goto 4, 3) := by decide +kernel
theorem dX12_mayBegin_52 : decode cX12_mayBegin 52 = .ok (.iconst 0, 1) := by decide +kernel
theorem dX12_mayBegin_53 : decode cX12_mayBegin 53 = .ok (.ior, 1) := by decide +kernel
theorem dX12_mayBegin_54 : decode cX12_mayBegin 54 = .ok (.istore_n 2, 1) := by decide +kernel
theorem dX12_mayBegin_55 : decode cX12_mayBegin 55 = .ok (.iconst 0, 1) := by decide +kernel
theorem dX12_mayBegin_56 : decode cX12_mayBegin 56 = .ok (.istore_n 3, 1) := by decide +kernel
theorem dX12_mayBegin_57 : decode cX12_mayBegin 57 = .ok (.iload_n 3, 1) := by decide +kernel
theorem dX12_mayBegin_58 : decode cX12_mayBegin 58 = .ok (.aload_n 0, 1) := by decide +kernel
theorem dX12_mayBegin_59 : decode cX12_mayBegin 59 = .ok (.invokevirtual 66, 3) := by decide +kernel
theorem dX12_mayBegin_62 : decode cX12_mayBegin 62 = .ok (.if_icmp .ge 32, 3) := by decide +kernel
theorem dX12_mayBegin_65 : decode cX12_mayBegin 65 = .ok (.aload_n 0, 1) := by decide +kernel
theorem dX12_mayBegin_66 : decode cX12_mayBegin 66 = .ok (.getfield 13, 3) := by decide +kernel
theorem dX12_mayBegin_69 : decode cX12_mayBegin 69 = .ok (.iload_n 3, 1) := by decide +kernel
theorem dX12_mayBegin_70 : decode cX12_mayBegin 70 = .ok (.iconst 1, 1) := by decide +kernel
theorem dX12_mayBegin_71 : decode cX12_mayBegin 71 = .ok (.invokestatic 62, 3) := by decide +kernel
theorem dX12_mayBegin_74 : decode cX12_mayBegin 74 = .ok (.iload_n 2, 1) := by decide +kernel
theorem dX12_mayBegin_75 : decode cX12_mayBegin 75 = .ok (.iload_n 3, 1) := by decide +kernel
theorem dX12_mayBegin_76 : decode cX12_mayBegin 76 = .ok (.invokestatic 287, 3) := by decide +kernel
theorem dX12_mayBegin_79 : decode cX12_mayBegin 79 = .ok (.ifCond .eq 7, 3) := by decide +kernel
theorem dX12_mayBegin_82 : decode cX12_mayBegin 82 = .ok (.iconst 1, 1) := by decide +kernel
theorem dX12_mayBegin_83 : decode cX12_mayBegin 83 = .ok (.goto 4, 3) := by decide +kernel
theorem dX12_mayBegin_86 : decode cX12_mayBegin 86 = .ok (.iconst 0, 1) := by decide +kernel
theorem dX12_mayBegin_87 : decode cX12_mayBegin 87 = .ok (.iastore, 1) := by decide +kernel
theorem dX12_mayBegin_88 : decode cX12_mayBegin 88 = .ok (.iinc 3 1, 3) := by decide +kernel
theorem dX12_mayBegin_91 : decode cX12_mayBegin 91 = .ok (.goto (-34), 3) := by decide +kernel
theorem dX12_mayBegin_94 : decode cX12_mayBegin 94 = .ok (.aload_n 0, 1) := by decide +kernel
theorem dX12_mayBegin_95 : decode cX12_mayBegin 95 = .ok (.bipush 79, 2) := by decide +kernel
theorem dX12_mayBegin_97 : decode cX12_mayBegin 97 = .ok (.invokevirtual 51, 3) := by decide +kernel
theorem dX12_mayBegin_100 : decode cX12_mayBegin 100 = .ok (.aload_n 0, 1) := by decide +kernel
theorem dX12_mayBegin_101 : decode cX12_mayBegin 101 = .ok (.getfield 13, 3) := by decide +kernel
theorem dX12_mayBegin_104 : decode cX12_mayBegin 104 = .ok (.bipush 16, 2) := by decide +kernel
theorem dX12_mayBegin_106 : decode cX12_mayBegin 106 = .ok (.iconst 1, 1) := by decide +kernel
theorem dX12_mayBegin_107 : decode cX12_mayBegin 107 = .ok (.iastore, 1) := by decide +kernel
theorem dX12_mayBegin_108 : decode cX12_mayBegin 108 = .ok (.aload_n 0, 1) := by decide +kernel
theorem dX12_mayBegin_109 : decode cX12_mayBegin 109 = .ok (.getfield 13, 3) := by decide +kernel
theorem dX12_mayBegin_112 : decode cX12_mayBegin 112 = .ok (.bipush 17, 2) := by decide +kernel
theorem dX12_mayBegin_114 : decode cX12_mayBegin 114 = .ok (.iconst 3, 1) := by decide +kernel
theorem dX12_mayBegin_115 : decode cX12_mayBegin 115 = .ok (.iload_n 1, 1) := by decide +kernel
theorem dX12_mayBegin_116 : decode cX12_mayBegin 116 = .ok (.iconst 1, 1) := by decide +kernel
theorem dX12_mayBegin_117 : decode cX12_mayBegin 117 = .ok (.iadd, 1) := by decide +kernel
theorem dX12_mayBegin_118 : decode cX12_mayBegin 118 = .ok (.invokestatic 74, 3) := by decide +kernel
theorem dX12_mayBegin_121 : decode cX12_mayBegin 121 = .ok (.iastore, 1) := by decide +kernel
theorem dX12_mayBegin_122 : decode cX12_mayBegin 122 = .ok (.aload_n 0, 1) := by decide +kernel
theorem dX12_mayBegin_123 : decode cX12_mayBegin 123 = .ok (.getfield 13, 3) := by decide +kernel
theorem dX12_mayBegin_126 : decode cX12_mayBegin 126 = .ok (.bipush 18, 2) := by decide +kernel
theorem dX12_mayBegin_128 : decode cX12_mayBegin 128 = .ok (.iconst 0, 1) := by decide +kernel
theorem dX12_mayBegin_129 : decode cX12_mayBegin 129 = .ok (.iastore, 1) := by decide +kernel
theorem dX12_mayBegin_130 : decode cX12_mayBegin 130 = .ok (.aload_n 0, 1) := by decide +kernel
theorem dX12_mayBegin_131 : decode cX12_mayBegin 131 = .ok (.iconst 1, 1) := by decide +kernel
theorem dX12_mayBegin_132 : decode cX12_mayBegin 132 = .ok (.aload_n 0, 1) := by decide +kernel
theorem dX12_mayBegin_133 : decode cX12_mayBegin 133 = .ok (.getfield 13, 3) := by decide +kernel
theorem dX12_mayBegin_136 : decode cX12_mayBegin 136 = .ok (.bipush 17, 2) := by decide +kernel
theorem dX12_mayBegin_138 : decode cX12_mayBegin 138 = .ok (.iaload, 1) := by decide +kernel
theorem dX12_mayBegin_139 : decode cX12_mayBegin 139 = .ok (.aload_n 0, 1) := by decide +kernel
theorem dX12_mayBegin_140 : decode cX12_mayBegin 140 = .ok (.iload_n 2, 1) := by decide +kernel
theorem dX12_mayBegin_141 : decode cX12_mayBegin 141 = .ok (.invokevirtual 262, 3) := by decide +kernel
theorem dX12_mayBegin_144 : decode cX12_mayBegin 144 = .ok (.invokevirtual 312, 3) := by decide +kernel
theorem dX12_mayBegin_147 : decode cX12_mayBegin 147 = .ok (.return_, 1) := by decide +kernel
set_option maxHeartbeats 4000000 in
set_option maxRecDepth 100000 in
theorem ct_X12_mayBegin {E : xE} {z : Nat} {T : Nat → Nat × Int} {F : Nat → Nat → Int} {I : Nat → Int → Int} {P : Nat → Nat → Option Nat} {Y : Nat → Int → Option Nat} {m : Nat} {w : Int → Int} (hw : wM T P m) (hO : wOk w) (hL : wLw w) : Ct E 10 mX12_mayBegin 0 0 [.ref m] (z, T, F, upA I (m + 1) w, P, Y) (xs m none z T F I (sBeg w) P Y) := by
  obtain ⟨⟨q0, q1, q2, q3⟩, -⟩ := id hw
  obtain ⟨hR, o0, o1, o2, o3, o4, o5, o6, oc, o13, o14, o16, o17, o18, ov⟩ := id hO
  have hN := wN_i o0.1
  have hdb := sDM_bd w 4
  refine Ct.of [some (.ref m), none, none, none] kt_X12_mayBegin rfl (Nat.le_of_ble_eq_true rfl) rfl (fun d hd => ?_)
  generalize hX : xN E _ _ _ = X
  refine xg_aloadn 1 dX12_mayBegin_0 rfl rfl rfl ?_
  refine xg_callV 4 12 [] _ kv_X12_isBusy ⟨_, _, rfl⟩ kl_RX12_278 dX12_mayBegin_1 rfl (by assumption) (by omega) rfl rfl (Nat.le_of_ble_eq_true rfl) (by omega) ⟨Nat.le_refl _, Nat.le_refl _⟩ (ct_X12_isBusy hw hR) rfl ?_
  refine xg_deq 11 7 dX12_mayBegin_4 rfl rfl (fun hb4 => ?_) (fun hb4 => ?_)
  · skip
    refine xg_aloadn 12 dX12_mayBegin_11 rfl rfl rfl ?_
    refine xg_callVs 15 12 [] _ kv_X12_dueMost ⟨_, _, rfl⟩ kl_RX12_309 dX12_mayBegin_12 rfl (by assumption) (by omega) rfl rfl (Nat.le_of_ble_eq_true rfl) (by omega) ⟨Nat.le_refl _, Nat.le_refl _⟩ (ct_X12_dueMost hw hO hL) rfl (fun Ib hIb => ?_)
    refine xg_istoren 16 _ dX12_mayBegin_15 rfl rfl rfl (by decide) (Or.inr rfl) ?_
    refine xg_iloadn 17 dX12_mayBegin_16 rfl rfl rfl ?_
    refine xg_iconst 18 dX12_mayBegin_17 rfl ?_
    refine xg_icne 22 21 dX12_mayBegin_18 rfl rfl (by first | omega | exact hR _ | exact ⟨hR _, by omega⟩ | exact ⟨by omega, hR _⟩ | exact ⟨hR _, hR _⟩) (fun hb18 => ?_) (fun hb18 => ?_)
    · skip
      refine xg_aloadn 23 dX12_mayBegin_22 rfl rfl rfl ?_
      refine xg_iloadn 24 dX12_mayBegin_23 rfl rfl rfl ?_
      refine xg_callV 27 12 [_] _ kv_X12_runsOf ⟨_, _, rfl⟩ kl_RX12_254 dX12_mayBegin_24 rfl (by assumption) (by omega) rfl rfl (Nat.le_of_ble_eq_true rfl) (by omega) ⟨Nat.le_refl _, Nat.le_refl _⟩ (ct_X12_runsOf hw hO (by omega)) rfl ?_
      refine xg_aloadn 28 dX12_mayBegin_27 rfl rfl rfl ?_
      refine xg_getP 31 kf_RX12_13 dX12_mayBegin_28 rfl (by assumption) (by assumption) ?_
      refine xg_iconst 32 dX12_mayBegin_31 rfl ?_
      refine xg_ialdW 33 dX12_mayBegin_32 rfl (by assumption) (by first | omega | exact hR _ | exact ⟨hR _, by omega⟩ | exact ⟨by omega, hR _⟩ | exact ⟨hR _, hR _⟩) ?_
      refine xg_iconst 34 dX12_mayBegin_33 rfl ?_
      refine xg_icne 52 37 dX12_mayBegin_34 rfl rfl (by first | omega | exact hR _ | exact ⟨hR _, by omega⟩ | exact ⟨by omega, hR _⟩ | exact ⟨hR _, hR _⟩) (fun hb34 => ?_) (fun hb34 => ?_)
      · skip
        refine xg_iconst 53 dX12_mayBegin_52 rfl ?_
        skip
        refine xg_ior 54 dX12_mayBegin_53 rfl ?_
        have hbe : xor2 ((sRuns w (sDM w 4) : Nat) : Int) 0 = ((sBegS w (sDM w 4) : Nat) : Int) := by
          have h1 := sRuns_lt (w := w) (sDM w 4) o0.2
          rw [show (0 : Int) = ((0 : Nat) : Int) from rfl, xor2_nat (by omega) (by omega)]; unfold sBegS; rw [if_neg (by omega)]
        rw [hbe]
        have hbs : sBegS w (sDM w 4) < 2147483648 := by have := sBegS_lt (w := w) o0.2 (sDM w 4); omega
        refine xg_istoren 55 _ dX12_mayBegin_54 rfl rfl rfl (by decide) (Or.inr rfl) ?_
        refine xg_iconst 56 dX12_mayBegin_55 rfl ?_
        refine xg_istoren 57 _ dX12_mayBegin_56 rfl rfl rfl (by decide) (Or.inr rfl) ?_
        have loop57 : ∀ (mm : Nat) (r : Nat), ((r : Int) ≤ w 0) → w 0 - r < (mm : Int) → xG E mX12_mayBegin (xR d 0 0) X 57 [some (.ref m), some (J (sDM w 4)), some (J ((sBegS w (sDM w 4) : Nat) : Int)), some (J (r : Int))] [] (z, T, F, upA Ib (m + 1) (wInS w (sBegS w (sDM w 4)) r), P, Y) 0 0 := by
          intro mm
          induction mm with
          | zero => intro r hr hm; exfalso; omega
          | succ mm ih =>
            intro r hr hm
            refine xg_iloadn 58 dX12_mayBegin_57 rfl rfl rfl ?_
            refine xg_aloadn 59 dX12_mayBegin_58 rfl rfl rfl ?_
            refine xg_callV 62 12 [] _ kv_X12_runs ⟨_, _, rfl⟩ kl_RX12_66 dX12_mayBegin_59 rfl (by assumption) (by omega) rfl rfl (Nat.le_of_ble_eq_true rfl) (by omega) ⟨Nat.le_refl _, Nat.le_refl _⟩ (ct_X12_runs hw) rfl ?_
            rw [show wInS w (sBegS w (sDM w 4)) r 0 = w 0 from if_neg (by omega)]
            refine xg_icge 94 65 dX12_mayBegin_62 rfl rfl (by first | omega | exact hR _ | exact ⟨hR _, by omega⟩ | exact ⟨by omega, hR _⟩ | exact ⟨hR _, hR _⟩) (fun hb62 => ?_) (fun hb62 => ?_)
            · skip
              rw [show (r : Int) = w 0 by omega]
              refine xg_aloadn 95 dX12_mayBegin_94 rfl rfl rfl ?_
              refine xg_bipush 97 dX12_mayBegin_95 rfl (by decide) ?_
              refine xg_callV 100 12 [_] _ kv_X12_empties ⟨_, _, rfl⟩ kl_RX12_51 dX12_mayBegin_97 rfl (by assumption) (by omega) rfl rfl (Nat.le_of_ble_eq_true rfl) (by omega) ⟨Nat.le_refl _, Nat.le_refl _⟩ (ct_X12_empties hw (by omega)) rfl ?_
              refine xg_aloadn 101 dX12_mayBegin_100 rfl rfl rfl ?_
              refine xg_getP 104 kf_RX12_13 dX12_mayBegin_101 rfl (by assumption) (by assumption) ?_
              refine xg_bipush 106 dX12_mayBegin_104 rfl (by decide) ?_
              refine xg_iconst 107 dX12_mayBegin_106 rfl ?_
              refine xg_iastW 108 dX12_mayBegin_107 rfl (by assumption) (by first | omega | exact hR _ | exact ⟨hR _, by omega⟩ | exact ⟨by omega, hR _⟩ | exact ⟨hR _, hR _⟩) ?_
              refine xg_aloadn 109 dX12_mayBegin_108 rfl rfl rfl ?_
              refine xg_getP 112 kf_RX12_13 dX12_mayBegin_109 rfl (by assumption) (by assumption) ?_
              refine xg_bipush 114 dX12_mayBegin_112 rfl (by decide) ?_
              refine xg_iconst 115 dX12_mayBegin_114 rfl ?_
              refine xg_iloadn 116 dX12_mayBegin_115 rfl rfl rfl ?_
              refine xg_iconst 117 dX12_mayBegin_116 rfl ?_
              refine xg_iadd 118 dX12_mayBegin_117 rfl ?_
              refine xg_mmin 121 kl_RX12_74 dX12_mayBegin_118 rfl (by first | omega | exact hR _ | exact ⟨hR _, by omega⟩ | exact ⟨by omega, hR _⟩ | exact ⟨hR _, hR _⟩) (Nat.le_of_ble_eq_true rfl) (by omega) ⟨Nat.le_refl _, Nat.le_refl _⟩ ?_
              refine xg_iastW 122 dX12_mayBegin_121 rfl (by assumption) (by first | omega | exact hR _ | exact ⟨hR _, by omega⟩ | exact ⟨by omega, hR _⟩ | exact ⟨hR _, hR _⟩) ?_
              refine xg_aloadn 123 dX12_mayBegin_122 rfl rfl rfl ?_
              refine xg_getP 126 kf_RX12_13 dX12_mayBegin_123 rfl (by assumption) (by assumption) ?_
              refine xg_bipush 128 dX12_mayBegin_126 rfl (by decide) ?_
              refine xg_iconst 129 dX12_mayBegin_128 rfl ?_
              refine xg_iastW 130 dX12_mayBegin_129 rfl (by assumption) (by first | omega | exact hR _ | exact ⟨hR _, by omega⟩ | exact ⟨by omega, hR _⟩ | exact ⟨hR _, hR _⟩) ?_
              change xG _ _ _ _ _ _ _ (z, T, F, upA Ib (m + 1) (sBegW w (sDM w 4)), P, Y) _ _
              have heb : -2147483648 ≤ sEntIn (sBegW w (sDM w 4)) (sBegS w (sDM w 4)) ∧ sEntIn (sBegW w (sDM w 4)) (sBegS w (sDM w 4)) < 2147483648 := by have := sEntIn_bd (w := sBegW w (sDM w 4)) (sBegS w (sDM w 4)) (wOk_begW hO (by omega)).2.1.2; omega
              refine xg_aloadn 131 dX12_mayBegin_130 rfl rfl rfl ?_
              refine xg_iconst 132 dX12_mayBegin_131 rfl ?_
              refine xg_aloadn 133 dX12_mayBegin_132 rfl rfl rfl ?_
              refine xg_getP 136 kf_RX12_13 dX12_mayBegin_133 rfl (by assumption) (by assumption) ?_
              refine xg_bipush 138 dX12_mayBegin_136 rfl (by decide) ?_
              refine xg_ialdW 139 dX12_mayBegin_138 rfl (by assumption) (by first | omega | exact hR _ | exact ⟨hR _, by omega⟩ | exact ⟨by omega, hR _⟩ | exact ⟨hR _, hR _⟩) ?_
              refine xg_aloadn 140 dX12_mayBegin_139 rfl rfl rfl ?_
              refine xg_iloadn 141 dX12_mayBegin_140 rfl rfl rfl ?_
              refine xg_callV 144 12 [_] _ kv_X12_entriesIn ⟨_, _, rfl⟩ kl_RX12_262 dX12_mayBegin_141 rfl (by assumption) (by omega) rfl rfl (Nat.le_of_ble_eq_true rfl) (by omega) ⟨Nat.le_refl _, Nat.le_refl _⟩ (ct_X12_entriesIn hw (wOk_begW hO (by omega)) hbs) rfl ?_
              refine xg_callV 147 12 [_, _, _] _ kv_X12_isTold ⟨_, _, rfl⟩ kl_RX12_312 dX12_mayBegin_144 rfl (by assumption) (by omega) rfl rfl (Nat.le_of_ble_eq_true rfl) (by omega) ⟨Nat.le_refl _, Nat.le_refl _⟩ (ct_X12_isTold hw (wOk_begW hO (by omega)) (by omega) ((wOk_begW hO (by omega)).1 17) heb) rfl ?_
              subst hX
              exact xg_return dX12_mayBegin_147 rfl ⟨Nat.le_refl _, Nat.le_refl _⟩ ⟨rfl, Ib, hIb, by unfold sBeg; rw [if_neg (by omega), if_neg (by omega)]; rfl⟩
            · skip
              refine xg_aloadn 66 dX12_mayBegin_65 rfl rfl rfl ?_
              refine xg_getP 69 kf_RX12_13 dX12_mayBegin_66 rfl (by assumption) (by assumption) ?_
              refine xg_iloadn 70 dX12_mayBegin_69 rfl rfl rfl ?_
              refine xg_iconst 71 dX12_mayBegin_70 rfl ?_
              refine xg_callS 74 [_, _] _ ks_X12_runAt kl_RX12_62 dX12_mayBegin_71 rfl rfl rfl (Nat.le_of_ble_eq_true rfl) (by omega) ⟨Nat.le_refl _, Nat.le_refl _⟩ (ct_X12_runAt) rfl ?_
              refine xg_iloadn 75 dX12_mayBegin_74 rfl rfl rfl ?_
              refine xg_iloadn 76 dX12_mayBegin_75 rfl rfl rfl ?_
              refine xg_callS 79 [_, _] _ ks_X12_has kl_RX12_287 dX12_mayBegin_76 rfl rfl rfl (Nat.le_of_ble_eq_true rfl) (by omega) ⟨Nat.le_refl _, Nat.le_refl _⟩ (ct_X12_has hbs (by omega)) rfl ?_
              refine xg_beq 86 82 dX12_mayBegin_79 rfl rfl (fun hb79 => ?_) (fun hb79 => ?_)
              · skip
                refine xg_iconst 87 dX12_mayBegin_86 rfl ?_
                refine xg_iastW 88 dX12_mayBegin_87 rfl (by assumption) (by first | omega | exact hR _ | exact ⟨hR _, by omega⟩ | exact ⟨by omega, hR _⟩ | exact ⟨hR _, hR _⟩) ?_
                refine xg_iinc 91 _ dX12_mayBegin_88 rfl rfl rfl rfl (by decide) (Or.inr rfl) ?_
                refine xg_goto 57 dX12_mayBegin_91 rfl ?_
                exact xg_weak _ (xle_s rfl (xle_s rfl (xle_s rfl (xle_s rfl xle_0)))) (xg_to rfl (by have := wInS_s w (sBegS w (sDM w 4)) r; rw [hb79] at this; exact congrArg (fun v => (z, T, F, upA Ib (m + 1) v, P, Y)) this) (ih (r + 1) (by omega) (by omega)))
              · skip
                refine xg_iconst 83 dX12_mayBegin_82 rfl ?_
                refine xg_goto 87 dX12_mayBegin_83 rfl ?_
                refine xg_iastW 88 dX12_mayBegin_87 rfl (by assumption) (by first | omega | exact hR _ | exact ⟨hR _, by omega⟩ | exact ⟨by omega, hR _⟩ | exact ⟨hR _, hR _⟩) ?_
                refine xg_iinc 91 _ dX12_mayBegin_88 rfl rfl rfl rfl (by decide) (Or.inr rfl) ?_
                refine xg_goto 57 dX12_mayBegin_91 rfl ?_
                exact xg_weak _ (xle_s rfl (xle_s rfl (xle_s rfl (xle_s rfl xle_0)))) (xg_to rfl (by have := wInS_s w (sBegS w (sDM w 4)) r; rw [hb79] at this; exact congrArg (fun v => (z, T, F, upA Ib (m + 1) v, P, Y)) this) (ih (r + 1) (by omega) (by omega)))
        have l0 := loop57 20 0 (by omega) (by omega)
        rw [show ((0 : Nat) : Int) = 0 from rfl, wInS_0] at l0
        exact xg_weak _ (xle_s rfl (xle_s rfl (xle_s rfl (xle_s rfl xle_0)))) l0
      · skip
        refine xg_iloadn 38 dX12_mayBegin_37 rfl rfl rfl ?_
        refine xg_iconst 39 dX12_mayBegin_38 rfl ?_
        refine xg_icge 52 42 dX12_mayBegin_39 rfl rfl (by first | omega | exact hR _ | exact ⟨hR _, by omega⟩ | exact ⟨by omega, hR _⟩ | exact ⟨hR _, hR _⟩) (fun hb39 => ?_) (fun hb39 => ?_)
        · skip
          refine xg_iconst 53 dX12_mayBegin_52 rfl ?_
          skip
          refine xg_ior 54 dX12_mayBegin_53 rfl ?_
          have hbe : xor2 ((sRuns w (sDM w 4) : Nat) : Int) 0 = ((sBegS w (sDM w 4) : Nat) : Int) := by
            have h1 := sRuns_lt (w := w) (sDM w 4) o0.2
            rw [show (0 : Int) = ((0 : Nat) : Int) from rfl, xor2_nat (by omega) (by omega)]; unfold sBegS; rw [if_neg (by omega)]
          rw [hbe]
          have hbs : sBegS w (sDM w 4) < 2147483648 := by have := sBegS_lt (w := w) o0.2 (sDM w 4); omega
          refine xg_istoren 55 _ dX12_mayBegin_54 rfl rfl rfl (by decide) (Or.inr rfl) ?_
          refine xg_iconst 56 dX12_mayBegin_55 rfl ?_
          refine xg_istoren 57 _ dX12_mayBegin_56 rfl rfl rfl (by decide) (Or.inr rfl) ?_
          have loop57 : ∀ (mm : Nat) (r : Nat), ((r : Int) ≤ w 0) → w 0 - r < (mm : Int) → xG E mX12_mayBegin (xR d 0 0) X 57 [some (.ref m), some (J (sDM w 4)), some (J ((sBegS w (sDM w 4) : Nat) : Int)), some (J (r : Int))] [] (z, T, F, upA Ib (m + 1) (wInS w (sBegS w (sDM w 4)) r), P, Y) 0 0 := by
            intro mm
            induction mm with
            | zero => intro r hr hm; exfalso; omega
            | succ mm ih =>
              intro r hr hm
              refine xg_iloadn 58 dX12_mayBegin_57 rfl rfl rfl ?_
              refine xg_aloadn 59 dX12_mayBegin_58 rfl rfl rfl ?_
              refine xg_callV 62 12 [] _ kv_X12_runs ⟨_, _, rfl⟩ kl_RX12_66 dX12_mayBegin_59 rfl (by assumption) (by omega) rfl rfl (Nat.le_of_ble_eq_true rfl) (by omega) ⟨Nat.le_refl _, Nat.le_refl _⟩ (ct_X12_runs hw) rfl ?_
              rw [show wInS w (sBegS w (sDM w 4)) r 0 = w 0 from if_neg (by omega)]
              refine xg_icge 94 65 dX12_mayBegin_62 rfl rfl (by first | omega | exact hR _ | exact ⟨hR _, by omega⟩ | exact ⟨by omega, hR _⟩ | exact ⟨hR _, hR _⟩) (fun hb62 => ?_) (fun hb62 => ?_)
              · skip
                rw [show (r : Int) = w 0 by omega]
                refine xg_aloadn 95 dX12_mayBegin_94 rfl rfl rfl ?_
                refine xg_bipush 97 dX12_mayBegin_95 rfl (by decide) ?_
                refine xg_callV 100 12 [_] _ kv_X12_empties ⟨_, _, rfl⟩ kl_RX12_51 dX12_mayBegin_97 rfl (by assumption) (by omega) rfl rfl (Nat.le_of_ble_eq_true rfl) (by omega) ⟨Nat.le_refl _, Nat.le_refl _⟩ (ct_X12_empties hw (by omega)) rfl ?_
                refine xg_aloadn 101 dX12_mayBegin_100 rfl rfl rfl ?_
                refine xg_getP 104 kf_RX12_13 dX12_mayBegin_101 rfl (by assumption) (by assumption) ?_
                refine xg_bipush 106 dX12_mayBegin_104 rfl (by decide) ?_
                refine xg_iconst 107 dX12_mayBegin_106 rfl ?_
                refine xg_iastW 108 dX12_mayBegin_107 rfl (by assumption) (by first | omega | exact hR _ | exact ⟨hR _, by omega⟩ | exact ⟨by omega, hR _⟩ | exact ⟨hR _, hR _⟩) ?_
                refine xg_aloadn 109 dX12_mayBegin_108 rfl rfl rfl ?_
                refine xg_getP 112 kf_RX12_13 dX12_mayBegin_109 rfl (by assumption) (by assumption) ?_
                refine xg_bipush 114 dX12_mayBegin_112 rfl (by decide) ?_
                refine xg_iconst 115 dX12_mayBegin_114 rfl ?_
                refine xg_iloadn 116 dX12_mayBegin_115 rfl rfl rfl ?_
                refine xg_iconst 117 dX12_mayBegin_116 rfl ?_
                refine xg_iadd 118 dX12_mayBegin_117 rfl ?_
                refine xg_mmin 121 kl_RX12_74 dX12_mayBegin_118 rfl (by first | omega | exact hR _ | exact ⟨hR _, by omega⟩ | exact ⟨by omega, hR _⟩ | exact ⟨hR _, hR _⟩) (Nat.le_of_ble_eq_true rfl) (by omega) ⟨Nat.le_refl _, Nat.le_refl _⟩ ?_
                refine xg_iastW 122 dX12_mayBegin_121 rfl (by assumption) (by first | omega | exact hR _ | exact ⟨hR _, by omega⟩ | exact ⟨by omega, hR _⟩ | exact ⟨hR _, hR _⟩) ?_
                refine xg_aloadn 123 dX12_mayBegin_122 rfl rfl rfl ?_
                refine xg_getP 126 kf_RX12_13 dX12_mayBegin_123 rfl (by assumption) (by assumption) ?_
                refine xg_bipush 128 dX12_mayBegin_126 rfl (by decide) ?_
                refine xg_iconst 129 dX12_mayBegin_128 rfl ?_
                refine xg_iastW 130 dX12_mayBegin_129 rfl (by assumption) (by first | omega | exact hR _ | exact ⟨hR _, by omega⟩ | exact ⟨by omega, hR _⟩ | exact ⟨hR _, hR _⟩) ?_
                change xG _ _ _ _ _ _ _ (z, T, F, upA Ib (m + 1) (sBegW w (sDM w 4)), P, Y) _ _
                have heb : -2147483648 ≤ sEntIn (sBegW w (sDM w 4)) (sBegS w (sDM w 4)) ∧ sEntIn (sBegW w (sDM w 4)) (sBegS w (sDM w 4)) < 2147483648 := by have := sEntIn_bd (w := sBegW w (sDM w 4)) (sBegS w (sDM w 4)) (wOk_begW hO (by omega)).2.1.2; omega
                refine xg_aloadn 131 dX12_mayBegin_130 rfl rfl rfl ?_
                refine xg_iconst 132 dX12_mayBegin_131 rfl ?_
                refine xg_aloadn 133 dX12_mayBegin_132 rfl rfl rfl ?_
                refine xg_getP 136 kf_RX12_13 dX12_mayBegin_133 rfl (by assumption) (by assumption) ?_
                refine xg_bipush 138 dX12_mayBegin_136 rfl (by decide) ?_
                refine xg_ialdW 139 dX12_mayBegin_138 rfl (by assumption) (by first | omega | exact hR _ | exact ⟨hR _, by omega⟩ | exact ⟨by omega, hR _⟩ | exact ⟨hR _, hR _⟩) ?_
                refine xg_aloadn 140 dX12_mayBegin_139 rfl rfl rfl ?_
                refine xg_iloadn 141 dX12_mayBegin_140 rfl rfl rfl ?_
                refine xg_callV 144 12 [_] _ kv_X12_entriesIn ⟨_, _, rfl⟩ kl_RX12_262 dX12_mayBegin_141 rfl (by assumption) (by omega) rfl rfl (Nat.le_of_ble_eq_true rfl) (by omega) ⟨Nat.le_refl _, Nat.le_refl _⟩ (ct_X12_entriesIn hw (wOk_begW hO (by omega)) hbs) rfl ?_
                refine xg_callV 147 12 [_, _, _] _ kv_X12_isTold ⟨_, _, rfl⟩ kl_RX12_312 dX12_mayBegin_144 rfl (by assumption) (by omega) rfl rfl (Nat.le_of_ble_eq_true rfl) (by omega) ⟨Nat.le_refl _, Nat.le_refl _⟩ (ct_X12_isTold hw (wOk_begW hO (by omega)) (by omega) ((wOk_begW hO (by omega)).1 17) heb) rfl ?_
                subst hX
                exact xg_return dX12_mayBegin_147 rfl ⟨Nat.le_refl _, Nat.le_refl _⟩ ⟨rfl, Ib, hIb, by unfold sBeg; rw [if_neg (by omega), if_neg (by omega)]; rfl⟩
              · skip
                refine xg_aloadn 66 dX12_mayBegin_65 rfl rfl rfl ?_
                refine xg_getP 69 kf_RX12_13 dX12_mayBegin_66 rfl (by assumption) (by assumption) ?_
                refine xg_iloadn 70 dX12_mayBegin_69 rfl rfl rfl ?_
                refine xg_iconst 71 dX12_mayBegin_70 rfl ?_
                refine xg_callS 74 [_, _] _ ks_X12_runAt kl_RX12_62 dX12_mayBegin_71 rfl rfl rfl (Nat.le_of_ble_eq_true rfl) (by omega) ⟨Nat.le_refl _, Nat.le_refl _⟩ (ct_X12_runAt) rfl ?_
                refine xg_iloadn 75 dX12_mayBegin_74 rfl rfl rfl ?_
                refine xg_iloadn 76 dX12_mayBegin_75 rfl rfl rfl ?_
                refine xg_callS 79 [_, _] _ ks_X12_has kl_RX12_287 dX12_mayBegin_76 rfl rfl rfl (Nat.le_of_ble_eq_true rfl) (by omega) ⟨Nat.le_refl _, Nat.le_refl _⟩ (ct_X12_has hbs (by omega)) rfl ?_
                refine xg_beq 86 82 dX12_mayBegin_79 rfl rfl (fun hb79 => ?_) (fun hb79 => ?_)
                · skip
                  refine xg_iconst 87 dX12_mayBegin_86 rfl ?_
                  refine xg_iastW 88 dX12_mayBegin_87 rfl (by assumption) (by first | omega | exact hR _ | exact ⟨hR _, by omega⟩ | exact ⟨by omega, hR _⟩ | exact ⟨hR _, hR _⟩) ?_
                  refine xg_iinc 91 _ dX12_mayBegin_88 rfl rfl rfl rfl (by decide) (Or.inr rfl) ?_
                  refine xg_goto 57 dX12_mayBegin_91 rfl ?_
                  exact xg_weak _ (xle_s rfl (xle_s rfl (xle_s rfl (xle_s rfl xle_0)))) (xg_to rfl (by have := wInS_s w (sBegS w (sDM w 4)) r; rw [hb79] at this; exact congrArg (fun v => (z, T, F, upA Ib (m + 1) v, P, Y)) this) (ih (r + 1) (by omega) (by omega)))
                · skip
                  refine xg_iconst 83 dX12_mayBegin_82 rfl ?_
                  refine xg_goto 87 dX12_mayBegin_83 rfl ?_
                  refine xg_iastW 88 dX12_mayBegin_87 rfl (by assumption) (by first | omega | exact hR _ | exact ⟨hR _, by omega⟩ | exact ⟨by omega, hR _⟩ | exact ⟨hR _, hR _⟩) ?_
                  refine xg_iinc 91 _ dX12_mayBegin_88 rfl rfl rfl rfl (by decide) (Or.inr rfl) ?_
                  refine xg_goto 57 dX12_mayBegin_91 rfl ?_
                  exact xg_weak _ (xle_s rfl (xle_s rfl (xle_s rfl (xle_s rfl xle_0)))) (xg_to rfl (by have := wInS_s w (sBegS w (sDM w 4)) r; rw [hb79] at this; exact congrArg (fun v => (z, T, F, upA Ib (m + 1) v, P, Y)) this) (ih (r + 1) (by omega) (by omega)))
          have l0 := loop57 20 0 (by omega) (by omega)
          rw [show ((0 : Nat) : Int) = 0 from rfl, wInS_0] at l0
          exact xg_weak _ (xle_s rfl (xle_s rfl (xle_s rfl (xle_s rfl xle_0)))) l0
        · skip
          refine xg_aloadn 43 dX12_mayBegin_42 rfl rfl rfl ?_
          refine xg_iloadn 44 dX12_mayBegin_43 rfl rfl rfl ?_
          refine xg_iconst 45 dX12_mayBegin_44 rfl ?_
          refine xg_iadd 46 dX12_mayBegin_45 rfl ?_
          refine xg_callV 49 12 [_] _ kv_X12_runsOf ⟨_, _, rfl⟩ kl_RX12_254 dX12_mayBegin_46 rfl (by assumption) (by omega) rfl rfl (Nat.le_of_ble_eq_true rfl) (by omega) ⟨Nat.le_refl _, Nat.le_refl _⟩ (ct_X12_runsOf hw hO (by omega)) rfl ?_
          refine xg_goto 53 dX12_mayBegin_49 rfl ?_
          skip
          refine xg_ior 54 dX12_mayBegin_53 rfl ?_
          have hbe : xor2 ((sRuns w (sDM w 4) : Nat) : Int) ((sRuns w (sDM w 4 + 1) : Nat) : Int) = ((sBegS w (sDM w 4) : Nat) : Int) := by
            have h1 := sRuns_lt (w := w) (sDM w 4) o0.2
            have h2 := sRuns_lt (w := w) (sDM w 4 + 1) o0.2
            rw [xor2_nat (by omega) (by omega)]; unfold sBegS; rw [if_pos (by omega)]
          rw [hbe]
          have hbs : sBegS w (sDM w 4) < 2147483648 := by have := sBegS_lt (w := w) o0.2 (sDM w 4); omega
          refine xg_istoren 55 _ dX12_mayBegin_54 rfl rfl rfl (by decide) (Or.inr rfl) ?_
          refine xg_iconst 56 dX12_mayBegin_55 rfl ?_
          refine xg_istoren 57 _ dX12_mayBegin_56 rfl rfl rfl (by decide) (Or.inr rfl) ?_
          have loop57 : ∀ (mm : Nat) (r : Nat), ((r : Int) ≤ w 0) → w 0 - r < (mm : Int) → xG E mX12_mayBegin (xR d 0 0) X 57 [some (.ref m), some (J (sDM w 4)), some (J ((sBegS w (sDM w 4) : Nat) : Int)), some (J (r : Int))] [] (z, T, F, upA Ib (m + 1) (wInS w (sBegS w (sDM w 4)) r), P, Y) 0 0 := by
            intro mm
            induction mm with
            | zero => intro r hr hm; exfalso; omega
            | succ mm ih =>
              intro r hr hm
              refine xg_iloadn 58 dX12_mayBegin_57 rfl rfl rfl ?_
              refine xg_aloadn 59 dX12_mayBegin_58 rfl rfl rfl ?_
              refine xg_callV 62 12 [] _ kv_X12_runs ⟨_, _, rfl⟩ kl_RX12_66 dX12_mayBegin_59 rfl (by assumption) (by omega) rfl rfl (Nat.le_of_ble_eq_true rfl) (by omega) ⟨Nat.le_refl _, Nat.le_refl _⟩ (ct_X12_runs hw) rfl ?_
              rw [show wInS w (sBegS w (sDM w 4)) r 0 = w 0 from if_neg (by omega)]
              refine xg_icge 94 65 dX12_mayBegin_62 rfl rfl (by first | omega | exact hR _ | exact ⟨hR _, by omega⟩ | exact ⟨by omega, hR _⟩ | exact ⟨hR _, hR _⟩) (fun hb62 => ?_) (fun hb62 => ?_)
              · skip
                rw [show (r : Int) = w 0 by omega]
                refine xg_aloadn 95 dX12_mayBegin_94 rfl rfl rfl ?_
                refine xg_bipush 97 dX12_mayBegin_95 rfl (by decide) ?_
                refine xg_callV 100 12 [_] _ kv_X12_empties ⟨_, _, rfl⟩ kl_RX12_51 dX12_mayBegin_97 rfl (by assumption) (by omega) rfl rfl (Nat.le_of_ble_eq_true rfl) (by omega) ⟨Nat.le_refl _, Nat.le_refl _⟩ (ct_X12_empties hw (by omega)) rfl ?_
                refine xg_aloadn 101 dX12_mayBegin_100 rfl rfl rfl ?_
                refine xg_getP 104 kf_RX12_13 dX12_mayBegin_101 rfl (by assumption) (by assumption) ?_
                refine xg_bipush 106 dX12_mayBegin_104 rfl (by decide) ?_
                refine xg_iconst 107 dX12_mayBegin_106 rfl ?_
                refine xg_iastW 108 dX12_mayBegin_107 rfl (by assumption) (by first | omega | exact hR _ | exact ⟨hR _, by omega⟩ | exact ⟨by omega, hR _⟩ | exact ⟨hR _, hR _⟩) ?_
                refine xg_aloadn 109 dX12_mayBegin_108 rfl rfl rfl ?_
                refine xg_getP 112 kf_RX12_13 dX12_mayBegin_109 rfl (by assumption) (by assumption) ?_
                refine xg_bipush 114 dX12_mayBegin_112 rfl (by decide) ?_
                refine xg_iconst 115 dX12_mayBegin_114 rfl ?_
                refine xg_iloadn 116 dX12_mayBegin_115 rfl rfl rfl ?_
                refine xg_iconst 117 dX12_mayBegin_116 rfl ?_
                refine xg_iadd 118 dX12_mayBegin_117 rfl ?_
                refine xg_mmin 121 kl_RX12_74 dX12_mayBegin_118 rfl (by first | omega | exact hR _ | exact ⟨hR _, by omega⟩ | exact ⟨by omega, hR _⟩ | exact ⟨hR _, hR _⟩) (Nat.le_of_ble_eq_true rfl) (by omega) ⟨Nat.le_refl _, Nat.le_refl _⟩ ?_
                refine xg_iastW 122 dX12_mayBegin_121 rfl (by assumption) (by first | omega | exact hR _ | exact ⟨hR _, by omega⟩ | exact ⟨by omega, hR _⟩ | exact ⟨hR _, hR _⟩) ?_
                refine xg_aloadn 123 dX12_mayBegin_122 rfl rfl rfl ?_
                refine xg_getP 126 kf_RX12_13 dX12_mayBegin_123 rfl (by assumption) (by assumption) ?_
                refine xg_bipush 128 dX12_mayBegin_126 rfl (by decide) ?_
                refine xg_iconst 129 dX12_mayBegin_128 rfl ?_
                refine xg_iastW 130 dX12_mayBegin_129 rfl (by assumption) (by first | omega | exact hR _ | exact ⟨hR _, by omega⟩ | exact ⟨by omega, hR _⟩ | exact ⟨hR _, hR _⟩) ?_
                change xG _ _ _ _ _ _ _ (z, T, F, upA Ib (m + 1) (sBegW w (sDM w 4)), P, Y) _ _
                have heb : -2147483648 ≤ sEntIn (sBegW w (sDM w 4)) (sBegS w (sDM w 4)) ∧ sEntIn (sBegW w (sDM w 4)) (sBegS w (sDM w 4)) < 2147483648 := by have := sEntIn_bd (w := sBegW w (sDM w 4)) (sBegS w (sDM w 4)) (wOk_begW hO (by omega)).2.1.2; omega
                refine xg_aloadn 131 dX12_mayBegin_130 rfl rfl rfl ?_
                refine xg_iconst 132 dX12_mayBegin_131 rfl ?_
                refine xg_aloadn 133 dX12_mayBegin_132 rfl rfl rfl ?_
                refine xg_getP 136 kf_RX12_13 dX12_mayBegin_133 rfl (by assumption) (by assumption) ?_
                refine xg_bipush 138 dX12_mayBegin_136 rfl (by decide) ?_
                refine xg_ialdW 139 dX12_mayBegin_138 rfl (by assumption) (by first | omega | exact hR _ | exact ⟨hR _, by omega⟩ | exact ⟨by omega, hR _⟩ | exact ⟨hR _, hR _⟩) ?_
                refine xg_aloadn 140 dX12_mayBegin_139 rfl rfl rfl ?_
                refine xg_iloadn 141 dX12_mayBegin_140 rfl rfl rfl ?_
                refine xg_callV 144 12 [_] _ kv_X12_entriesIn ⟨_, _, rfl⟩ kl_RX12_262 dX12_mayBegin_141 rfl (by assumption) (by omega) rfl rfl (Nat.le_of_ble_eq_true rfl) (by omega) ⟨Nat.le_refl _, Nat.le_refl _⟩ (ct_X12_entriesIn hw (wOk_begW hO (by omega)) hbs) rfl ?_
                refine xg_callV 147 12 [_, _, _] _ kv_X12_isTold ⟨_, _, rfl⟩ kl_RX12_312 dX12_mayBegin_144 rfl (by assumption) (by omega) rfl rfl (Nat.le_of_ble_eq_true rfl) (by omega) ⟨Nat.le_refl _, Nat.le_refl _⟩ (ct_X12_isTold hw (wOk_begW hO (by omega)) (by omega) ((wOk_begW hO (by omega)).1 17) heb) rfl ?_
                subst hX
                exact xg_return dX12_mayBegin_147 rfl ⟨Nat.le_refl _, Nat.le_refl _⟩ ⟨rfl, Ib, hIb, by unfold sBeg; rw [if_neg (by omega), if_neg (by omega)]; rfl⟩
              · skip
                refine xg_aloadn 66 dX12_mayBegin_65 rfl rfl rfl ?_
                refine xg_getP 69 kf_RX12_13 dX12_mayBegin_66 rfl (by assumption) (by assumption) ?_
                refine xg_iloadn 70 dX12_mayBegin_69 rfl rfl rfl ?_
                refine xg_iconst 71 dX12_mayBegin_70 rfl ?_
                refine xg_callS 74 [_, _] _ ks_X12_runAt kl_RX12_62 dX12_mayBegin_71 rfl rfl rfl (Nat.le_of_ble_eq_true rfl) (by omega) ⟨Nat.le_refl _, Nat.le_refl _⟩ (ct_X12_runAt) rfl ?_
                refine xg_iloadn 75 dX12_mayBegin_74 rfl rfl rfl ?_
                refine xg_iloadn 76 dX12_mayBegin_75 rfl rfl rfl ?_
                refine xg_callS 79 [_, _] _ ks_X12_has kl_RX12_287 dX12_mayBegin_76 rfl rfl rfl (Nat.le_of_ble_eq_true rfl) (by omega) ⟨Nat.le_refl _, Nat.le_refl _⟩ (ct_X12_has hbs (by omega)) rfl ?_
                refine xg_beq 86 82 dX12_mayBegin_79 rfl rfl (fun hb79 => ?_) (fun hb79 => ?_)
                · skip
                  refine xg_iconst 87 dX12_mayBegin_86 rfl ?_
                  refine xg_iastW 88 dX12_mayBegin_87 rfl (by assumption) (by first | omega | exact hR _ | exact ⟨hR _, by omega⟩ | exact ⟨by omega, hR _⟩ | exact ⟨hR _, hR _⟩) ?_
                  refine xg_iinc 91 _ dX12_mayBegin_88 rfl rfl rfl rfl (by decide) (Or.inr rfl) ?_
                  refine xg_goto 57 dX12_mayBegin_91 rfl ?_
                  exact xg_weak _ (xle_s rfl (xle_s rfl (xle_s rfl (xle_s rfl xle_0)))) (xg_to rfl (by have := wInS_s w (sBegS w (sDM w 4)) r; rw [hb79] at this; exact congrArg (fun v => (z, T, F, upA Ib (m + 1) v, P, Y)) this) (ih (r + 1) (by omega) (by omega)))
                · skip
                  refine xg_iconst 83 dX12_mayBegin_82 rfl ?_
                  refine xg_goto 87 dX12_mayBegin_83 rfl ?_
                  refine xg_iastW 88 dX12_mayBegin_87 rfl (by assumption) (by first | omega | exact hR _ | exact ⟨hR _, by omega⟩ | exact ⟨by omega, hR _⟩ | exact ⟨hR _, hR _⟩) ?_
                  refine xg_iinc 91 _ dX12_mayBegin_88 rfl rfl rfl rfl (by decide) (Or.inr rfl) ?_
                  refine xg_goto 57 dX12_mayBegin_91 rfl ?_
                  exact xg_weak _ (xle_s rfl (xle_s rfl (xle_s rfl (xle_s rfl xle_0)))) (xg_to rfl (by have := wInS_s w (sBegS w (sDM w 4)) r; rw [hb79] at this; exact congrArg (fun v => (z, T, F, upA Ib (m + 1) v, P, Y)) this) (ih (r + 1) (by omega) (by omega)))
          have l0 := loop57 20 0 (by omega) (by omega)
          rw [show ((0 : Nat) : Int) = 0 from rfl, wInS_0] at l0
          exact xg_weak _ (xle_s rfl (xle_s rfl (xle_s rfl (xle_s rfl xle_0)))) l0
    · skip
      subst hX
      exact xg_return dX12_mayBegin_21 rfl ⟨Nat.le_refl _, Nat.le_refl _⟩ ⟨rfl, Ib, hIb, by unfold sBeg; rw [if_neg hb4, if_pos hb18]⟩
  · skip
    refine xg_iconst 8 dX12_mayBegin_7 rfl ?_
    refine xg_goto 15 dX12_mayBegin_8 rfl ?_
    refine xg_istoren 16 _ dX12_mayBegin_15 rfl rfl rfl (by decide) (Or.inr rfl) ?_
    refine xg_iloadn 17 dX12_mayBegin_16 rfl rfl rfl ?_
    refine xg_iconst 18 dX12_mayBegin_17 rfl ?_
    refine xg_icne 22 21 dX12_mayBegin_18 rfl rfl (by first | omega | exact hR _ | exact ⟨hR _, by omega⟩ | exact ⟨by omega, hR _⟩ | exact ⟨hR _, hR _⟩) (fun hb18 => ?_) (fun hb18 => ?_)
    · exfalso; omega
    · skip
      subst hX
      exact xg_return dX12_mayBegin_21 rfl ⟨Nat.le_refl _, Nat.le_refl _⟩ ⟨rfl, I, xScr.rf, by unfold sBeg; rw [if_pos hb4]⟩

theorem dX12_paidSlice_0 : decode cX12_paidSlice 0 = .ok (.iload_n 1, 1) := by decide +kernel
theorem dX12_paidSlice_1 : decode cX12_paidSlice 1 = .ok (.aload_n 0, 1) := by decide +kernel
theorem dX12_paidSlice_2 : decode cX12_paidSlice 2 = .ok (.invokevirtual 340, 3) := by decide +kernel
theorem dX12_paidSlice_5 : decode cX12_paidSlice 5 = .ok (.invokestatic 343, 3) := by decide +kernel
theorem dX12_paidSlice_8 : decode cX12_paidSlice 8 = .ok (.istore_n 2, 1) := by decide +kernel
theorem dX12_paidSlice_9 : decode cX12_paidSlice 9 = .ok (.aload_n 0, 1) := by decide +kernel
theorem dX12_paidSlice_10 : decode cX12_paidSlice 10 = .ok (.bipush 12, 2) := by decide +kernel
theorem dX12_paidSlice_12 : decode cX12_paidSlice 12 = .ok (.aload_n 0, 1) := by decide +kernel
theorem dX12_paidSlice_13 : decode cX12_paidSlice 13 = .ok (.invokevirtual 346, 3) := by decide +kernel
theorem dX12_paidSlice_16 : decode cX12_paidSlice 16 = .ok (.ldc_w 327, 3) := by decide +kernel
theorem dX12_paidSlice_19 : decode cX12_paidSlice 19 = .ok (.invokevirtual 302, 3) := by decide +kernel
theorem dX12_paidSlice_22 : decode cX12_paidSlice 22 = .ok (.aload_n 0, 1) := by decide +kernel
theorem dX12_paidSlice_23 : decode cX12_paidSlice 23 = .ok (.iload_n 2, 1) := by decide +kernel
theorem dX12_paidSlice_24 : decode cX12_paidSlice 24 = .ok (.invokevirtual 349, 3) := by decide +kernel
theorem dX12_paidSlice_27 : decode cX12_paidSlice 27 = .ok (.ireturn, 1) := by decide +kernel
set_option maxHeartbeats 4000000 in
set_option maxRecDepth 100000 in
theorem ct_X12_paidSlice {E : xE} {z : Nat} {T : Nat → Nat × Int} {F : Nat → Nat → Int} {I : Nat → Int → Int} {P : Nat → Nat → Option Nat} {Y : Nat → Int → Option Nat} {m : Nat} {w : Int → Int} (hw : wM T P m) (hO : wOk w) (hL : wLw w){least : Int} (hl : 0 ≤ least ∧ least ≤ 1) : Ct E 9 mX12_paidSlice 0 0 [.ref m, J least] (z, T, F, upA I (m + 1) w, P, Y) (xs m (some (J (sPaidD w least))) z T F I (sPaid w least) P Y) := by
  obtain ⟨⟨q0, q1, q2, q3⟩, -⟩ := id hw
  obtain ⟨hR, o0, o1, o2, o3, o4, o5, o6, oc, o13, o14, o16, o17, o18, ov⟩ := id hO
  have hN := wN_i o0.1
  have hsb := sSlice_bd hO hL
  have hcb := sCost_bd hL
  have h12 := oc 12 (by omega) (by omega)
  refine Ct.of [some (.ref m), some (J least), none] kt_X12_paidSlice rfl (Nat.le_of_ble_eq_true rfl) rfl (fun d hd => ?_)
  generalize hX : xN E _ _ _ = X
  refine xg_iloadn 1 dX12_paidSlice_0 rfl rfl rfl ?_
  refine xg_aloadn 2 dX12_paidSlice_1 rfl rfl rfl ?_
  refine xg_callVs 5 12 [] _ kv_X12_sliceNow ⟨_, _, rfl⟩ kl_RX12_340 dX12_paidSlice_2 rfl (by assumption) (by omega) rfl rfl (Nat.le_of_ble_eq_true rfl) (by omega) ⟨Nat.le_refl _, Nat.le_refl _⟩ (ct_X12_sliceNow hw hO hL) rfl (fun Ib hIb => ?_)
  refine xg_mmax 8 kl_RX12_343 dX12_paidSlice_5 rfl (by first | omega | exact hR _ | exact ⟨hR _, by omega⟩ | exact ⟨by omega, hR _⟩ | exact ⟨hR _, hR _⟩) (Nat.le_of_ble_eq_true rfl) (by omega) ⟨Nat.le_refl _, Nat.le_refl _⟩ ?_
  refine xg_istoren 9 _ dX12_paidSlice_8 rfl rfl rfl (by decide) (Or.inr rfl) ?_
  refine xg_aloadn 10 dX12_paidSlice_9 rfl rfl rfl ?_
  refine xg_bipush 12 dX12_paidSlice_10 rfl (by decide) ?_
  refine xg_aloadn 13 dX12_paidSlice_12 rfl rfl rfl ?_
  refine xg_callVs 16 12 [] _ kv_X12_costNow ⟨_, _, rfl⟩ kl_RX12_346 dX12_paidSlice_13 rfl (by assumption) (by omega) rfl rfl (Nat.le_of_ble_eq_true rfl) (by omega) ⟨Nat.le_refl _, Nat.le_refl _⟩ (ct_X12_costNow hw hO hL) rfl (fun Ic hIc => ?_)
  refine xg_ldcw (z := 99999) 19 kk_RX12_327 dX12_paidSlice_16 rfl rfl ?_
  refine xg_callV 22 12 [_, _, _] _ kv_X12_more ⟨_, _, rfl⟩ kl_RX12_302 dX12_paidSlice_19 rfl (by assumption) (by omega) rfl rfl (Nat.le_of_ble_eq_true rfl) (by omega) ⟨Nat.le_refl _, Nat.le_refl _⟩ (ct_X12_more hw (by omega) (by omega) (by omega)) rfl ?_
  refine xg_aloadn 23 dX12_paidSlice_22 rfl rfl rfl ?_
  refine xg_iloadn 24 dX12_paidSlice_23 rfl rfl rfl ?_
  refine xg_callV 27 12 [_] _ kv_X12_works ⟨_, _, rfl⟩ kl_RX12_349 dX12_paidSlice_24 rfl (by assumption) (by omega) rfl rfl (Nat.le_of_ble_eq_true rfl) (by omega) ⟨Nat.le_refl _, Nat.le_refl _⟩ (ct_X12_works hw (wOk_paidW hO hL) (by omega)) rfl ?_
  subst hX
  exact xg_ireturn dX12_paidSlice_27 rfl ⟨Nat.le_refl _, Nat.le_refl _⟩ ⟨rfl, Ic, hIb.tr hIc, rfl⟩

noncomputable def sCan (w : Int → Int) : Int → Int := if sCrowd w = true then sBeg w else w
noncomputable def sCanB (w : Int → Int) : Bool := sCrowd w && decide (sBeg w 16 = 1)
theorem dX12_canGoOn_0 : decode cX12_canGoOn 0 = .ok (.aload_n 0, 1) := by decide +kernel
theorem dX12_canGoOn_1 : decode cX12_canGoOn 1 = .ok (.invokevirtual 352, 3) := by decide +kernel
theorem dX12_canGoOn_4 : decode cX12_canGoOn 4 = .ok (.ifCond .ne 5, 3) := by decide +kernel
theorem dX12_canGoOn_7 : decode cX12_canGoOn 7 = .ok (.iconst 0, 1) := by decide +kernel
theorem dX12_canGoOn_8 : decode cX12_canGoOn 8 = .ok (.ireturn, 1) := by decide +kernel
theorem dX12_canGoOn_9 : decode cX12_canGoOn 9 = .ok (.aload_n 0, 1) := by decide +kernel
theorem dX12_canGoOn_10 : decode cX12_canGoOn 10 = .ok (.invokevirtual 355, 3) := by decide +kernel
theorem dX12_canGoOn_13 : decode cX12_canGoOn 13 = .ok (.aload_n 0, 1) := by decide +kernel
theorem dX12_canGoOn_14 : decode cX12_canGoOn 14 = .ok (.invokevirtual 278, 3) := by decide +kernel
theorem dX12_canGoOn_17 : decode cX12_canGoOn 17 = .ok (.ireturn, 1) := by decide +kernel
set_option maxHeartbeats 4000000 in
set_option maxRecDepth 100000 in
theorem ct_X12_canGoOn {E : xE} {z : Nat} {T : Nat → Nat × Int} {F : Nat → Nat → Int} {I : Nat → Int → Int} {P : Nat → Nat → Option Nat} {Y : Nat → Int → Option Nat} {m : Nat} {w : Int → Int} (hw : wM T P m) (hO : wOk w) (hL : wLw w) : Ct E 11 mX12_canGoOn 0 0 [.ref m] (z, T, F, upA I (m + 1) w, P, Y) (xs m (some (J (bI (sCanB w)))) z T F I (sCan w) P Y) := by
  obtain ⟨⟨q0, q1, q2, q3⟩, -⟩ := id hw
  obtain ⟨hR, o0, o1, o2, o3, o4, o5, o6, oc, o13, o14, o16, o17, o18, ov⟩ := id hO
  have hN := wN_i o0.1
  refine Ct.of [some (.ref m)] kt_X12_canGoOn rfl (Nat.le_of_ble_eq_true rfl) rfl (fun d hd => ?_)
  generalize hX : xN E _ _ _ = X
  refine xg_aloadn 1 dX12_canGoOn_0 rfl rfl rfl ?_
  refine xg_callV 4 12 [] _ kv_X12_isCrowded ⟨_, _, rfl⟩ kl_RX12_352 dX12_canGoOn_1 rfl (by assumption) (by omega) rfl rfl (Nat.le_of_ble_eq_true rfl) (by omega) ⟨Nat.le_refl _, Nat.le_refl _⟩ (ct_X12_isCrowded hw hO) rfl ?_
  refine xg_bne 9 7 dX12_canGoOn_4 rfl rfl (fun hb4 => ?_) (fun hb4 => ?_)
  · skip
    refine xg_aloadn 10 dX12_canGoOn_9 rfl rfl rfl ?_
    refine xg_callVs 13 12 [] _ kv_X12_mayBegin ⟨_, _, rfl⟩ kl_RX12_355 dX12_canGoOn_10 rfl (by assumption) (by omega) rfl rfl (Nat.le_of_ble_eq_true rfl) (by omega) ⟨Nat.le_refl _, Nat.le_refl _⟩ (ct_X12_mayBegin hw hO hL) rfl (fun Ib hIb => ?_)
    refine xg_aloadn 14 dX12_canGoOn_13 rfl rfl rfl ?_
    refine xg_callV 17 12 [] _ kv_X12_isBusy ⟨_, _, rfl⟩ kl_RX12_278 dX12_canGoOn_14 rfl (by assumption) (by omega) rfl rfl (Nat.le_of_ble_eq_true rfl) (by omega) ⟨Nat.le_refl _, Nat.le_refl _⟩ (ct_X12_isBusy hw (wOk_beg hO).1) rfl ?_
    subst hX
    exact xg_zreturn dX12_canGoOn_17 rfl (by first | exact bI_01 _ | omega) ⟨Nat.le_refl _, Nat.le_refl _⟩ ⟨by unfold sCanB; rw [hb4, Bool.true_and], Ib, hIb, by unfold sCan; rw [if_pos hb4]⟩
  · skip
    refine xg_iconst 8 dX12_canGoOn_7 rfl ?_
    subst hX
    exact xg_zreturn dX12_canGoOn_8 rfl (by first | exact bI_01 _ | omega) ⟨Nat.le_refl _, Nat.le_refl _⟩ ⟨by unfold sCanB; rw [hb4]; rfl, I, xScr.rf, by unfold sCan; rw [hb4]; rfl⟩

