theorem sFind_hit {p : Nat → Bool} {n r : Nat} (h : p r = true) (hr : r < n) : sFind p (n - r) r = r := by
  rw [show n - r = (n - r - 1) + 1 by omega, sFind, if_pos h]
theorem sFind_miss {p : Nat → Bool} {n r : Nat} (h : p r = false) (hr : r < n) : sFind p (n - r) r = sFind p (n - (r + 1)) (r + 1) := by
  rw [show n - r = (n - (r + 1)) + 1 by omega, sFind, if_neg (by rw [h]; decide)]
theorem sFind_end {p : Nat → Bool} {n : Nat} : sFind p (n - n) n = n := by rw [Nat.sub_self]; rfl
theorem sNewW_end {w : Int → Int} {key : Int} (h : sNewI w key = wN w) : sNewW w key = -1 := by unfold sNewW; rw [if_pos h]
theorem sNewW_hit {w : Int → Int} {key : Int} {r : Nat} (h : sNewI w key = r) (hr : r < wN w) : sNewW w key = (r : Int) := by unfold sNewW; rw [if_neg (by omega), h]
theorem dX12_newestWith_0 : decode cX12_newestWith 0 = .ok (.iconst 0, 1) := by decide +kernel
theorem dX12_newestWith_1 : decode cX12_newestWith 1 = .ok (.istore_n 2, 1) := by decide +kernel
theorem dX12_newestWith_2 : decode cX12_newestWith 2 = .ok (.iload_n 2, 1) := by decide +kernel
theorem dX12_newestWith_3 : decode cX12_newestWith 3 = .ok (.aload_n 0, 1) := by decide +kernel
theorem dX12_newestWith_4 : decode cX12_newestWith 4 = .ok (.invokevirtual 66, 3) := by decide +kernel
theorem dX12_newestWith_7 : decode cX12_newestWith 7 = .ok (.if_icmp .ge 32, 3) := by decide +kernel
theorem dX12_newestWith_10 : decode cX12_newestWith 10 = .ok (.aload_n 0, 1) := by decide +kernel
theorem dX12_newestWith_11 : decode cX12_newestWith 11 = .ok (.iload_n 2, 1) := by decide +kernel
theorem dX12_newestWith_12 : decode cX12_newestWith 12 = .ok (.invokevirtual 290, 3) := by decide +kernel
theorem dX12_newestWith_15 : decode cX12_newestWith 15 = .ok (.ifCond .eq 18, 3) := by decide +kernel
theorem dX12_newestWith_18 : decode cX12_newestWith 18 = .ok (.aload_n 0, 1) := by decide +kernel
theorem dX12_newestWith_19 : decode cX12_newestWith 19 = .ok (.getfield 13, 3) := by decide +kernel
theorem dX12_newestWith_22 : decode cX12_newestWith 22 = .ok (.iload_n 2, 1) := by decide +kernel
theorem dX12_newestWith_23 : decode cX12_newestWith 23 = .ok (.invokestatic 133, 3) := by decide +kernel
theorem dX12_newestWith_26 : decode cX12_newestWith 26 = .ok (.iload_n 1, 1) := by decide +kernel
theorem dX12_newestWith_27 : decode cX12_newestWith 27 = .ok (.iadd, 1) := by decide +kernel
theorem dX12_newestWith_28 : decode cX12_newestWith 28 = .ok (.iaload, 1) := by decide +kernel
theorem dX12_newestWith_29 : decode cX12_newestWith 29 = .ok (.iconst (-1), 1) := by decide +kernel
theorem dX12_newestWith_30 : decode cX12_newestWith 30 = .ok (.if_icmp .ne 9, 3) := by decide +kernel
theorem dX12_newestWith_33 : decode cX12_newestWith 33 = .ok (.iinc 2 1, 3) := by decide +kernel
theorem dX12_newestWith_36 : decode cX12_newestWith 36 = .ok (.goto (-34), 3) := by decide +kernel
theorem dX12_newestWith_39 : decode cX12_newestWith 39 = .ok (.iload_n 2, 1) := by decide +kernel
theorem dX12_newestWith_40 : decode cX12_newestWith 40 = .ok (.aload_n 0, 1) := by decide +kernel
theorem dX12_newestWith_41 : decode cX12_newestWith 41 = .ok (.invokevirtual 66, 3) := by decide +kernel
theorem dX12_newestWith_44 : decode cX12_newestWith 44 = .ok (.if_icmp .ne 7, 3) := by decide +kernel
theorem dX12_newestWith_47 : decode cX12_newestWith 47 = .ok (.iconst (-1), 1) := by decide +kernel
theorem dX12_newestWith_48 : decode cX12_newestWith 48 = .ok (.goto 4, 3) := by decide +kernel
theorem dX12_newestWith_51 : decode cX12_newestWith 51 = .ok (.iload_n 2, 1) := by decide +kernel
theorem dX12_newestWith_52 : decode cX12_newestWith 52 = .ok (.ireturn, 1) := by decide +kernel
set_option maxHeartbeats 4000000 in
set_option maxRecDepth 100000 in
theorem ct_X12_newestWith {E : xE} {z : Nat} {T : Nat → Nat × Int} {F : Nat → Nat → Int} {I : Nat → Int → Int} {P : Nat → Nat → Option Nat} {Y : Nat → Int → Option Nat} {m : Nat} {w : Int → Int} (hw : wM T P m) (hO : wOk w){key : Int} (hk : 0 ≤ key ∧ key < 60) : Ct E 2 mX12_newestWith 0 0 [.ref m, J key] (z, T, F, upA I (m + 1) w, P, Y) (xd (some (J (sNewW w key))) (z, T, F, upA I (m + 1) w, P, Y)) := by
  obtain ⟨⟨q0, q1, q2, q3⟩, -⟩ := id hw
  obtain ⟨hR, o0, o1, o2, o3, o4, o5, o6, oc, o13, o14, o16, o17, o18, ov⟩ := id hO
  have hN := wN_i o0.1
  refine Ct.of [some (.ref m), some (J key), none] kt_X12_newestWith rfl (Nat.le_of_ble_eq_true rfl) rfl (fun d hd => ?_)
  generalize hX : xN E _ _ _ = X
  refine xg_iconst 1 dX12_newestWith_0 rfl ?_
  refine xg_istoren 2 _ dX12_newestWith_1 rfl rfl rfl (by decide) (Or.inr rfl) ?_
  have loop2 : ∀ (mm : Nat) (r : Nat), (r : Int) ≤ w 0 → sFind (fun r => wInp w r && wHas w key r) (wN w - r) r = sNewI w key → w 0 - (r : Int) < (mm : Int) → xG E mX12_newestWith (xR d 0 0) X 2 [some (.ref m), some (J key), some (J (r : Int))] [] (z, T, F, upA I (m + 1) w, P, Y) 0 0 := by
    intro mm
    induction mm with
    | zero => intro r hr he hm; exfalso; omega
    | succ mm ih =>
      intro r hr he hm
      refine xg_iloadn 3 dX12_newestWith_2 rfl rfl rfl ?_
      refine xg_aloadn 4 dX12_newestWith_3 rfl rfl rfl ?_
      refine xg_callV 7 12 [] _ kv_X12_runs ⟨_, _, rfl⟩ kl_RX12_66 dX12_newestWith_4 rfl (by assumption) (by omega) rfl rfl (Nat.le_of_ble_eq_true rfl) (by omega) ⟨Nat.le_refl _, Nat.le_refl _⟩ (ct_X12_runs hw) rfl ?_
      refine xg_icge 39 10 dX12_newestWith_7 rfl rfl (by first | omega | exact hR _ | exact ⟨hR _, by omega⟩ | exact ⟨by omega, hR _⟩ | exact ⟨hR _, hR _⟩) (fun hb7 => ?_) (fun hb7 => ?_)
      · skip
        have hf : sNewI w key = r := by
          first
          | (rw [← he]; exact sFind_hit (by simp [wInp, wHas, hb15, hb30]) (by omega))
          | (rw [← he, show r = wN w by omega]; exact sFind_end)
        refine xg_iloadn 40 dX12_newestWith_39 rfl rfl rfl ?_
        refine xg_aloadn 41 dX12_newestWith_40 rfl rfl rfl ?_
        refine xg_callV 44 12 [] _ kv_X12_runs ⟨_, _, rfl⟩ kl_RX12_66 dX12_newestWith_41 rfl (by assumption) (by omega) rfl rfl (Nat.le_of_ble_eq_true rfl) (by omega) ⟨Nat.le_refl _, Nat.le_refl _⟩ (ct_X12_runs hw) rfl ?_
        refine xg_icne 51 47 dX12_newestWith_44 rfl rfl (by first | omega | exact hR _ | exact ⟨hR _, by omega⟩ | exact ⟨by omega, hR _⟩ | exact ⟨hR _, hR _⟩) (fun hb44 => ?_) (fun hb44 => ?_)
        · skip
          refine xg_iloadn 52 dX12_newestWith_51 rfl rfl rfl ?_
          subst hX
          exact xg_ireturn dX12_newestWith_52 rfl ⟨Nat.le_refl _, Nat.le_refl _⟩ ⟨congrArg (fun v => some (J v)) (by first | (exfalso; omega) | rw [sNewW_end (by omega)] | rw [sNewW_hit hf (by omega)]), rfl⟩
        · skip
          refine xg_iconst 48 dX12_newestWith_47 rfl ?_
          refine xg_goto 52 dX12_newestWith_48 rfl ?_
          subst hX
          exact xg_ireturn dX12_newestWith_52 rfl ⟨Nat.le_refl _, Nat.le_refl _⟩ ⟨congrArg (fun v => some (J v)) (by first | (exfalso; omega) | rw [sNewW_end (by omega)] | rw [sNewW_hit hf (by omega)]), rfl⟩
      · skip
        refine xg_aloadn 11 dX12_newestWith_10 rfl rfl rfl ?_
        refine xg_iloadn 12 dX12_newestWith_11 rfl rfl rfl ?_
        refine xg_callV 15 12 [_] _ kv_X12_isInput ⟨_, _, rfl⟩ kl_RX12_290 dX12_newestWith_12 rfl (by assumption) (by omega) rfl rfl (Nat.le_of_ble_eq_true rfl) (by omega) ⟨Nat.le_refl _, Nat.le_refl _⟩ (ct_X12_isInput hw hR (by omega)) rfl ?_
        refine xg_deq 33 18 dX12_newestWith_15 rfl rfl (fun hb15 => ?_) (fun hb15 => ?_)
        · skip
          refine xg_iinc 36 _ dX12_newestWith_33 rfl rfl rfl rfl (by decide) (Or.inr rfl) ?_
          refine xg_goto 2 dX12_newestWith_36 rfl ?_
          exact xg_weak _ (xle_s rfl (xle_s rfl (xle_s rfl xle_0))) (ih (r + 1) (by omega) (by rw [← he]; exact (sFind_miss (by simp [wInp, hb15]) (by omega)).symm) (by omega))
        · skip
          refine xg_aloadn 19 dX12_newestWith_18 rfl rfl rfl ?_
          refine xg_getP 22 kf_RX12_13 dX12_newestWith_19 rfl (by assumption) (by assumption) ?_
          refine xg_iloadn 23 dX12_newestWith_22 rfl rfl rfl ?_
          refine xg_callS 26 [_] _ ks_X12_rowOf kl_RX12_133 dX12_newestWith_23 rfl rfl rfl (Nat.le_of_ble_eq_true rfl) (by omega) ⟨Nat.le_refl _, Nat.le_refl _⟩ (ct_X12_rowOf) rfl ?_
          refine xg_iloadn 27 dX12_newestWith_26 rfl rfl rfl ?_
          refine xg_iadd 28 dX12_newestWith_27 rfl ?_
          refine xg_ialdW 29 dX12_newestWith_28 rfl (by assumption) (by first | omega | exact hR _ | exact ⟨hR _, by omega⟩ | exact ⟨by omega, hR _⟩ | exact ⟨hR _, hR _⟩) ?_
          refine xg_iconst 30 dX12_newestWith_29 rfl ?_
          refine xg_icne 39 33 dX12_newestWith_30 rfl rfl (by first | omega | exact hR _ | exact ⟨hR _, by omega⟩ | exact ⟨by omega, hR _⟩ | exact ⟨hR _, hR _⟩) (fun hb30 => ?_) (fun hb30 => ?_)
          · skip
            have hf : sNewI w key = r := by
              first
              | (rw [← he]; exact sFind_hit (by simp [wInp, wHas, hb15, hb30]) (by omega))
              | (rw [← he, show r = wN w by omega]; exact sFind_end)
            refine xg_iloadn 40 dX12_newestWith_39 rfl rfl rfl ?_
            refine xg_aloadn 41 dX12_newestWith_40 rfl rfl rfl ?_
            refine xg_callV 44 12 [] _ kv_X12_runs ⟨_, _, rfl⟩ kl_RX12_66 dX12_newestWith_41 rfl (by assumption) (by omega) rfl rfl (Nat.le_of_ble_eq_true rfl) (by omega) ⟨Nat.le_refl _, Nat.le_refl _⟩ (ct_X12_runs hw) rfl ?_
            refine xg_icne 51 47 dX12_newestWith_44 rfl rfl (by first | omega | exact hR _ | exact ⟨hR _, by omega⟩ | exact ⟨by omega, hR _⟩ | exact ⟨hR _, hR _⟩) (fun hb44 => ?_) (fun hb44 => ?_)
            · skip
              refine xg_iloadn 52 dX12_newestWith_51 rfl rfl rfl ?_
              subst hX
              exact xg_ireturn dX12_newestWith_52 rfl ⟨Nat.le_refl _, Nat.le_refl _⟩ ⟨congrArg (fun v => some (J v)) (by first | (exfalso; omega) | rw [sNewW_end (by omega)] | rw [sNewW_hit hf (by omega)]), rfl⟩
            · skip
              refine xg_iconst 48 dX12_newestWith_47 rfl ?_
              refine xg_goto 52 dX12_newestWith_48 rfl ?_
              subst hX
              exact xg_ireturn dX12_newestWith_52 rfl ⟨Nat.le_refl _, Nat.le_refl _⟩ ⟨congrArg (fun v => some (J v)) (by first | (exfalso; omega) | rw [sNewW_end (by omega)] | rw [sNewW_hit hf (by omega)]), rfl⟩
          · skip
            refine xg_iinc 36 _ dX12_newestWith_33 rfl rfl rfl rfl (by decide) (Or.inr rfl) ?_
            refine xg_goto 2 dX12_newestWith_36 rfl ?_
            exact xg_weak _ (xle_s rfl (xle_s rfl (xle_s rfl xle_0))) (ih (r + 1) (by omega) (by rw [← he]; exact (sFind_miss (by simp [wHas, hb30]) (by omega)).symm) (by omega))
  exact xg_weak _ (xle_s rfl (xle_s rfl (xle_s rfl xle_0))) (loop2 20 0 (by omega) (by rfl) (by omega))

theorem dX12_nextKey_0 : decode cX12_nextKey 0 = .ok (.aload_n 0, 1) := by decide +kernel
theorem dX12_nextKey_1 : decode cX12_nextKey 1 = .ok (.getfield 13, 3) := by decide +kernel
theorem dX12_nextKey_4 : decode cX12_nextKey 4 = .ok (.bipush 18, 2) := by decide +kernel
theorem dX12_nextKey_6 : decode cX12_nextKey 6 = .ok (.iaload, 1) := by decide +kernel
theorem dX12_nextKey_7 : decode cX12_nextKey 7 = .ok (.istore_n 1, 1) := by decide +kernel
theorem dX12_nextKey_8 : decode cX12_nextKey 8 = .ok (.iload_n 1, 1) := by decide +kernel
theorem dX12_nextKey_9 : decode cX12_nextKey 9 = .ok (.bipush 60, 2) := by decide +kernel
theorem dX12_nextKey_11 : decode cX12_nextKey 11 = .ok (.if_icmp .ge 18, 3) := by decide +kernel
theorem dX12_nextKey_14 : decode cX12_nextKey 14 = .ok (.aload_n 0, 1) := by decide +kernel
theorem dX12_nextKey_15 : decode cX12_nextKey 15 = .ok (.iload_n 1, 1) := by decide +kernel
theorem dX12_nextKey_16 : decode cX12_nextKey 16 = .ok (.invokevirtual 321, 3) := by decide +kernel
theorem dX12_nextKey_19 : decode cX12_nextKey 19 = .ok (.iconst (-1), 1) := by decide +kernel
theorem dX12_nextKey_20 : decode cX12_nextKey 20 = .ok (.if_icmp .ne 9, 3) := by decide +kernel
theorem dX12_nextKey_23 : decode cX12_nextKey 23 = .ok (.iinc 1 1, 3) := by decide +kernel
theorem dX12_nextKey_26 : decode cX12_nextKey 26 = .ok (.goto (-18), 3) := by decide +kernel
theorem dX12_nextKey_29 : decode cX12_nextKey 29 = .ok (.iload_n 1, 1) := by decide +kernel
theorem dX12_nextKey_30 : decode cX12_nextKey 30 = .ok (.ireturn, 1) := by decide +kernel
set_option maxHeartbeats 4000000 in
set_option maxRecDepth 100000 in
theorem ct_X12_nextKey {E : xE} {z : Nat} {T : Nat → Nat × Int} {F : Nat → Nat → Int} {I : Nat → Int → Int} {P : Nat → Nat → Option Nat} {Y : Nat → Int → Option Nat} {m : Nat} {w : Int → Int} (hw : wM T P m) (hO : wOk w) : Ct E 3 mX12_nextKey 0 0 [.ref m] (z, T, F, upA I (m + 1) w, P, Y) (xd (some (J (sNext w : Nat))) (z, T, F, upA I (m + 1) w, P, Y)) := by
  obtain ⟨⟨q0, q1, q2, q3⟩, -⟩ := id hw
  obtain ⟨hR, o0, o1, o2, o3, o4, o5, o6, oc, o13, o14, o16, o17, o18, ov⟩ := id hO
  have hN := wN_i o0.1
  refine Ct.of [some (.ref m), none] kt_X12_nextKey rfl (Nat.le_of_ble_eq_true rfl) rfl (fun d hd => ?_)
  generalize hX : xN E _ _ _ = X
  refine xg_aloadn 1 dX12_nextKey_0 rfl rfl rfl ?_
  refine xg_getP 4 kf_RX12_13 dX12_nextKey_1 rfl (by assumption) (by assumption) ?_
  refine xg_bipush 6 dX12_nextKey_4 rfl (by decide) ?_
  refine xg_ialdW 7 dX12_nextKey_6 rfl (by assumption) (by first | omega | exact hR _ | exact ⟨hR _, by omega⟩ | exact ⟨by omega, hR _⟩ | exact ⟨hR _, hR _⟩) ?_
  refine xg_istoren 8 _ dX12_nextKey_7 rfl rfl rfl (by decide) (Or.inr rfl) ?_
  have loop8 : ∀ (mm : Nat) (k : Nat), ((k : Int) ≤ 60 ∧ 0 ≤ (k : Int)) → sFind (fun k => decide (sNewW w (k : Int) ≠ -1)) (60 - k) k = sNext w → 60 - (k : Int) < (mm : Int) → xG E mX12_nextKey (xR d 0 0) X 8 [some (.ref m), some (J (k : Int))] [] (z, T, F, upA I (m + 1) w, P, Y) 0 0 := by
    intro mm
    induction mm with
    | zero => intro k hk he hm; exfalso; omega
    | succ mm ih =>
      intro k hk he hm
      refine xg_iloadn 9 dX12_nextKey_8 rfl rfl rfl ?_
      refine xg_bipush 11 dX12_nextKey_9 rfl (by decide) ?_
      refine xg_icge 29 14 dX12_nextKey_11 rfl rfl (by first | omega | exact hR _ | exact ⟨hR _, by omega⟩ | exact ⟨by omega, hR _⟩ | exact ⟨hR _, hR _⟩) (fun hb11 => ?_) (fun hb11 => ?_)
      · skip
        refine xg_iloadn 30 dX12_nextKey_29 rfl rfl rfl ?_
        subst hX
        exact xg_ireturn dX12_nextKey_30 rfl ⟨Nat.le_refl _, Nat.le_refl _⟩ ⟨congrArg (fun v => some (J v)) (by rw [← he]; first | (rw [show k = 60 by omega]; rfl) | (rw [sFind_hit (by simp [hb20]) (by omega)])), rfl⟩
      · skip
        refine xg_aloadn 15 dX12_nextKey_14 rfl rfl rfl ?_
        refine xg_iloadn 16 dX12_nextKey_15 rfl rfl rfl ?_
        refine xg_callV 19 12 [_] _ kv_X12_newestWith ⟨_, _, rfl⟩ kl_RX12_321 dX12_nextKey_16 rfl (by assumption) (by omega) rfl rfl (Nat.le_of_ble_eq_true rfl) (by omega) ⟨Nat.le_refl _, Nat.le_refl _⟩ (ct_X12_newestWith hw hO (by omega)) rfl ?_
        have hnb := sNewW_bd (k : Int) o0
        refine xg_iconst 20 dX12_nextKey_19 rfl ?_
        refine xg_icne 29 23 dX12_nextKey_20 rfl rfl (by first | omega | exact hR _ | exact ⟨hR _, by omega⟩ | exact ⟨by omega, hR _⟩ | exact ⟨hR _, hR _⟩) (fun hb20 => ?_) (fun hb20 => ?_)
        · skip
          refine xg_iloadn 30 dX12_nextKey_29 rfl rfl rfl ?_
          subst hX
          exact xg_ireturn dX12_nextKey_30 rfl ⟨Nat.le_refl _, Nat.le_refl _⟩ ⟨congrArg (fun v => some (J v)) (by rw [← he]; first | (rw [show k = 60 by omega]; rfl) | (rw [sFind_hit (by simp [hb20]) (by omega)])), rfl⟩
        · skip
          refine xg_iinc 26 _ dX12_nextKey_23 rfl rfl rfl rfl (by decide) (Or.inr rfl) ?_
          refine xg_goto 8 dX12_nextKey_26 rfl ?_
          exact xg_weak _ (xle_s rfl (xle_s rfl xle_0)) (ih (k + 1) (by omega) (by rw [← he]; exact (sFind_miss (by simp [hb20]) (by omega)).symm) (by omega))
  have hk0 : (((w 18).toNat : Nat) : Int) = w 18 := by omega
  exact xg_weak _ (xle_s rfl (xle_s (by rw [hk0]) xle_0)) (loop8 70 (w 18).toNat (by omega) (by rfl) (by omega))

theorem dX12_isBehindInputs_0 : decode cX12_isBehindInputs 0 = .ok (.iconst 1, 1) := by decide +kernel
theorem dX12_isBehindInputs_1 : decode cX12_isBehindInputs 1 = .ok (.istore_n 2, 1) := by decide +kernel
theorem dX12_isBehindInputs_2 : decode cX12_isBehindInputs 2 = .ok (.iload_n 1, 1) := by decide +kernel
theorem dX12_isBehindInputs_3 : decode cX12_isBehindInputs 3 = .ok (.istore_n 3, 1) := by decide +kernel
theorem dX12_isBehindInputs_4 : decode cX12_isBehindInputs 4 = .ok (.iload_n 3, 1) := by decide +kernel
theorem dX12_isBehindInputs_5 : decode cX12_isBehindInputs 5 = .ok (.aload_n 0, 1) := by decide +kernel
theorem dX12_isBehindInputs_6 : decode cX12_isBehindInputs 6 = .ok (.invokevirtual 66, 3) := by decide +kernel
theorem dX12_isBehindInputs_9 : decode cX12_isBehindInputs 9 = .ok (.if_icmp .ge 27, 3) := by decide +kernel
theorem dX12_isBehindInputs_12 : decode cX12_isBehindInputs 12 = .ok (.iload_n 2, 1) := by decide +kernel
theorem dX12_isBehindInputs_13 : decode cX12_isBehindInputs 13 = .ok (.ifCond .eq 15, 3) := by decide +kernel
theorem dX12_isBehindInputs_16 : decode cX12_isBehindInputs 16 = .ok (.aload_n 0, 1) := by decide +kernel
theorem dX12_isBehindInputs_17 : decode cX12_isBehindInputs 17 = .ok (.iload_n 3, 1) := by decide +kernel
theorem dX12_isBehindInputs_18 : decode cX12_isBehindInputs 18 = .ok (.invokevirtual 290, 3) := by decide +kernel
theorem dX12_isBehindInputs_21 : decode cX12_isBehindInputs 21 = .ok (.ifCond .ne 7, 3) := by decide +kernel
theorem dX12_isBehindInputs_24 : decode cX12_isBehindInputs 24 = .ok (.iconst 1, 1) := by decide +kernel
theorem dX12_isBehindInputs_25 : decode cX12_isBehindInputs 25 = .ok (.goto 4, 3) := by decide +kernel
theorem dX12_isBehindInputs_28 : decode cX12_isBehindInputs 28 = .ok (.iconst 0, 1) := by decide +kernel
theorem dX12_isBehindInputs_29 : decode cX12_isBehindInputs 29 = .ok (.istore_n 2, 1) := by decide +kernel
theorem dX12_isBehindInputs_30 : decode cX12_isBehindInputs 30 = .ok (.iinc 3 1, 3) := by decide +kernel
theorem dX12_isBehindInputs_33 : decode cX12_isBehindInputs 33 = .ok (.goto (-29), 3) := by decide +kernel
theorem dX12_isBehindInputs_36 : decode cX12_isBehindInputs 36 = .ok (.iload_n 2, 1) := by decide +kernel
theorem dX12_isBehindInputs_37 : decode cX12_isBehindInputs 37 = .ok (.ireturn, 1) := by decide +kernel
set_option maxHeartbeats 4000000 in
set_option maxRecDepth 100000 in
theorem ct_X12_isBehindInputs {E : xE} {z : Nat} {T : Nat → Nat × Int} {F : Nat → Nat → Int} {I : Nat → Int → Int} {P : Nat → Nat → Option Nat} {Y : Nat → Int → Option Nat} {m : Nat} {w : Int → Int} (hw : wM T P m) (hO : wOk w){r : Nat} (hr0 : (r : Int) < w 0) : Ct E 2 mX12_isBehindInputs 0 0 [.ref m, J (r : Int)] (z, T, F, upA I (m + 1) w, P, Y) (xd (some (J (bI (pAll (fun e => !(wInp w e)) r (wN w - r))))) (z, T, F, upA I (m + 1) w, P, Y)) := by
  obtain ⟨⟨q0, q1, q2, q3⟩, -⟩ := id hw
  obtain ⟨hR, o0, o1, o2, o3, o4, o5, o6, oc, o13, o14, o16, o17, o18, ov⟩ := id hO
  have hN := wN_i o0.1
  refine Ct.of [some (.ref m), some (J (r : Int)), none, none] kt_X12_isBehindInputs rfl (Nat.le_of_ble_eq_true rfl) rfl (fun d hd => ?_)
  generalize hX : xN E _ _ _ = X
  refine xg_iconst 1 dX12_isBehindInputs_0 rfl ?_
  refine xg_istoren 2 _ dX12_isBehindInputs_1 rfl rfl rfl (by decide) (Or.inr rfl) ?_
  refine xg_iloadn 3 dX12_isBehindInputs_2 rfl rfl rfl ?_
  refine xg_istoren 4 _ dX12_isBehindInputs_3 rfl rfl rfl (by decide) (Or.inr rfl) ?_
  have loop4 : ∀ (mm : Nat) (e : Nat) (b : Bool), ((r : Int) ≤ e ∧ (e : Int) ≤ w 0) → b = pAll (fun e => !(wInp w e)) r (e - r) → w 0 - (e : Int) < (mm : Int) → xG E mX12_isBehindInputs (xR d 0 0) X 4 [some (.ref m), some (J (r : Int)), some (J (bI b)), some (J (e : Int))] [] (z, T, F, upA I (m + 1) w, P, Y) 0 0 := by
    intro mm
    induction mm with
    | zero => intro e b he hb hm; exfalso; omega
    | succ mm ih =>
      intro e b he hb hm
      refine xg_iloadn 5 dX12_isBehindInputs_4 rfl rfl rfl ?_
      refine xg_aloadn 6 dX12_isBehindInputs_5 rfl rfl rfl ?_
      refine xg_callV 9 12 [] _ kv_X12_runs ⟨_, _, rfl⟩ kl_RX12_66 dX12_isBehindInputs_6 rfl (by assumption) (by omega) rfl rfl (Nat.le_of_ble_eq_true rfl) (by omega) ⟨Nat.le_refl _, Nat.le_refl _⟩ (ct_X12_runs hw) rfl ?_
      refine xg_icge 36 12 dX12_isBehindInputs_9 rfl rfl (by first | omega | exact hR _ | exact ⟨hR _, by omega⟩ | exact ⟨by omega, hR _⟩ | exact ⟨hR _, hR _⟩) (fun hb9 => ?_) (fun hb9 => ?_)
      · skip
        refine xg_iloadn 37 dX12_isBehindInputs_36 rfl rfl rfl ?_
        subst hX
        exact xg_zreturn dX12_isBehindInputs_37 rfl (by first | exact bI_01 _ | omega) ⟨Nat.le_refl _, Nat.le_refl _⟩ ⟨by rw [hb, show e = wN w by omega], rfl⟩
      · skip
        refine xg_iloadn 13 dX12_isBehindInputs_12 rfl rfl rfl ?_
        refine xg_beq 28 16 dX12_isBehindInputs_13 rfl rfl (fun hb13 => ?_) (fun hb13 => ?_)
        · skip
          refine xg_iconst 29 dX12_isBehindInputs_28 rfl ?_
          refine xg_istoren 30 _ dX12_isBehindInputs_29 rfl rfl rfl (by decide) (Or.inr rfl) ?_
          refine xg_iinc 33 _ dX12_isBehindInputs_30 rfl rfl rfl rfl (by decide) (Or.inr rfl) ?_
          refine xg_goto 4 dX12_isBehindInputs_33 rfl ?_
          exact xg_weak _ (xle_s rfl (xle_s rfl (xle_s (by rw [show (0 : Int) = bI false from rfl]) (xle_s rfl xle_0)))) (ih (e + 1) false (by omega) (by rw [show e + 1 - r = (e - r) + 1 by omega, pAll, ← hb, hb13]; rfl) (by omega))
        · skip
          refine xg_aloadn 17 dX12_isBehindInputs_16 rfl rfl rfl ?_
          refine xg_iloadn 18 dX12_isBehindInputs_17 rfl rfl rfl ?_
          refine xg_callV 21 12 [_] _ kv_X12_isInput ⟨_, _, rfl⟩ kl_RX12_290 dX12_isBehindInputs_18 rfl (by assumption) (by omega) rfl rfl (Nat.le_of_ble_eq_true rfl) (by omega) ⟨Nat.le_refl _, Nat.le_refl _⟩ (ct_X12_isInput hw hR (by omega)) rfl ?_
          refine xg_dne 28 24 dX12_isBehindInputs_21 rfl rfl (fun hb21 => ?_) (fun hb21 => ?_)
          · skip
            refine xg_iconst 29 dX12_isBehindInputs_28 rfl ?_
            refine xg_istoren 30 _ dX12_isBehindInputs_29 rfl rfl rfl (by decide) (Or.inr rfl) ?_
            refine xg_iinc 33 _ dX12_isBehindInputs_30 rfl rfl rfl rfl (by decide) (Or.inr rfl) ?_
            refine xg_goto 4 dX12_isBehindInputs_33 rfl ?_
            exact xg_weak _ (xle_s rfl (xle_s rfl (xle_s (by rw [show (0 : Int) = bI false from rfl]) (xle_s rfl xle_0)))) (ih (e + 1) false (by omega) (by rw [show e + 1 - r = (e - r) + 1 by omega, pAll, show r + (e - r) = e by omega]; simp [wInp, hb21]) (by omega))
          · skip
            refine xg_iconst 25 dX12_isBehindInputs_24 rfl ?_
            refine xg_goto 29 dX12_isBehindInputs_25 rfl ?_
            refine xg_istoren 30 _ dX12_isBehindInputs_29 rfl rfl rfl (by decide) (Or.inr rfl) ?_
            refine xg_iinc 33 _ dX12_isBehindInputs_30 rfl rfl rfl rfl (by decide) (Or.inr rfl) ?_
            refine xg_goto 4 dX12_isBehindInputs_33 rfl ?_
            exact xg_weak _ (xle_s rfl (xle_s rfl (xle_s (by rw [show (1 : Int) = bI true from rfl]) (xle_s rfl xle_0)))) (ih (e + 1) true (by omega) (by rw [show e + 1 - r = (e - r) + 1 by omega, pAll, show r + (e - r) = e by omega, ← hb, hb13]; simp [wInp, hb21]) (by omega))
  exact xg_weak _ (xle_s rfl (xle_s rfl (xle_s (by rw [show (1 : Int) = bI true from rfl]) (xle_s rfl xle_0)))) (loop4 20 r true (by omega) (by rw [Nat.sub_self]; rfl) (by omega))

