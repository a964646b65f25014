/-! the ledger is fed -/
/-- the tape u with k bytes of the number x laid at n -/
def cTk (u : Int → Int) (n x k : Int) : Int → Int := fun j => if n ≤ j ∧ j < n + k then xand (xushr x (24 - 8 * (j - n))) 255 else u j
theorem cTk_0 (u : Int → Int) (n x : Int) : cTk u n x 0 = u := by funext j; exact if_neg (by omega)
theorem cTk_s (u : Int → Int) (n x k : Int) (hk : 0 ≤ k) : wS (cTk u n x k) (n + k) (xand (xushr x (24 - 8 * k)) 255) = cTk u n x (k + 1) := by
  funext j
  unfold wS cTk
  by_cases h : j = n + k
  · subst h
    rw [if_pos rfl, if_pos (by omega), show n + k - n = k by omega]
  · rw [if_neg h]
    by_cases h2 : n ≤ j ∧ j < n + k
    · rw [if_pos h2, if_pos (by omega)]
    · rw [if_neg h2, if_neg (by omega)]
/-- the tape u with twenty bytes of five numbers laid at n -/
def cFd (u : Int → Int) (n : Int) (g : Int → Int) : Int → Int := fun j => if n ≤ j ∧ j < n + 20 then xand (xushr (g ((j - n) / 4)) (24 - 8 * ((j - n) % 4))) 255 else u j
theorem cTk_5 (u : Int → Int) (n a b c d e : Int) : cTk (cTk (cTk (cTk (cTk u n a 4) (n + 4) b 4) (n + 4 + 4) c 4) (n + 4 + 4 + 4) d 4) (n + 4 + 4 + 4 + 4) e 4 = cFd u n (gFive a b c d e) := by
  funext j
  by_cases h : n ≤ j ∧ j < n + 20
  · rw [show cFd u n (gFive a b c d e) j = xand (xushr (gFive a b c d e ((j - n) / 4)) (24 - 8 * ((j - n) % 4))) 255 from if_pos h]
    rcases (show (j - n) / 4 = 0 ∨ (j - n) / 4 = 1 ∨ (j - n) / 4 = 2 ∨ (j - n) / 4 = 3 ∨ (j - n) / 4 = 4 by omega) with q | q | q | q | q
    · rw [q, show (j - n) % 4 = j - n by omega]; unfold cTk; rw [if_neg (by omega), if_neg (by omega), if_neg (by omega), if_neg (by omega), if_pos (by omega)]; rfl
    · rw [q, show (j - n) % 4 = j - (n + 4) by omega]; unfold cTk; rw [if_neg (by omega), if_neg (by omega), if_neg (by omega), if_pos (by omega)]; rfl
    · rw [q, show (j - n) % 4 = j - (n + 4 + 4) by omega]; unfold cTk; rw [if_neg (by omega), if_neg (by omega), if_pos (by omega)]; rfl
    · rw [q, show (j - n) % 4 = j - (n + 4 + 4 + 4) by omega]; unfold cTk; rw [if_neg (by omega), if_pos (by omega)]; rfl
    · rw [q, show (j - n) % 4 = j - (n + 4 + 4 + 4 + 4) by omega]; unfold cTk; rw [if_pos (by omega)]; rfl
  · rw [show cFd u n (gFive a b c d e) j = u j from if_neg h]
    unfold cTk; rw [if_neg (by omega), if_neg (by omega), if_neg (by omega), if_neg (by omega), if_neg (by omega)]
theorem dX11_takeBytes_0 : decode cX11_takeBytes 0 = .ok (.bipush 24, 2) := by decide +kernel
theorem dX11_takeBytes_2 : decode cX11_takeBytes 2 = .ok (.istore_n 2, 1) := by decide +kernel
theorem dX11_takeBytes_3 : decode cX11_takeBytes 3 = .ok (.iload_n 2, 1) := by decide +kernel
theorem dX11_takeBytes_4 : decode cX11_takeBytes 4 = .ok (.ifCond .lt 45, 3) := by decide +kernel
theorem dX11_takeBytes_7 : decode cX11_takeBytes 7 = .ok (.aload_n 0, 1) := by decide +kernel
theorem dX11_takeBytes_8 : decode cX11_takeBytes 8 = .ok (.getfield 13, 3) := by decide +kernel
theorem dX11_takeBytes_11 : decode cX11_takeBytes 11 = .ok (.sipush 400, 3) := by decide +kernel
theorem dX11_takeBytes_14 : decode cX11_takeBytes 14 = .ok (.if_icmp .ge 29, 3) := by decide +kernel
theorem dX11_takeBytes_17 : decode cX11_takeBytes 17 = .ok (.aload_n 0, 1) := by decide +kernel
theorem dX11_takeBytes_18 : decode cX11_takeBytes 18 = .ok (.getfield 9, 3) := by decide +kernel
theorem dX11_takeBytes_21 : decode cX11_takeBytes 21 = .ok (.aload_n 0, 1) := by decide +kernel
theorem dX11_takeBytes_22 : decode cX11_takeBytes 22 = .ok (.getfield 13, 3) := by decide +kernel
theorem dX11_takeBytes_25 : decode cX11_takeBytes 25 = .ok (.iload_n 1, 1) := by decide +kernel
theorem dX11_takeBytes_26 : decode cX11_takeBytes 26 = .ok (.iload_n 2, 1) := by decide +kernel
theorem dX11_takeBytes_27 : decode cX11_takeBytes 27 = .ok (.iushr, 1) := by decide +kernel
theorem dX11_takeBytes_28 : decode cX11_takeBytes 28 = .ok (.sipush 255, 3) := by decide +kernel
theorem dX11_takeBytes_31 : decode cX11_takeBytes 31 = .ok (.iand, 1) := by decide +kernel
theorem dX11_takeBytes_32 : decode cX11_takeBytes 32 = .ok (.iastore, 1) := by decide +kernel
theorem dX11_takeBytes_33 : decode cX11_takeBytes 33 = .ok (.aload_n 0, 1) := by decide +kernel
theorem dX11_takeBytes_34 : decode cX11_takeBytes 34 = .ok (.dup, 1) := by decide +kernel
theorem dX11_takeBytes_35 : decode cX11_takeBytes 35 = .ok (.getfield 13, 3) := by decide +kernel
theorem dX11_takeBytes_38 : decode cX11_takeBytes 38 = .ok (.iconst 1, 1) := by decide +kernel
theorem dX11_takeBytes_39 : decode cX11_takeBytes 39 = .ok (.iadd, 1) := by decide +kernel
theorem dX11_takeBytes_40 : decode cX11_takeBytes 40 = .ok (.putfield 13, 3) := by decide +kernel
theorem dX11_takeBytes_43 : decode cX11_takeBytes 43 = .ok (.iinc 2 (-8), 3) := by decide +kernel
theorem dX11_takeBytes_46 : decode cX11_takeBytes 46 = .ok (.goto (-43), 3) := by decide +kernel
theorem dX11_takeBytes_49 : decode cX11_takeBytes 49 = .ok (.return_, 1) := by decide +kernel
theorem dX11_feed_0 : decode cX11_feed 0 = .ok (.aload_n 0, 1) := by decide +kernel
theorem dX11_feed_1 : decode cX11_feed 1 = .ok (.getfield 13, 3) := by decide +kernel
theorem dX11_feed_4 : decode cX11_feed 4 = .ok (.ifCond .lt 16, 3) := by decide +kernel
theorem dX11_feed_7 : decode cX11_feed 7 = .ok (.aload_n 0, 1) := by decide +kernel
theorem dX11_feed_8 : decode cX11_feed 8 = .ok (.getfield 13, 3) := by decide +kernel
theorem dX11_feed_11 : decode cX11_feed 11 = .ok (.bipush 20, 2) := by decide +kernel
theorem dX11_feed_13 : decode cX11_feed 13 = .ok (.iadd, 1) := by decide +kernel
theorem dX11_feed_14 : decode cX11_feed 14 = .ok (.sipush 400, 3) := by decide +kernel
theorem dX11_feed_17 : decode cX11_feed 17 = .ok (.if_icmp .le 5, 3) := by decide +kernel
theorem dX11_feed_20 : decode cX11_feed 20 = .ok (.iconst (-1), 1) := by decide +kernel
theorem dX11_feed_21 : decode cX11_feed 21 = .ok (.ireturn, 1) := by decide +kernel
theorem dX11_feed_22 : decode cX11_feed 22 = .ok (.aload_n 0, 1) := by decide +kernel
theorem dX11_feed_23 : decode cX11_feed 23 = .ok (.iload_n 1, 1) := by decide +kernel
theorem dX11_feed_24 : decode cX11_feed 24 = .ok (.invokevirtual 73, 3) := by decide +kernel
theorem dX11_feed_27 : decode cX11_feed 27 = .ok (.aload_n 0, 1) := by decide +kernel
theorem dX11_feed_28 : decode cX11_feed 28 = .ok (.iload_n 2, 1) := by decide +kernel
theorem dX11_feed_29 : decode cX11_feed 29 = .ok (.invokevirtual 73, 3) := by decide +kernel
theorem dX11_feed_32 : decode cX11_feed 32 = .ok (.aload_n 0, 1) := by decide +kernel
theorem dX11_feed_33 : decode cX11_feed 33 = .ok (.iload_n 3, 1) := by decide +kernel
theorem dX11_feed_34 : decode cX11_feed 34 = .ok (.invokevirtual 73, 3) := by decide +kernel
theorem dX11_feed_37 : decode cX11_feed 37 = .ok (.aload_n 0, 1) := by decide +kernel
theorem dX11_feed_38 : decode cX11_feed 38 = .ok (.iload 4, 2) := by decide +kernel
theorem dX11_feed_40 : decode cX11_feed 40 = .ok (.invokevirtual 73, 3) := by decide +kernel
theorem dX11_feed_43 : decode cX11_feed 43 = .ok (.aload_n 0, 1) := by decide +kernel
theorem dX11_feed_44 : decode cX11_feed 44 = .ok (.iload 5, 2) := by decide +kernel
theorem dX11_feed_46 : decode cX11_feed 46 = .ok (.invokevirtual 73, 3) := by decide +kernel
theorem dX11_feed_49 : decode cX11_feed 49 = .ok (.aload_n 0, 1) := by decide +kernel
theorem dX11_feed_50 : decode cX11_feed 50 = .ok (.getfield 13, 3) := by decide +kernel
theorem dX11_feed_53 : decode cX11_feed 53 = .ok (.ireturn, 1) := by decide +kernel
set_option maxHeartbeats 4000000 in
set_option maxRecDepth 100000 in
theorem ct_X11_takeBytes {E : xE} {z : Nat} {T : Nat → Nat × Int} {F : Nat → Nat → Int} {I : Nat → Int → Int} {P : Nat → Nat → Option Nat} {Y : Nat → Int → Option Nat} {o : Nat} {n x : Int} {u : Int → Int} (h1 : (T o).1 = 12) (h0 : P o 0 = some (o + 1)) (ht1 : (T (o + 1)).1 = 14 ∧ (T (o + 1)).2 = 400) (hn : 0 ≤ n ∧ n + 4 ≤ 400) : Ct E 0 mX11_takeBytes 0 0 [.ref o, J x] (z, T, upF F o 1 (n), upA I (o + 1) (u), P, Y) (xd none (z, T, upF F o 1 (n + 4), upA I (o + 1) (cTk u n x 4), P, Y)) := by
  skip
  refine Ct.of [some (.ref o), some (J x), none] kt_X11_takeBytes rfl (Nat.le_of_ble_eq_true rfl) rfl (fun d hd => ?_)
  generalize hX : xN E _ _ _ = X
  refine xg_bipush 2 dX11_takeBytes_0 rfl (by decide) ?_
  refine xg_istoren 3 _ dX11_takeBytes_2 rfl rfl rfl (by decide) (Or.inr rfl) ?_
  have loop3 : ∀ (mm : Nat) (k : Nat), k ≤ 4 → 8 - (k : Int) < (mm : Int) → xG E mX11_takeBytes (xR d 0 0) X 3 [some (.ref o), some (J x), some (J (24 - 8 * (k : Int)))] [] (z, T, upF F o 1 (n + (k : Int)), upA I (o + 1) (cTk u n x (k : Int)), P, Y) 0 0 := by
    intro mm
    induction mm with
    | zero => intro k hk hm; exfalso; omega
    | succ mm ih =>
      intro k hk hm
      refine xg_iloadn 4 dX11_takeBytes_3 rfl rfl rfl ?_
      refine xg_iflt 49 7 dX11_takeBytes_4 rfl rfl (by omega) (fun hb4 => ?_) (fun hb4 => ?_)
      · skip
        subst hX
        exact xg_return dX11_takeBytes_49 rfl ⟨Nat.le_refl _, Nat.le_refl _⟩ ⟨rfl, by rw [show k = 4 by omega]; rfl⟩
      · skip
        refine xg_aloadn 8 dX11_takeBytes_7 rfl rfl rfl ?_
        refine xg_getI 11 kf_RX11_13 dX11_takeBytes_8 rfl h1 ?_
        rw [upF_at]
        refine xg_sipush 14 dX11_takeBytes_11 rfl (by decide) ?_
        refine xg_icge 43 17 dX11_takeBytes_14 rfl rfl (by omega) (fun hb14 => ?_) (fun hb14 => ?_)
        · exfalso; omega
        · skip
          refine xg_aloadn 18 dX11_takeBytes_17 rfl rfl rfl ?_
          refine xg_getP 21 kf_RX11_9 dX11_takeBytes_18 rfl h1 h0 ?_
          refine xg_aloadn 22 dX11_takeBytes_21 rfl rfl rfl ?_
          refine xg_getI 25 kf_RX11_13 dX11_takeBytes_22 rfl h1 ?_
          rw [upF_at]
          refine xg_iloadn 26 dX11_takeBytes_25 rfl rfl rfl ?_
          refine xg_iloadn 27 dX11_takeBytes_26 rfl rfl rfl ?_
          refine xg_iushr 28 dX11_takeBytes_27 rfl ?_
          refine xg_sipush 31 dX11_takeBytes_28 rfl (by decide) ?_
          refine xg_iand 32 dX11_takeBytes_31 rfl ?_
          refine xg_iast 33 dX11_takeBytes_32 rfl ht1.1 (by rw [ht1.2]; omega) ?_
          rw [upA_wS, cTk_s _ _ _ _ (by omega)]
          refine xg_aloadn 34 dX11_takeBytes_33 rfl rfl rfl ?_
          refine xg_dup 35 dX11_takeBytes_34 rfl rfl ?_
          refine xg_getI 38 kf_RX11_13 dX11_takeBytes_35 rfl h1 ?_
          rw [upF_at]
          refine xg_iconst 39 dX11_takeBytes_38 rfl ?_
          refine xg_iadd 40 dX11_takeBytes_39 rfl ?_
          refine xg_putI 43 kf_RX11_13 dX11_takeBytes_40 rfl h1 ?_
          rw [upF_upF]
          refine xg_iinc 46 _ dX11_takeBytes_43 rfl rfl rfl rfl (by decide) (Or.inr rfl) ?_
          refine xg_goto 3 dX11_takeBytes_46 rfl ?_
          have l1 := ih (k + 1) (by omega) (by omega)
          rw [show ((k + 1 : Nat) : Int) = (k : Int) + 1 by omega, ← Int.add_assoc] at l1
          exact xg_weak _ (xle_s rfl (xle_s rfl (xle_s (v := J (24 - 8 * ((k : Int) + 1))) (congrArg (fun x => some (J x)) (by omega)) xle_0))) l1
  have l0 := loop3 20 0 (by omega) (by omega)
  rw [show ((0 : Nat) : Int) = 0 from rfl, cTk_0, Int.add_zero] at l0
  exact xg_weak _ (xle_s rfl (xle_s rfl (xle_s (congrArg (fun x => some (J x)) (by omega)) xle_0))) l0

set_option maxHeartbeats 4000000 in
set_option maxRecDepth 100000 in
theorem ct_X11_feed {E : xE} {z : Nat} {T : Nat → Nat × Int} {F : Nat → Nat → Int} {I : Nat → Int → Int} {P : Nat → Nat → Option Nat} {Y : Nat → Int → Option Nat} {o : Nat} {n a1 a2 a3 a4 a5 : Int} {u : Int → Int} (h1 : (T o).1 = 12) (h0 : P o 0 = some (o + 1)) (ht1 : (T (o + 1)).1 = 14 ∧ (T (o + 1)).2 = 400) (hn : 0 ≤ n ∧ n + 20 ≤ 400) : Ct E 1 mX11_feed 0 0 [.ref o, J a1, J a2, J a3, J a4, J a5] (z, T, upF F o 1 (n), upA I (o + 1) (u), P, Y) (xd (some (J (n + 20))) (z, T, upF F o 1 (n + 20), upA I (o + 1) (cFd u n (gFive a1 a2 a3 a4 a5)), P, Y)) := by
  skip
  refine Ct.of [some (.ref o), some (J a1), some (J a2), some (J a3), some (J a4), some (J a5)] kt_X11_feed rfl (Nat.le_of_ble_eq_true rfl) rfl (fun d hd => ?_)
  generalize hX : xN E _ _ _ = X
  refine xg_aloadn 1 dX11_feed_0 rfl rfl rfl ?_
  refine xg_getI 4 kf_RX11_13 dX11_feed_1 rfl h1 ?_
  rw [upF_at]
  refine xg_iflt 20 7 dX11_feed_4 rfl rfl (by omega) (fun hb4 => ?_) (fun hb4 => ?_)
  · exfalso; omega
  · skip
    refine xg_aloadn 8 dX11_feed_7 rfl rfl rfl ?_
    refine xg_getI 11 kf_RX11_13 dX11_feed_8 rfl h1 ?_
    rw [upF_at]
    refine xg_bipush 13 dX11_feed_11 rfl (by decide) ?_
    refine xg_iadd 14 dX11_feed_13 rfl ?_
    refine xg_sipush 17 dX11_feed_14 rfl (by decide) ?_
    refine xg_icle 22 20 dX11_feed_17 rfl rfl (by omega) (fun hb17 => ?_) (fun hb17 => ?_)
    · skip
      refine xg_aloadn 23 dX11_feed_22 rfl rfl rfl ?_
      refine xg_iloadn 24 dX11_feed_23 rfl rfl rfl ?_
      refine xg_callV 27 11 [_] _ kv_X11_takeBytes ⟨_, _, rfl⟩ kl_RX11_73 dX11_feed_24 rfl h1 (by omega) rfl rfl (Nat.le_of_ble_eq_true rfl) (by omega) ⟨Nat.le_refl _, Nat.le_refl _⟩ (ct_X11_takeBytes h1 h0 ht1 (n := n) (by omega)) rfl ?_
      refine xg_aloadn 28 dX11_feed_27 rfl rfl rfl ?_
      refine xg_iloadn 29 dX11_feed_28 rfl rfl rfl ?_
      refine xg_callV 32 11 [_] _ kv_X11_takeBytes ⟨_, _, rfl⟩ kl_RX11_73 dX11_feed_29 rfl h1 (by omega) rfl rfl (Nat.le_of_ble_eq_true rfl) (by omega) ⟨Nat.le_refl _, Nat.le_refl _⟩ (ct_X11_takeBytes h1 h0 ht1 (n := n + 4) (by omega)) rfl ?_
      refine xg_aloadn 33 dX11_feed_32 rfl rfl rfl ?_
      refine xg_iloadn 34 dX11_feed_33 rfl rfl rfl ?_
      refine xg_callV 37 11 [_] _ kv_X11_takeBytes ⟨_, _, rfl⟩ kl_RX11_73 dX11_feed_34 rfl h1 (by omega) rfl rfl (Nat.le_of_ble_eq_true rfl) (by omega) ⟨Nat.le_refl _, Nat.le_refl _⟩ (ct_X11_takeBytes h1 h0 ht1 (n := n + 4 + 4) (by omega)) rfl ?_
      refine xg_aloadn 38 dX11_feed_37 rfl rfl rfl ?_
      refine xg_iload 40 dX11_feed_38 rfl rfl ?_
      refine xg_callV 43 11 [_] _ kv_X11_takeBytes ⟨_, _, rfl⟩ kl_RX11_73 dX11_feed_40 rfl h1 (by omega) rfl rfl (Nat.le_of_ble_eq_true rfl) (by omega) ⟨Nat.le_refl _, Nat.le_refl _⟩ (ct_X11_takeBytes h1 h0 ht1 (n := n + 4 + 4 + 4) (by omega)) rfl ?_
      refine xg_aloadn 44 dX11_feed_43 rfl rfl rfl ?_
      refine xg_iload 46 dX11_feed_44 rfl rfl ?_
      refine xg_callV 49 11 [_] _ kv_X11_takeBytes ⟨_, _, rfl⟩ kl_RX11_73 dX11_feed_46 rfl h1 (by omega) rfl rfl (Nat.le_of_ble_eq_true rfl) (by omega) ⟨Nat.le_refl _, Nat.le_refl _⟩ (ct_X11_takeBytes h1 h0 ht1 (n := n + 4 + 4 + 4 + 4) (by omega)) rfl ?_
      refine xg_aloadn 50 dX11_feed_49 rfl rfl rfl ?_
      refine xg_getI 53 kf_RX11_13 dX11_feed_50 rfl h1 ?_
      rw [upF_at]
      subst hX
      exact xg_ireturn dX11_feed_53 rfl ⟨Nat.le_refl _, Nat.le_refl _⟩ ⟨congrArg (fun v => some (J v)) (by omega), by rw [cTk_5, show n + 4 + 4 + 4 + 4 + 4 = n + 20 by omega]⟩
    · exfalso; omega

set_option maxHeartbeats 4000000 in
set_option maxRecDepth 100000 in
theorem ct_X11_feed_f {E : xE} {z : Nat} {T : Nat → Nat × Int} {F : Nat → Nat → Int} {I : Nat → Int → Int} {P : Nat → Nat → Option Nat} {Y : Nat → Int → Option Nat} {o : Nat} {n a1 a2 a3 a4 a5 : Int} {u : Int → Int} (h1 : (T o).1 = 12) (h0 : P o 0 = some (o + 1)) (ht1 : (T (o + 1)).1 = 14 ∧ (T (o + 1)).2 = 400) (hn : 0 ≤ n ∧ n ≤ 400 ∧ 400 < n + 20) : Ct E 0 mX11_feed 0 0 [.ref o, J a1, J a2, J a3, J a4, J a5] (z, T, upF F o 1 (n), upA I (o + 1) (u), P, Y) (xd (some (J (-1))) (z, T, upF F o 1 (n), upA I (o + 1) (u), P, Y)) := by
  skip
  refine Ct.of [some (.ref o), some (J a1), some (J a2), some (J a3), some (J a4), some (J a5)] kt_X11_feed rfl (Nat.le_of_ble_eq_true rfl) rfl (fun d hd => ?_)
  generalize hX : xN E _ _ _ = X
  refine xg_aloadn 1 dX11_feed_0 rfl rfl rfl ?_
  refine xg_getI 4 kf_RX11_13 dX11_feed_1 rfl h1 ?_
  rw [upF_at]
  refine xg_iflt 20 7 dX11_feed_4 rfl rfl (by omega) (fun hb4 => ?_) (fun hb4 => ?_)
  · exfalso; omega
  · skip
    refine xg_aloadn 8 dX11_feed_7 rfl rfl rfl ?_
    refine xg_getI 11 kf_RX11_13 dX11_feed_8 rfl h1 ?_
    rw [upF_at]
    refine xg_bipush 13 dX11_feed_11 rfl (by decide) ?_
    refine xg_iadd 14 dX11_feed_13 rfl ?_
    refine xg_sipush 17 dX11_feed_14 rfl (by decide) ?_
    refine xg_icle 22 20 dX11_feed_17 rfl rfl (by omega) (fun hb17 => ?_) (fun hb17 => ?_)
    · exfalso; omega
    · skip
      refine xg_iconst 21 dX11_feed_20 rfl ?_
      subst hX
      exact xg_ireturn dX11_feed_21 rfl ⟨Nat.le_refl _, Nat.le_refl _⟩ ⟨rfl, rfl⟩

