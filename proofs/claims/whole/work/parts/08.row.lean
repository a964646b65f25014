theorem dX6_valueOf_0 : decode cX6_valueOf 0 = .ok (.iload_n 1, 1) := by decide +kernel
theorem dX6_valueOf_1 : decode cX6_valueOf 1 = .ok (.ifCond .lt 9, 3) := by decide +kernel
theorem dX6_valueOf_4 : decode cX6_valueOf 4 = .ok (.iload_n 1, 1) := by decide +kernel
theorem dX6_valueOf_5 : decode cX6_valueOf 5 = .ok (.bipush 60, 2) := by decide +kernel
theorem dX6_valueOf_7 : decode cX6_valueOf 7 = .ok (.if_icmp .lt 7, 3) := by decide +kernel
theorem dX6_valueOf_10 : decode cX6_valueOf 10 = .ok (.iconst (-1), 1) := by decide +kernel
theorem dX6_valueOf_11 : decode cX6_valueOf 11 = .ok (.goto 9, 3) := by decide +kernel
theorem dX6_valueOf_14 : decode cX6_valueOf 14 = .ok (.aload_n 0, 1) := by decide +kernel
theorem dX6_valueOf_15 : decode cX6_valueOf 15 = .ok (.getfield 9, 3) := by decide +kernel
theorem dX6_valueOf_18 : decode cX6_valueOf 18 = .ok (.iload_n 1, 1) := by decide +kernel
theorem dX6_valueOf_19 : decode cX6_valueOf 19 = .ok (.iaload, 1) := by decide +kernel
theorem dX6_valueOf_20 : decode cX6_valueOf 20 = .ok (.ireturn, 1) := by decide +kernel
theorem dX6_rewritesOf_0 : decode cX6_rewritesOf 0 = .ok (.iload_n 1, 1) := by decide +kernel
theorem dX6_rewritesOf_1 : decode cX6_rewritesOf 1 = .ok (.ifCond .lt 9, 3) := by decide +kernel
theorem dX6_rewritesOf_4 : decode cX6_rewritesOf 4 = .ok (.iload_n 1, 1) := by decide +kernel
theorem dX6_rewritesOf_5 : decode cX6_rewritesOf 5 = .ok (.bipush 60, 2) := by decide +kernel
theorem dX6_rewritesOf_7 : decode cX6_rewritesOf 7 = .ok (.if_icmp .lt 7, 3) := by decide +kernel
theorem dX6_rewritesOf_10 : decode cX6_rewritesOf 10 = .ok (.iconst (-1), 1) := by decide +kernel
theorem dX6_rewritesOf_11 : decode cX6_rewritesOf 11 = .ok (.goto 9, 3) := by decide +kernel
theorem dX6_rewritesOf_14 : decode cX6_rewritesOf 14 = .ok (.aload_n 0, 1) := by decide +kernel
theorem dX6_rewritesOf_15 : decode cX6_rewritesOf 15 = .ok (.getfield 15, 3) := by decide +kernel
theorem dX6_rewritesOf_18 : decode cX6_rewritesOf 18 = .ok (.iload_n 1, 1) := by decide +kernel
theorem dX6_rewritesOf_19 : decode cX6_rewritesOf 19 = .ok (.iaload, 1) := by decide +kernel
theorem dX6_rewritesOf_20 : decode cX6_rewritesOf 20 = .ok (.ireturn, 1) := by decide +kernel
theorem dX6_enter_0 : decode cX6_enter 0 = .ok (.iload_n 1, 1) := by decide +kernel
theorem dX6_enter_1 : decode cX6_enter 1 = .ok (.ifCond .lt 9, 3) := by decide +kernel
theorem dX6_enter_4 : decode cX6_enter 4 = .ok (.iload_n 1, 1) := by decide +kernel
theorem dX6_enter_5 : decode cX6_enter 5 = .ok (.bipush 60, 2) := by decide +kernel
theorem dX6_enter_7 : decode cX6_enter 7 = .ok (.if_icmp .lt 4, 3) := by decide +kernel
theorem dX6_enter_10 : decode cX6_enter 10 = .ok (.return_, 1) := by decide +kernel
theorem dX6_enter_11 : decode cX6_enter 11 = .ok (.aload_n 0, 1) := by decide +kernel
theorem dX6_enter_12 : decode cX6_enter 12 = .ok (.getfield 9, 3) := by decide +kernel
theorem dX6_enter_15 : decode cX6_enter 15 = .ok (.iload_n 1, 1) := by decide +kernel
theorem dX6_enter_16 : decode cX6_enter 16 = .ok (.iaload, 1) := by decide +kernel
theorem dX6_enter_17 : decode cX6_enter 17 = .ok (.iconst (-1), 1) := by decide +kernel
theorem dX6_enter_18 : decode cX6_enter 18 = .ok (.if_icmp .ne 13, 3) := by decide +kernel
theorem dX6_enter_21 : decode cX6_enter 21 = .ok (.aload_n 0, 1) := by decide +kernel
theorem dX6_enter_22 : decode cX6_enter 22 = .ok (.dup, 1) := by decide +kernel
theorem dX6_enter_23 : decode cX6_enter 23 = .ok (.getfield 18, 3) := by decide +kernel
theorem dX6_enter_26 : decode cX6_enter 26 = .ok (.iconst 1, 1) := by decide +kernel
theorem dX6_enter_27 : decode cX6_enter 27 = .ok (.iadd, 1) := by decide +kernel
theorem dX6_enter_28 : decode cX6_enter 28 = .ok (.putfield 18, 3) := by decide +kernel
theorem dX6_enter_31 : decode cX6_enter 31 = .ok (.aload_n 0, 1) := by decide +kernel
theorem dX6_enter_32 : decode cX6_enter 32 = .ok (.getfield 9, 3) := by decide +kernel
theorem dX6_enter_35 : decode cX6_enter 35 = .ok (.iload_n 1, 1) := by decide +kernel
theorem dX6_enter_36 : decode cX6_enter 36 = .ok (.iload_n 2, 1) := by decide +kernel
theorem dX6_enter_37 : decode cX6_enter 37 = .ok (.iastore, 1) := by decide +kernel
theorem dX6_enter_38 : decode cX6_enter 38 = .ok (.aload_n 0, 1) := by decide +kernel
theorem dX6_enter_39 : decode cX6_enter 39 = .ok (.getfield 15, 3) := by decide +kernel
theorem dX6_enter_42 : decode cX6_enter 42 = .ok (.iload_n 1, 1) := by decide +kernel
theorem dX6_enter_43 : decode cX6_enter 43 = .ok (.iload_n 3, 1) := by decide +kernel
theorem dX6_enter_44 : decode cX6_enter 44 = .ok (.iastore, 1) := by decide +kernel
theorem dX6_enter_45 : decode cX6_enter 45 = .ok (.return_, 1) := by decide +kernel
theorem dX6_keyAt_0 : decode cX6_keyAt 0 = .ok (.iload_n 1, 1) := by decide +kernel
theorem dX6_keyAt_1 : decode cX6_keyAt 1 = .ok (.istore_n 2, 1) := by decide +kernel
theorem dX6_keyAt_2 : decode cX6_keyAt 2 = .ok (.iconst 0, 1) := by decide +kernel
theorem dX6_keyAt_3 : decode cX6_keyAt 3 = .ok (.istore_n 3, 1) := by decide +kernel
theorem dX6_keyAt_4 : decode cX6_keyAt 4 = .ok (.iload_n 3, 1) := by decide +kernel
theorem dX6_keyAt_5 : decode cX6_keyAt 5 = .ok (.bipush 60, 2) := by decide +kernel
theorem dX6_keyAt_7 : decode cX6_keyAt 7 = .ok (.if_icmp .ge 32, 3) := by decide +kernel
theorem dX6_keyAt_10 : decode cX6_keyAt 10 = .ok (.iload_n 2, 1) := by decide +kernel
theorem dX6_keyAt_11 : decode cX6_keyAt 11 = .ok (.ifCond .lt 28, 3) := by decide +kernel
theorem dX6_keyAt_14 : decode cX6_keyAt 14 = .ok (.aload_n 0, 1) := by decide +kernel
theorem dX6_keyAt_15 : decode cX6_keyAt 15 = .ok (.getfield 9, 3) := by decide +kernel
theorem dX6_keyAt_18 : decode cX6_keyAt 18 = .ok (.iload_n 3, 1) := by decide +kernel
theorem dX6_keyAt_19 : decode cX6_keyAt 19 = .ok (.iaload, 1) := by decide +kernel
theorem dX6_keyAt_20 : decode cX6_keyAt 20 = .ok (.iconst (-1), 1) := by decide +kernel
theorem dX6_keyAt_21 : decode cX6_keyAt 21 = .ok (.if_icmp .eq 12, 3) := by decide +kernel
theorem dX6_keyAt_24 : decode cX6_keyAt 24 = .ok (.iload_n 2, 1) := by decide +kernel
theorem dX6_keyAt_25 : decode cX6_keyAt 25 = .ok (.ifCond .ne 5, 3) := by decide +kernel
theorem dX6_keyAt_28 : decode cX6_keyAt 28 = .ok (.iload_n 3, 1) := by decide +kernel
theorem dX6_keyAt_29 : decode cX6_keyAt 29 = .ok (.ireturn, 1) := by decide +kernel
theorem dX6_keyAt_30 : decode cX6_keyAt 30 = .ok (.iinc 2 (-1), 3) := by decide +kernel
theorem dX6_keyAt_33 : decode cX6_keyAt 33 = .ok (.iinc 3 1, 3) := by decide +kernel
theorem dX6_keyAt_36 : decode cX6_keyAt 36 = .ok (.goto (-32), 3) := by decide +kernel
theorem dX6_keyAt_39 : decode cX6_keyAt 39 = .ok (.iconst (-1), 1) := by decide +kernel
theorem dX6_keyAt_40 : decode cX6_keyAt 40 = .ok (.ireturn, 1) := by decide +kernel
theorem dX6_mostRewritten_0 : decode cX6_mostRewritten 0 = .ok (.iconst 0, 1) := by decide +kernel
theorem dX6_mostRewritten_1 : decode cX6_mostRewritten 1 = .ok (.istore_n 1, 1) := by decide +kernel
theorem dX6_mostRewritten_2 : decode cX6_mostRewritten 2 = .ok (.iconst 0, 1) := by decide +kernel
theorem dX6_mostRewritten_3 : decode cX6_mostRewritten 3 = .ok (.istore_n 2, 1) := by decide +kernel
theorem dX6_mostRewritten_4 : decode cX6_mostRewritten 4 = .ok (.iload_n 2, 1) := by decide +kernel
theorem dX6_mostRewritten_5 : decode cX6_mostRewritten 5 = .ok (.bipush 60, 2) := by decide +kernel
theorem dX6_mostRewritten_7 : decode cX6_mostRewritten 7 = .ok (.if_icmp .ge 36, 3) := by decide +kernel
theorem dX6_mostRewritten_10 : decode cX6_mostRewritten 10 = .ok (.aload_n 0, 1) := by decide +kernel
theorem dX6_mostRewritten_11 : decode cX6_mostRewritten 11 = .ok (.getfield 9, 3) := by decide +kernel
theorem dX6_mostRewritten_14 : decode cX6_mostRewritten 14 = .ok (.iload_n 2, 1) := by decide +kernel
theorem dX6_mostRewritten_15 : decode cX6_mostRewritten 15 = .ok (.iaload, 1) := by decide +kernel
theorem dX6_mostRewritten_16 : decode cX6_mostRewritten 16 = .ok (.iconst (-1), 1) := by decide +kernel
theorem dX6_mostRewritten_17 : decode cX6_mostRewritten 17 = .ok (.if_icmp .eq 20, 3) := by decide +kernel
theorem dX6_mostRewritten_20 : decode cX6_mostRewritten 20 = .ok (.aload_n 0, 1) := by decide +kernel
theorem dX6_mostRewritten_21 : decode cX6_mostRewritten 21 = .ok (.getfield 15, 3) := by decide +kernel
theorem dX6_mostRewritten_24 : decode cX6_mostRewritten 24 = .ok (.iload_n 2, 1) := by decide +kernel
theorem dX6_mostRewritten_25 : decode cX6_mostRewritten 25 = .ok (.iaload, 1) := by decide +kernel
theorem dX6_mostRewritten_26 : decode cX6_mostRewritten 26 = .ok (.iload_n 1, 1) := by decide +kernel
theorem dX6_mostRewritten_27 : decode cX6_mostRewritten 27 = .ok (.if_icmp .le 10, 3) := by decide +kernel
theorem dX6_mostRewritten_30 : decode cX6_mostRewritten 30 = .ok (.aload_n 0, 1) := by decide +kernel
theorem dX6_mostRewritten_31 : decode cX6_mostRewritten 31 = .ok (.getfield 15, 3) := by decide +kernel
theorem dX6_mostRewritten_34 : decode cX6_mostRewritten 34 = .ok (.iload_n 2, 1) := by decide +kernel
theorem dX6_mostRewritten_35 : decode cX6_mostRewritten 35 = .ok (.iaload, 1) := by decide +kernel
theorem dX6_mostRewritten_36 : decode cX6_mostRewritten 36 = .ok (.istore_n 1, 1) := by decide +kernel
theorem dX6_mostRewritten_37 : decode cX6_mostRewritten 37 = .ok (.iinc 2 1, 3) := by decide +kernel
theorem dX6_mostRewritten_40 : decode cX6_mostRewritten 40 = .ok (.goto (-36), 3) := by decide +kernel
theorem dX6_mostRewritten_43 : decode cX6_mostRewritten 43 = .ok (.iload_n 1, 1) := by decide +kernel
theorem dX6_mostRewritten_44 : decode cX6_mostRewritten 44 = .ok (.ireturn, 1) := by decide +kernel
theorem dX6_keysAlsoIn_0 : decode cX6_keysAlsoIn 0 = .ok (.iconst 0, 1) := by decide +kernel
theorem dX6_keysAlsoIn_1 : decode cX6_keysAlsoIn 1 = .ok (.istore_n 2, 1) := by decide +kernel
theorem dX6_keysAlsoIn_2 : decode cX6_keysAlsoIn 2 = .ok (.iconst 0, 1) := by decide +kernel
theorem dX6_keysAlsoIn_3 : decode cX6_keysAlsoIn 3 = .ok (.istore_n 3, 1) := by decide +kernel
theorem dX6_keysAlsoIn_4 : decode cX6_keysAlsoIn 4 = .ok (.iload_n 3, 1) := by decide +kernel
theorem dX6_keysAlsoIn_5 : decode cX6_keysAlsoIn 5 = .ok (.bipush 60, 2) := by decide +kernel
theorem dX6_keysAlsoIn_7 : decode cX6_keysAlsoIn 7 = .ok (.if_icmp .ge 32, 3) := by decide +kernel
theorem dX6_keysAlsoIn_10 : decode cX6_keysAlsoIn 10 = .ok (.aload_n 0, 1) := by decide +kernel
theorem dX6_keysAlsoIn_11 : decode cX6_keysAlsoIn 11 = .ok (.getfield 9, 3) := by decide +kernel
theorem dX6_keysAlsoIn_14 : decode cX6_keysAlsoIn 14 = .ok (.iload_n 3, 1) := by decide +kernel
theorem dX6_keysAlsoIn_15 : decode cX6_keysAlsoIn 15 = .ok (.iaload, 1) := by decide +kernel
theorem dX6_keysAlsoIn_16 : decode cX6_keysAlsoIn 16 = .ok (.iconst (-1), 1) := by decide +kernel
theorem dX6_keysAlsoIn_17 : decode cX6_keysAlsoIn 17 = .ok (.if_icmp .eq 16, 3) := by decide +kernel
theorem dX6_keysAlsoIn_20 : decode cX6_keysAlsoIn 20 = .ok (.aload_n 1, 1) := by decide +kernel
theorem dX6_keysAlsoIn_21 : decode cX6_keysAlsoIn 21 = .ok (.getfield 9, 3) := by decide +kernel
theorem dX6_keysAlsoIn_24 : decode cX6_keysAlsoIn 24 = .ok (.iload_n 3, 1) := by decide +kernel
theorem dX6_keysAlsoIn_25 : decode cX6_keysAlsoIn 25 = .ok (.iaload, 1) := by decide +kernel
theorem dX6_keysAlsoIn_26 : decode cX6_keysAlsoIn 26 = .ok (.iconst (-1), 1) := by decide +kernel
theorem dX6_keysAlsoIn_27 : decode cX6_keysAlsoIn 27 = .ok (.if_icmp .eq 6, 3) := by decide +kernel
theorem dX6_keysAlsoIn_30 : decode cX6_keysAlsoIn 30 = .ok (.iinc 2 1, 3) := by decide +kernel
theorem dX6_keysAlsoIn_33 : decode cX6_keysAlsoIn 33 = .ok (.iinc 3 1, 3) := by decide +kernel
theorem dX6_keysAlsoIn_36 : decode cX6_keysAlsoIn 36 = .ok (.goto (-32), 3) := by decide +kernel
theorem dX6_keysAlsoIn_39 : decode cX6_keysAlsoIn 39 = .ok (.iload_n 2, 1) := by decide +kernel
theorem dX6_keysAlsoIn_40 : decode cX6_keysAlsoIn 40 = .ok (.ireturn, 1) := by decide +kernel
theorem dX6_wipe_0 : decode cX6_wipe 0 = .ok (.iconst 0, 1) := by decide +kernel
theorem dX6_wipe_1 : decode cX6_wipe 1 = .ok (.istore_n 1, 1) := by decide +kernel
theorem dX6_wipe_2 : decode cX6_wipe 2 = .ok (.iload_n 1, 1) := by decide +kernel
theorem dX6_wipe_3 : decode cX6_wipe 3 = .ok (.bipush 60, 2) := by decide +kernel
theorem dX6_wipe_5 : decode cX6_wipe 5 = .ok (.if_icmp .ge 23, 3) := by decide +kernel
theorem dX6_wipe_8 : decode cX6_wipe 8 = .ok (.aload_n 0, 1) := by decide +kernel
theorem dX6_wipe_9 : decode cX6_wipe 9 = .ok (.getfield 9, 3) := by decide +kernel
theorem dX6_wipe_12 : decode cX6_wipe 12 = .ok (.iload_n 1, 1) := by decide +kernel
theorem dX6_wipe_13 : decode cX6_wipe 13 = .ok (.iconst (-1), 1) := by decide +kernel
theorem dX6_wipe_14 : decode cX6_wipe 14 = .ok (.iastore, 1) := by decide +kernel
theorem dX6_wipe_15 : decode cX6_wipe 15 = .ok (.aload_n 0, 1) := by decide +kernel
theorem dX6_wipe_16 : decode cX6_wipe 16 = .ok (.getfield 15, 3) := by decide +kernel
theorem dX6_wipe_19 : decode cX6_wipe 19 = .ok (.iload_n 1, 1) := by decide +kernel
theorem dX6_wipe_20 : decode cX6_wipe 20 = .ok (.iconst 0, 1) := by decide +kernel
theorem dX6_wipe_21 : decode cX6_wipe 21 = .ok (.iastore, 1) := by decide +kernel
theorem dX6_wipe_22 : decode cX6_wipe 22 = .ok (.iinc 1 1, 3) := by decide +kernel
theorem dX6_wipe_25 : decode cX6_wipe 25 = .ok (.goto (-23), 3) := by decide +kernel
theorem dX6_wipe_28 : decode cX6_wipe 28 = .ok (.aload_n 0, 1) := by decide +kernel
theorem dX6_wipe_29 : decode cX6_wipe 29 = .ok (.iconst 0, 1) := by decide +kernel
theorem dX6_wipe_30 : decode cX6_wipe 30 = .ok (.putfield 18, 3) := by decide +kernel
theorem dX6_wipe_33 : decode cX6_wipe 33 = .ok (.aload_n 0, 1) := by decide +kernel
theorem dX6_wipe_34 : decode cX6_wipe 34 = .ok (.iconst 0, 1) := by decide +kernel
theorem dX6_wipe_35 : decode cX6_wipe 35 = .ok (.putfield 22, 3) := by decide +kernel
theorem dX6_wipe_38 : decode cX6_wipe 38 = .ok (.aload_n 0, 1) := by decide +kernel
theorem dX6_wipe_39 : decode cX6_wipe 39 = .ok (.iconst 0, 1) := by decide +kernel
theorem dX6_wipe_40 : decode cX6_wipe 40 = .ok (.putfield 25, 3) := by decide +kernel
theorem dX6_wipe_43 : decode cX6_wipe 43 = .ok (.return_, 1) := by decide +kernel
set_option maxHeartbeats 4000000 in
set_option maxRecDepth 100000 in
theorem ct_X6_valueOf {E : xE} {z : Nat} {T : Nat → Nat × Int} {F : Nat → Nat → Int} {I : Nat → Int → Int} {P : Nat → Nat → Option Nat} {Y : Nat → Int → Option Nat} {a : Nat} {key : Int} (hw : wRow T P a) (hk : -2147483648 ≤ key ∧ key < 2147483648) : Ct E 0 mX6_valueOf 0 0 [.ref a, J key] (z, T, F, I, P, Y) (xd (some (J (if 0 ≤ key ∧ key < 60 then I (a + 1) key else -1))) (z, T, F, I, P, Y)) := by
  obtain ⟨w0, w1, w2, ⟨w3, w4⟩, w5, w6⟩ := hw
  refine Ct.of [some (.ref a), some (J key)] kt_X6_valueOf rfl (Nat.le_of_ble_eq_true rfl) rfl (fun d hd => ?_)
  generalize hX : xN E _ _ _ = X
  refine xg_iloadn 1 dX6_valueOf_0 rfl rfl rfl ?_
  refine xg_iflt 10 4 dX6_valueOf_1 rfl rfl (by omega) (fun hb1 => ?_) (fun hb1 => ?_)
  · skip
    refine xg_iconst 11 dX6_valueOf_10 rfl ?_
    refine xg_goto 20 dX6_valueOf_11 rfl ?_
    subst hX
    refine xg_ireturn dX6_valueOf_20 rfl ⟨Nat.le_refl _, Nat.le_refl _⟩ ?_
    refine ⟨?_, rfl⟩
    first | rw [if_pos (by omega)] | rw [if_neg (by omega)]
  · skip
    refine xg_iloadn 5 dX6_valueOf_4 rfl rfl rfl ?_
    refine xg_bipush 7 dX6_valueOf_5 rfl (by decide) ?_
    refine xg_iclt 14 10 dX6_valueOf_7 rfl rfl (by omega) (fun hb7 => ?_) (fun hb7 => ?_)
    · skip
      refine xg_aloadn 15 dX6_valueOf_14 rfl rfl rfl ?_
      refine xg_getP 18 kf_RX6_9 dX6_valueOf_15 rfl (by assumption) (by assumption) ?_
      refine xg_iloadn 19 dX6_valueOf_18 rfl rfl rfl ?_
      refine xg_iald 20 dX6_valueOf_19 rfl (by assumption) (by omega) ?_
      subst hX
      refine xg_ireturn dX6_valueOf_20 rfl ⟨Nat.le_refl _, Nat.le_refl _⟩ ?_
      refine ⟨?_, rfl⟩
      first | rw [if_pos (by omega)] | rw [if_neg (by omega)]
    · skip
      refine xg_iconst 11 dX6_valueOf_10 rfl ?_
      refine xg_goto 20 dX6_valueOf_11 rfl ?_
      subst hX
      refine xg_ireturn dX6_valueOf_20 rfl ⟨Nat.le_refl _, Nat.le_refl _⟩ ?_
      refine ⟨?_, rfl⟩
      first | rw [if_pos (by omega)] | rw [if_neg (by omega)]

set_option maxHeartbeats 4000000 in
set_option maxRecDepth 100000 in
theorem ct_X6_rewritesOf {E : xE} {z : Nat} {T : Nat → Nat × Int} {F : Nat → Nat → Int} {I : Nat → Int → Int} {P : Nat → Nat → Option Nat} {Y : Nat → Int → Option Nat} {a : Nat} {key : Int} (hw : wRow T P a) (hk : -2147483648 ≤ key ∧ key < 2147483648) : Ct E 0 mX6_rewritesOf 0 0 [.ref a, J key] (z, T, F, I, P, Y) (xd (some (J (if 0 ≤ key ∧ key < 60 then I (a + 2) key else -1))) (z, T, F, I, P, Y)) := by
  obtain ⟨w0, w1, w2, ⟨w3, w4⟩, w5, w6⟩ := hw
  refine Ct.of [some (.ref a), some (J key)] kt_X6_rewritesOf rfl (Nat.le_of_ble_eq_true rfl) rfl (fun d hd => ?_)
  generalize hX : xN E _ _ _ = X
  refine xg_iloadn 1 dX6_rewritesOf_0 rfl rfl rfl ?_
  refine xg_iflt 10 4 dX6_rewritesOf_1 rfl rfl (by omega) (fun hb1 => ?_) (fun hb1 => ?_)
  · skip
    refine xg_iconst 11 dX6_rewritesOf_10 rfl ?_
    refine xg_goto 20 dX6_rewritesOf_11 rfl ?_
    subst hX
    refine xg_ireturn dX6_rewritesOf_20 rfl ⟨Nat.le_refl _, Nat.le_refl _⟩ ?_
    refine ⟨?_, rfl⟩
    first | rw [if_pos (by omega)] | rw [if_neg (by omega)]
  · skip
    refine xg_iloadn 5 dX6_rewritesOf_4 rfl rfl rfl ?_
    refine xg_bipush 7 dX6_rewritesOf_5 rfl (by decide) ?_
    refine xg_iclt 14 10 dX6_rewritesOf_7 rfl rfl (by omega) (fun hb7 => ?_) (fun hb7 => ?_)
    · skip
      refine xg_aloadn 15 dX6_rewritesOf_14 rfl rfl rfl ?_
      refine xg_getP 18 kf_RX6_15 dX6_rewritesOf_15 rfl (by assumption) (by assumption) ?_
      refine xg_iloadn 19 dX6_rewritesOf_18 rfl rfl rfl ?_
      refine xg_iald 20 dX6_rewritesOf_19 rfl (by assumption) (by omega) ?_
      subst hX
      refine xg_ireturn dX6_rewritesOf_20 rfl ⟨Nat.le_refl _, Nat.le_refl _⟩ ?_
      refine ⟨?_, rfl⟩
      first | rw [if_pos (by omega)] | rw [if_neg (by omega)]
    · skip
      refine xg_iconst 11 dX6_rewritesOf_10 rfl ?_
      refine xg_goto 20 dX6_rewritesOf_11 rfl ?_
      subst hX
      refine xg_ireturn dX6_rewritesOf_20 rfl ⟨Nat.le_refl _, Nat.le_refl _⟩ ?_
      refine ⟨?_, rfl⟩
      first | rw [if_pos (by omega)] | rw [if_neg (by omega)]

set_option maxHeartbeats 4000000 in
set_option maxRecDepth 100000 in
theorem ct_X6_enter {E : xE} {z : Nat} {T : Nat → Nat × Int} {F : Nat → Nat → Int} {I : Nat → Int → Int} {P : Nat → Nat → Option Nat} {Y : Nat → Int → Option Nat} {a : Nat} {key v g : Int} (hw : wRow T P a) (hk : 0 ≤ key ∧ key < 60) (hI : -2147483648 ≤ I (a + 1) key ∧ I (a + 1) key < 2147483648) : Ct E 0 mX6_enter 0 0 [.ref a, J key, J v, J g] (z, T, F, I, P, Y) (xd none (z, T, (if I (a + 1) key = -1 then upF F a 2 (F a 2 + 1) else F), upI (upI I (a + 1) key v) (a + 2) key g, P, Y)) := by
  obtain ⟨w0, w1, w2, ⟨w3, w4⟩, w5, w6⟩ := hw
  refine Ct.of [some (.ref a), some (J key), some (J v), some (J g)] kt_X6_enter rfl (Nat.le_of_ble_eq_true rfl) rfl (fun d hd => ?_)
  generalize hX : xN E _ _ _ = X
  refine xg_iloadn 1 dX6_enter_0 rfl rfl rfl ?_
  refine xg_iflt 10 4 dX6_enter_1 rfl rfl (by omega) (fun hb1 => ?_) (fun hb1 => ?_)
  · exfalso; omega
  · skip
    refine xg_iloadn 5 dX6_enter_4 rfl rfl rfl ?_
    refine xg_bipush 7 dX6_enter_5 rfl (by decide) ?_
    refine xg_iclt 11 10 dX6_enter_7 rfl rfl (by omega) (fun hb7 => ?_) (fun hb7 => ?_)
    · skip
      refine xg_aloadn 12 dX6_enter_11 rfl rfl rfl ?_
      refine xg_getP 15 kf_RX6_9 dX6_enter_12 rfl (by assumption) (by assumption) ?_
      refine xg_iloadn 16 dX6_enter_15 rfl rfl rfl ?_
      refine xg_iald 17 dX6_enter_16 rfl (by assumption) (by omega) ?_
      refine xg_iconst 18 dX6_enter_17 rfl ?_
      refine xg_icne 31 21 dX6_enter_18 rfl rfl (by omega) (fun hb18 => ?_) (fun hb18 => ?_)
      · skip
        refine xg_aloadn 32 dX6_enter_31 rfl rfl rfl ?_
        refine xg_getP 35 kf_RX6_9 dX6_enter_32 rfl (by assumption) (by assumption) ?_
        refine xg_iloadn 36 dX6_enter_35 rfl rfl rfl ?_
        refine xg_iloadn 37 dX6_enter_36 rfl rfl rfl ?_
        refine xg_iast 38 dX6_enter_37 rfl (by assumption) (by omega) ?_
        refine xg_aloadn 39 dX6_enter_38 rfl rfl rfl ?_
        refine xg_getP 42 kf_RX6_15 dX6_enter_39 rfl (by assumption) (by assumption) ?_
        refine xg_iloadn 43 dX6_enter_42 rfl rfl rfl ?_
        refine xg_iloadn 44 dX6_enter_43 rfl rfl rfl ?_
        refine xg_iast 45 dX6_enter_44 rfl (by assumption) (by omega) ?_
        subst hX
        refine xg_return dX6_enter_45 rfl ⟨Nat.le_refl _, Nat.le_refl _⟩ ?_
        refine ⟨rfl, ?_⟩
        first | rw [if_pos hb18] | rw [if_neg hb18]
      · skip
        refine xg_aloadn 22 dX6_enter_21 rfl rfl rfl ?_
        refine xg_dup 23 dX6_enter_22 rfl rfl ?_
        refine xg_getI 26 kf_RX6_18 dX6_enter_23 rfl (by assumption) ?_
        refine xg_iconst 27 dX6_enter_26 rfl ?_
        refine xg_iadd 28 dX6_enter_27 rfl ?_
        refine xg_putI 31 kf_RX6_18 dX6_enter_28 rfl (by assumption) ?_
        refine xg_aloadn 32 dX6_enter_31 rfl rfl rfl ?_
        refine xg_getP 35 kf_RX6_9 dX6_enter_32 rfl (by assumption) (by assumption) ?_
        refine xg_iloadn 36 dX6_enter_35 rfl rfl rfl ?_
        refine xg_iloadn 37 dX6_enter_36 rfl rfl rfl ?_
        refine xg_iast 38 dX6_enter_37 rfl (by assumption) (by omega) ?_
        refine xg_aloadn 39 dX6_enter_38 rfl rfl rfl ?_
        refine xg_getP 42 kf_RX6_15 dX6_enter_39 rfl (by assumption) (by assumption) ?_
        refine xg_iloadn 43 dX6_enter_42 rfl rfl rfl ?_
        refine xg_iloadn 44 dX6_enter_43 rfl rfl rfl ?_
        refine xg_iast 45 dX6_enter_44 rfl (by assumption) (by omega) ?_
        subst hX
        refine xg_return dX6_enter_45 rfl ⟨Nat.le_refl _, Nat.le_refl _⟩ ?_
        refine ⟨rfl, ?_⟩
        first | rw [if_pos hb18] | rw [if_neg hb18]
    · exfalso; omega

set_option maxHeartbeats 4000000 in
set_option maxRecDepth 100000 in
theorem ct_X6_keyAt {E : xE} {z : Nat} {T : Nat → Nat × Int} {F : Nat → Nat → Int} {I : Nat → Int → Int} {P : Nat → Nat → Option Nat} {Y : Nat → Int → Option Nat} {a : Nat} {k : Int} (hw : wRow T P a) (hk : -2147483648 ≤ k ∧ k < 2147483648) (hI : ∀ j : Int, 0 ≤ j → j < 60 → -2147483648 ≤ I (a + 1) j ∧ I (a + 1) j < 2147483648) : Ct E 0 mX6_keyAt 0 0 [.ref a, J k] (z, T, F, I, P, Y) (xd (some (J (sKey (I (a + 1)) 60 0 k))) (z, T, F, I, P, Y)) := by
  obtain ⟨w0, w1, w2, ⟨w3, w4⟩, w5, w6⟩ := hw
  refine Ct.of [some (.ref a), some (J k), none, none] kt_X6_keyAt rfl (Nat.le_of_ble_eq_true rfl) rfl (fun d hd => ?_)
  generalize hX : xN E _ _ _ = X
  refine xg_iloadn 1 dX6_keyAt_0 rfl rfl rfl ?_
  refine xg_istoren 2 _ dX6_keyAt_1 rfl rfl rfl (by decide) (Or.inr rfl) ?_
  refine xg_iconst 3 dX6_keyAt_2 rfl ?_
  refine xg_istoren 4 _ dX6_keyAt_3 rfl rfl rfl (by decide) (Or.inr rfl) ?_
  have loop4 : ∀ (mm : Nat) (left key : Int) (j : Nat), (-2147483648 ≤ left ∧ left < 2147483648) → (key + j = 60 ∧ 0 ≤ key) → sKey (I (a + 1)) j key left = sKey (I (a + 1)) 60 0 k → (j : Int) < (mm : Int) → xG E mX6_keyAt (xR d 0 0) X 4 [some (.ref a), some (J k), some (J left), some (J key)] [] (z, T, F, I, P, Y) 0 0 := by
    intro mm
    induction mm with
    | zero => intro left key j hl hj he hm; exfalso; omega
    | succ mm ih =>
      intro left key j hl hj he hm
      refine xg_iloadn 5 dX6_keyAt_4 rfl rfl rfl ?_
      refine xg_bipush 7 dX6_keyAt_5 rfl (by decide) ?_
      refine xg_icge 39 10 dX6_keyAt_7 rfl rfl (by omega) (fun hb7 => ?_) (fun hb7 => ?_)
      · skip
        refine xg_iconst 40 dX6_keyAt_39 rfl ?_
        subst hX
        refine xg_ireturn dX6_keyAt_40 rfl ⟨Nat.le_refl _, Nat.le_refl _⟩ ?_
        refine ⟨?_, rfl⟩
        rw [← he]
        cases j with
        | zero => rfl
        | succ j => rw [sKey, if_pos (by omega)]
      · skip
        refine xg_iloadn 11 dX6_keyAt_10 rfl rfl rfl ?_
        refine xg_iflt 39 14 dX6_keyAt_11 rfl rfl (by omega) (fun hb11 => ?_) (fun hb11 => ?_)
        · skip
          refine xg_iconst 40 dX6_keyAt_39 rfl ?_
          subst hX
          refine xg_ireturn dX6_keyAt_40 rfl ⟨Nat.le_refl _, Nat.le_refl _⟩ ?_
          refine ⟨?_, rfl⟩
          rw [← he]
          cases j with
          | zero => rfl
          | succ j => rw [sKey, if_pos (by omega)]
        · skip
          obtain ⟨j, rfl⟩ : ∃ i, j = i + 1 := ⟨j - 1, by omega⟩
          have hI1 := hI key (by omega) (by omega)
          refine xg_aloadn 15 dX6_keyAt_14 rfl rfl rfl ?_
          refine xg_getP 18 kf_RX6_9 dX6_keyAt_15 rfl (by assumption) (by assumption) ?_
          refine xg_iloadn 19 dX6_keyAt_18 rfl rfl rfl ?_
          refine xg_iald 20 dX6_keyAt_19 rfl (by assumption) (by omega) ?_
          refine xg_iconst 21 dX6_keyAt_20 rfl ?_
          refine xg_iceq 33 24 dX6_keyAt_21 rfl rfl (by omega) (fun hb21 => ?_) (fun hb21 => ?_)
          · skip
            refine xg_iinc 36 _ dX6_keyAt_33 rfl rfl rfl rfl (by decide) (Or.inr rfl) ?_
            refine xg_goto 4 dX6_keyAt_36 rfl ?_
            exact xg_weak _ (xle_s rfl (xle_s rfl (xle_s rfl (xle_s rfl xle_0)))) (ih left (key + 1) j hl (by omega) (by rw [← he, sKey, if_neg (by omega), if_pos hb21]) (by omega))
          · skip
            refine xg_iloadn 25 dX6_keyAt_24 rfl rfl rfl ?_
            refine xg_ifne 30 28 dX6_keyAt_25 rfl rfl (by omega) (fun hb25 => ?_) (fun hb25 => ?_)
            · skip
              refine xg_iinc 33 _ dX6_keyAt_30 rfl rfl rfl rfl (by decide) (Or.inr rfl) ?_
              refine xg_iinc 36 _ dX6_keyAt_33 rfl rfl rfl rfl (by decide) (Or.inr rfl) ?_
              refine xg_goto 4 dX6_keyAt_36 rfl ?_
              exact xg_weak _ (xle_s rfl (xle_s rfl (xle_s rfl (xle_s rfl xle_0)))) (ih (left + -1) (key + 1) j (by omega) (by omega) (by rw [← he, sKey, if_neg (by omega), if_neg hb21, if_neg hb25]; rfl) (by omega))
            · skip
              refine xg_iloadn 29 dX6_keyAt_28 rfl rfl rfl ?_
              subst hX
              exact xg_ireturn dX6_keyAt_29 rfl ⟨Nat.le_refl _, Nat.le_refl _⟩ ⟨by rw [← he, sKey, if_neg (by omega), if_neg hb21, if_pos hb25], rfl⟩
  exact xg_weak _ (xle_s rfl (xle_s rfl (xle_s rfl (xle_s rfl xle_0)))) (loop4 61 k 0 60 hk (by omega) rfl (by omega))

