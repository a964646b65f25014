theorem nar_i2b (a : Int) : narrow .byte (J (xi2b a)) = J (xi2b a) := by
  rw [J_i2b]
  show Value.int (Int32.ofInt a).toInt8.toInt32.toInt8.toInt32 = _
  first | rw [Int8.toInt8_toInt32] | simp
theorem xi2b_bd (a : Int) : -128 ≤ xi2b a ∧ xi2b a ≤ 127 := by
  unfold xi2b
  have h1 := Int8.le_toInt (Int32.ofInt a).toInt8
  have h2 := Int8.toInt_lt (Int32.ofInt a).toInt8
  omega
section XV37
variable {E : xE} {M : xM} {R : Room} {X : xX} {pc : Nat} {L : List (Option Value)} {st : List Value} {z : Nat} {T : Nat → Nat × Int} {F : Nat → Nat → Int} {I : Nat → Int → Int} {P : Nat → Nat → Option Nat} {Y : Nat → Int → Option Nat} {c n : Nat}
theorem xg_bastU {a b : Nat} {w u : Int → Int} {i v : Int} (q : Nat) (d : decode M.2.1 pc = .ok (.bastore, 1)) (hq : pc + 1 = q) (hk : (T a).1 = 15 ∧ a ≠ b) (hi : 0 ≤ i ∧ i < (T a).2) (hw : narrow .byte (J v) = J v) (kk : xG E M R X q L st (z, T, F, upA (upA I a (wS u i v)) b w, P, Y) c n) : xG E M R X pc L (J v :: J i :: .ref a :: st) (z, T, F, upA (upA I a u) b w, P, Y) c n :=
  xg_bast q d hq hk.1 hi hw (by rw [upA_com I hk.2 u w, upA_wS, upA_com _ (Ne.symm hk.2)]; exact kk)
end XV37
/-- the five numbers of a line -/
def gFive (a b c d e : Int) (k : Int) : Int := if k = 0 then a else if k = 1 then b else if k = 2 then c else if k = 3 then d else e
theorem five_e (u : Int → Int) (a b c d e k : Int) (hk : 0 ≤ k ∧ k ≤ 4) : wS (wS (wS (wS (wS u 0 a) 1 b) 2 c) 3 d) 4 e k = gFive a b c d e k := by
  unfold wS gFive
  (repeat' split) <;> first | rfl | omega
/-- a tape with n bytes of five numbers laid at f -/
def sFdN (t : Int → Int) (f : Int) (g : Int → Int) (n : Int) : Int → Int := fun j => if f ≤ j ∧ j < f + n then xi2b (xshr (g ((j - f) / 4)) (24 - 8 * ((j - f) % 4))) else t j
theorem sFd_0 (t : Int → Int) (f : Int) (g : Int → Int) : sFdN t f g 0 = t := by funext j; exact if_neg (by omega)
theorem sFd_s (t : Int → Int) (f : Int) (g : Int → Int) (n : Nat) : wS (sFdN t f g (n : Int)) (f + (n : Int)) (xi2b (xshr (g ((n : Int) / 4)) (24 - 8 * ((n : Int) % 4)))) = sFdN t f g ((n + 1 : Nat) : Int) := by
  funext j
  unfold wS sFdN
  by_cases hj : j = f + n
  · rw [if_pos hj, if_pos (by omega), show j - f = (n : Int) by omega]
  · rw [if_neg hj]
    by_cases h1 : f ≤ j ∧ j < f + n
    · rw [if_pos h1, if_pos (by omega)]
    · rw [if_neg h1, if_neg (by omega)]
def xFdd (m : Nat) (z : Nat) (T : Nat → Nat × Int) (F : Nat → Nat → Int) (I : Nat → Int → Int) (w : Int → Int) (P : Nat → Nat → Option Nat) (Y : Nat → Int → Option Nat) (g : Int → Int) : Option Value → xH → Prop :=
  fun v h' => v = some (J (F m 9 + 20)) ∧ ∃ I' : Nat → Int → Int, xScr m I I' ∧ h' = (z, T, upF (upF F m 0 0) m 9 (F m 9 + 20), upA (upA I' (m + 6) (sFdN (I (m + 6)) (F m 9) g 20)) (m + 1) w, P, Y)
theorem dX12_feed_0 : decode cX12_feed 0 = .ok (.aload_n 0, 1) := by decide +kernel
theorem dX12_feed_1 : decode cX12_feed 1 = .ok (.iconst 0, 1) := by decide +kernel
theorem dX12_feed_2 : decode cX12_feed 2 = .ok (.putfield 3, 3) := by decide +kernel
theorem dX12_feed_5 : decode cX12_feed 5 = .ok (.aload_n 0, 1) := by decide +kernel
theorem dX12_feed_6 : decode cX12_feed 6 = .ok (.getfield 80, 3) := by decide +kernel
theorem dX12_feed_9 : decode cX12_feed 9 = .ok (.bipush 20, 2) := by decide +kernel
theorem dX12_feed_11 : decode cX12_feed 11 = .ok (.iadd, 1) := by decide +kernel
theorem dX12_feed_12 : decode cX12_feed 12 = .ok (.sipush 400, 3) := by decide +kernel
theorem dX12_feed_15 : decode cX12_feed 15 = .ok (.if_icmp .le 5, 3) := by decide +kernel
theorem dX12_feed_18 : decode cX12_feed 18 = .ok (.iconst (-1), 1) := by decide +kernel
theorem dX12_feed_19 : decode cX12_feed 19 = .ok (.ireturn, 1) := by decide +kernel
theorem dX12_feed_20 : decode cX12_feed 20 = .ok (.aload_n 0, 1) := by decide +kernel
theorem dX12_feed_21 : decode cX12_feed 21 = .ok (.getfield 36, 3) := by decide +kernel
theorem dX12_feed_24 : decode cX12_feed 24 = .ok (.iconst 0, 1) := by decide +kernel
theorem dX12_feed_25 : decode cX12_feed 25 = .ok (.iload_n 1, 1) := by decide +kernel
theorem dX12_feed_26 : decode cX12_feed 26 = .ok (.iastore, 1) := by decide +kernel
theorem dX12_feed_27 : decode cX12_feed 27 = .ok (.aload_n 0, 1) := by decide +kernel
theorem dX12_feed_28 : decode cX12_feed 28 = .ok (.getfield 36, 3) := by decide +kernel
theorem dX12_feed_31 : decode cX12_feed 31 = .ok (.iconst 1, 1) := by decide +kernel
theorem dX12_feed_32 : decode cX12_feed 32 = .ok (.iload_n 2, 1) := by decide +kernel
theorem dX12_feed_33 : decode cX12_feed 33 = .ok (.iastore, 1) := by decide +kernel
theorem dX12_feed_34 : decode cX12_feed 34 = .ok (.aload_n 0, 1) := by decide +kernel
theorem dX12_feed_35 : decode cX12_feed 35 = .ok (.getfield 36, 3) := by decide +kernel
theorem dX12_feed_38 : decode cX12_feed 38 = .ok (.iconst 2, 1) := by decide +kernel
theorem dX12_feed_39 : decode cX12_feed 39 = .ok (.iload_n 3, 1) := by decide +kernel
theorem dX12_feed_40 : decode cX12_feed 40 = .ok (.iastore, 1) := by decide +kernel
theorem dX12_feed_41 : decode cX12_feed 41 = .ok (.aload_n 0, 1) := by decide +kernel
theorem dX12_feed_42 : decode cX12_feed 42 = .ok (.getfield 36, 3) := by decide +kernel
theorem dX12_feed_45 : decode cX12_feed 45 = .ok (.iconst 3, 1) := by decide +kernel
theorem dX12_feed_46 : decode cX12_feed 46 = .ok (.iload 4, 2) := by decide +kernel
theorem dX12_feed_48 : decode cX12_feed 48 = .ok (.iastore, 1) := by decide +kernel
theorem dX12_feed_49 : decode cX12_feed 49 = .ok (.aload_n 0, 1) := by decide +kernel
theorem dX12_feed_50 : decode cX12_feed 50 = .ok (.getfield 36, 3) := by decide +kernel
theorem dX12_feed_53 : decode cX12_feed 53 = .ok (.iconst 4, 1) := by decide +kernel
theorem dX12_feed_54 : decode cX12_feed 54 = .ok (.iload 5, 2) := by decide +kernel
theorem dX12_feed_56 : decode cX12_feed 56 = .ok (.iastore, 1) := by decide +kernel
theorem dX12_feed_57 : decode cX12_feed 57 = .ok (.iconst 0, 1) := by decide +kernel
theorem dX12_feed_58 : decode cX12_feed 58 = .ok (.istore 6, 2) := by decide +kernel
theorem dX12_feed_60 : decode cX12_feed 60 = .ok (.iload 6, 2) := by decide +kernel
theorem dX12_feed_62 : decode cX12_feed 62 = .ok (.bipush 20, 2) := by decide +kernel
theorem dX12_feed_64 : decode cX12_feed 64 = .ok (.if_icmp .ge 42, 3) := by decide +kernel
theorem dX12_feed_67 : decode cX12_feed 67 = .ok (.aload_n 0, 1) := by decide +kernel
theorem dX12_feed_68 : decode cX12_feed 68 = .ok (.getfield 29, 3) := by decide +kernel
theorem dX12_feed_71 : decode cX12_feed 71 = .ok (.aload_n 0, 1) := by decide +kernel
theorem dX12_feed_72 : decode cX12_feed 72 = .ok (.getfield 80, 3) := by decide +kernel
theorem dX12_feed_75 : decode cX12_feed 75 = .ok (.iload 6, 2) := by decide +kernel
theorem dX12_feed_77 : decode cX12_feed 77 = .ok (.iadd, 1) := by decide +kernel
theorem dX12_feed_78 : decode cX12_feed 78 = .ok (.aload_n 0, 1) := by decide +kernel
theorem dX12_feed_79 : decode cX12_feed 79 = .ok (.getfield 36, 3) := by decide +kernel
theorem dX12_feed_82 : decode cX12_feed 82 = .ok (.iload 6, 2) := by decide +kernel
theorem dX12_feed_84 : decode cX12_feed 84 = .ok (.iconst 4, 1) := by decide +kernel
theorem dX12_feed_85 : decode cX12_feed 85 = .ok (.idiv, 1) := by decide +kernel
theorem dX12_feed_86 : decode cX12_feed 86 = .ok (.iaload, 1) := by decide +kernel
theorem dX12_feed_87 : decode cX12_feed 87 = .ok (.bipush 24, 2) := by decide +kernel
theorem dX12_feed_89 : decode cX12_feed 89 = .ok (.bipush 8, 2) := by decide +kernel
theorem dX12_feed_91 : decode cX12_feed 91 = .ok (.iload 6, 2) := by decide +kernel
theorem dX12_feed_93 : decode cX12_feed 93 = .ok (.iconst 4, 1) := by decide +kernel
theorem dX12_feed_94 : decode cX12_feed 94 = .ok (.irem, 1) := by decide +kernel
theorem dX12_feed_95 : decode cX12_feed 95 = .ok (.imul, 1) := by decide +kernel
theorem dX12_feed_96 : decode cX12_feed 96 = .ok (.isub, 1) := by decide +kernel
theorem dX12_feed_97 : decode cX12_feed 97 = .ok (.ishr, 1) := by decide +kernel
theorem dX12_feed_98 : decode cX12_feed 98 = .ok (.i2b, 1) := by decide +kernel
theorem dX12_feed_99 : decode cX12_feed 99 = .ok (.bastore, 1) := by decide +kernel
theorem dX12_feed_100 : decode cX12_feed 100 = .ok (.iinc 6 1, 3) := by decide +kernel
theorem dX12_feed_103 : decode cX12_feed 103 = .ok (.goto (-43), 3) := by decide +kernel
theorem dX12_feed_106 : decode cX12_feed 106 = .ok (.aload_n 0, 1) := by decide +kernel
theorem dX12_feed_107 : decode cX12_feed 107 = .ok (.dup, 1) := by decide +kernel
theorem dX12_feed_108 : decode cX12_feed 108 = .ok (.getfield 80, 3) := by decide +kernel
theorem dX12_feed_111 : decode cX12_feed 111 = .ok (.bipush 20, 2) := by decide +kernel
theorem dX12_feed_113 : decode cX12_feed 113 = .ok (.iadd, 1) := by decide +kernel
theorem dX12_feed_114 : decode cX12_feed 114 = .ok (.putfield 80, 3) := by decide +kernel
theorem dX12_feed_117 : decode cX12_feed 117 = .ok (.aload_n 0, 1) := by decide +kernel
theorem dX12_feed_118 : decode cX12_feed 118 = .ok (.getfield 80, 3) := by decide +kernel
theorem dX12_feed_121 : decode cX12_feed 121 = .ok (.ireturn, 1) := by decide +kernel
set_option maxHeartbeats 4000000 in
set_option maxRecDepth 100000 in
theorem ct_X12_feed_f {E : xE} {z : Nat} {T : Nat → Nat × Int} {F : Nat → Nat → Int} {I : Nat → Int → Int} {P : Nat → Nat → Option Nat} {Y : Nat → Int → Option Nat} {m : Nat} {w : Int → Int} (hw : wM T P m){a1 a2 a3 a4 a5 : Int} (h9 : 0 ≤ F m 9 ∧ F m 9 ≤ 400) (hb : 400 < F m 9 + 20) : Ct E 0 mX12_feed 0 0 [.ref m, J a1, J a2, J a3, J a4, J a5] (z, T, F, upA I (m + 1) w, P, Y) (xd (some (J (-1))) (z, T, upF F m 0 0, upA I (m + 1) (w), P, Y)) := by
  obtain ⟨⟨q0, q1, q2, q3⟩, -⟩ := id hw
  refine Ct.of [some (.ref m), some (J a1), some (J a2), some (J a3), some (J a4), some (J a5), none] kt_X12_feed rfl (Nat.le_of_ble_eq_true rfl) rfl (fun d hd => ?_)
  generalize hX : xN E _ _ _ = X
  refine xg_aloadn 1 dX12_feed_0 rfl rfl rfl ?_
  refine xg_iconst 2 dX12_feed_1 rfl ?_
  refine xg_putI 5 kf_RX12_3 dX12_feed_2 rfl (by assumption) ?_
  refine xg_aloadn 6 dX12_feed_5 rfl rfl rfl ?_
  refine xg_getI 9 kf_RX12_80 dX12_feed_6 rfl (by assumption) ?_
  rw [upF_nk F m 0 0 (show 9 ≠ 0 by decide)]
  refine xg_bipush 11 dX12_feed_9 rfl (by decide) ?_
  refine xg_iadd 12 dX12_feed_11 rfl ?_
  refine xg_sipush 15 dX12_feed_12 rfl (by decide) ?_
  refine xg_icle 20 18 dX12_feed_15 rfl rfl (by first | omega | exact hR _ | exact ⟨hR _, by omega⟩ | exact ⟨by omega, hR _⟩ | exact ⟨hR _, hR _⟩) (fun hb15 => ?_) (fun hb15 => ?_)
  · exfalso; omega
  · skip
    refine xg_iconst 19 dX12_feed_18 rfl ?_
    subst hX
    exact xg_ireturn dX12_feed_19 rfl ⟨Nat.le_refl _, Nat.le_refl _⟩ ⟨rfl, rfl⟩

set_option maxHeartbeats 4000000 in
set_option maxRecDepth 100000 in
theorem ct_X12_feed {E : xE} {z : Nat} {T : Nat → Nat × Int} {F : Nat → Nat → Int} {I : Nat → Int → Int} {P : Nat → Nat → Option Nat} {Y : Nat → Int → Option Nat} {m : Nat} {w : Int → Int} (hw : wM T P m) {a1 a2 a3 a4 a5 : Int} (h9 : 0 ≤ F m 9 ∧ F m 9 ≤ 400)  (hb : F m 9 + 20 ≤ 400) : Ct E 0 mX12_feed 0 0 [.ref m, J a1, J a2, J a3, J a4, J a5] (z, T, F, upA I (m + 1) w, P, Y) (xFdd m z T F I w P Y (gFive a1 a2 a3 a4 a5)) := by
  obtain ⟨⟨q0, q1, q2, q3⟩, -⟩ := id hw
  obtain ⟨⟨q0, q1, q2, q3⟩, -, -, -, -, -, ⟨v1, v2, v3⟩, -⟩ := id hw
  have v4 : m + 7 ≠ m + 1 := by omega
  obtain ⟨⟨q0, q1, q2, q3⟩, -, -, -, -, ⟨y1, y2, y3⟩, -⟩ := id hw
  have y4 : m + 6 ≠ m + 1 := by omega
  refine Ct.of [some (.ref m), some (J a1), some (J a2), some (J a3), some (J a4), some (J a5), none] kt_X12_feed rfl (Nat.le_of_ble_eq_true rfl) rfl (fun d hd => ?_)
  generalize hX : xN E _ _ _ = X
  refine xg_aloadn 1 dX12_feed_0 rfl rfl rfl ?_
  refine xg_iconst 2 dX12_feed_1 rfl ?_
  refine xg_putI 5 kf_RX12_3 dX12_feed_2 rfl (by assumption) ?_
  refine xg_aloadn 6 dX12_feed_5 rfl rfl rfl ?_
  refine xg_getI 9 kf_RX12_80 dX12_feed_6 rfl (by assumption) ?_
  rw [upF_nk F m 0 0 (show 9 ≠ 0 by decide)]
  refine xg_bipush 11 dX12_feed_9 rfl (by decide) ?_
  refine xg_iadd 12 dX12_feed_11 rfl ?_
  refine xg_sipush 15 dX12_feed_12 rfl (by decide) ?_
  refine xg_icle 20 18 dX12_feed_15 rfl rfl (by first | omega | exact hR _ | exact ⟨hR _, by omega⟩ | exact ⟨by omega, hR _⟩ | exact ⟨hR _, hR _⟩) (fun hb15 => ?_) (fun hb15 => ?_)
  · skip
    refine xg_own (m + 7) (m + 1) ?_
    refine xg_aloadn 21 dX12_feed_20 rfl rfl rfl ?_
    refine xg_getP 24 kf_RX12_36 dX12_feed_21 rfl (by assumption) (by assumption) ?_
    refine xg_iconst 25 dX12_feed_24 rfl ?_
    refine xg_iloadn 26 dX12_feed_25 rfl rfl rfl ?_
    refine xg_iastU 27 dX12_feed_26 rfl ⟨v2, v4⟩ (by first | omega | exact hR _ | exact ⟨hR _, by omega⟩ | exact ⟨by omega, hR _⟩ | exact ⟨hR _, hR _⟩) ?_
    refine xg_aloadn 28 dX12_feed_27 rfl rfl rfl ?_
    refine xg_getP 31 kf_RX12_36 dX12_feed_28 rfl (by assumption) (by assumption) ?_
    refine xg_iconst 32 dX12_feed_31 rfl ?_
    refine xg_iloadn 33 dX12_feed_32 rfl rfl rfl ?_
    refine xg_iastU 34 dX12_feed_33 rfl ⟨v2, v4⟩ (by first | omega | exact hR _ | exact ⟨hR _, by omega⟩ | exact ⟨by omega, hR _⟩ | exact ⟨hR _, hR _⟩) ?_
    refine xg_aloadn 35 dX12_feed_34 rfl rfl rfl ?_
    refine xg_getP 38 kf_RX12_36 dX12_feed_35 rfl (by assumption) (by assumption) ?_
    refine xg_iconst 39 dX12_feed_38 rfl ?_
    refine xg_iloadn 40 dX12_feed_39 rfl rfl rfl ?_
    refine xg_iastU 41 dX12_feed_40 rfl ⟨v2, v4⟩ (by first | omega | exact hR _ | exact ⟨hR _, by omega⟩ | exact ⟨by omega, hR _⟩ | exact ⟨hR _, hR _⟩) ?_
    refine xg_aloadn 42 dX12_feed_41 rfl rfl rfl ?_
    refine xg_getP 45 kf_RX12_36 dX12_feed_42 rfl (by assumption) (by assumption) ?_
    refine xg_iconst 46 dX12_feed_45 rfl ?_
    refine xg_iload 48 dX12_feed_46 rfl rfl ?_
    refine xg_iastU 49 dX12_feed_48 rfl ⟨v2, v4⟩ (by first | omega | exact hR _ | exact ⟨hR _, by omega⟩ | exact ⟨by omega, hR _⟩ | exact ⟨hR _, hR _⟩) ?_
    refine xg_aloadn 50 dX12_feed_49 rfl rfl rfl ?_
    refine xg_getP 53 kf_RX12_36 dX12_feed_50 rfl (by assumption) (by assumption) ?_
    refine xg_iconst 54 dX12_feed_53 rfl ?_
    refine xg_iload 56 dX12_feed_54 rfl rfl ?_
    refine xg_iastU 57 dX12_feed_56 rfl ⟨v2, v4⟩ (by first | omega | exact hR _ | exact ⟨hR _, by omega⟩ | exact ⟨by omega, hR _⟩ | exact ⟨hR _, hR _⟩) ?_
    obtain ⟨u, hu, hg⟩ : ∃ u : Int → Int, (wS (wS (wS (wS (wS (I (m + 7)) 0 a1) 1 a2) 2 a3) 3 a4) 4 a5) = u ∧ ∀ k : Int, (0 ≤ k ∧ k ≤ 4) → u k = gFive a1 a2 a3 a4 a5 k := ⟨_, rfl, fun k hk => five_e _ _ _ _ _ _ k hk⟩
    rw [hu]
    refine xg_own (m + 6) (m + 1) ?_
    rw [upA_na I (m + 7) u (show m + 6 ≠ m + 7 by omega)]
    refine xg_iconst 58 dX12_feed_57 rfl ?_
    refine xg_istore 60 _ dX12_feed_58 rfl rfl (by decide) (Or.inr rfl) ?_
    have loop60 : ∀ (mm : Nat) (i : Nat), (i ≤ 20) → 20 - (i : Int) < (mm : Int) → xG E mX12_feed (xR d 0 0) X 60 [some (.ref m), some (J a1), some (J a2), some (J a3), some (J a4), some (J a5), some (J (i : Int))] [] (z, T, upF F m 0 0, upA (upA (upA I (m + 7) u) (m + 6) (sFdN (I (m + 6)) (F m 9) (gFive a1 a2 a3 a4 a5) (i : Int))) (m + 1) w, P, Y) 0 0 := by
      intro mm
      induction mm with
      | zero => intro i hi9 hm; exfalso; omega
      | succ mm ih =>
        intro i hi9 hm
        refine xg_iload 62 dX12_feed_60 rfl rfl ?_
        refine xg_bipush 64 dX12_feed_62 rfl (by decide) ?_
        refine xg_icge 106 67 dX12_feed_64 rfl rfl (by first | omega | exact hR _ | exact ⟨hR _, by omega⟩ | exact ⟨by omega, hR _⟩ | exact ⟨hR _, hR _⟩) (fun hb64 => ?_) (fun hb64 => ?_)
        · skip
          refine xg_aloadn 107 dX12_feed_106 rfl rfl rfl ?_
          refine xg_dup 108 dX12_feed_107 rfl rfl ?_
          refine xg_getI 111 kf_RX12_80 dX12_feed_108 rfl (by assumption) ?_
          rw [upF_nk F m 0 0 (show 9 ≠ 0 by decide)]
          refine xg_bipush 113 dX12_feed_111 rfl (by decide) ?_
          refine xg_iadd 114 dX12_feed_113 rfl ?_
          refine xg_putI 117 kf_RX12_80 dX12_feed_114 rfl (by assumption) ?_
          refine xg_aloadn 118 dX12_feed_117 rfl rfl rfl ?_
          refine xg_getI 121 kf_RX12_80 dX12_feed_118 rfl (by assumption) ?_
          rw [upF_at]
          subst hX
          exact xg_ireturn dX12_feed_121 rfl ⟨Nat.le_refl _, Nat.le_refl _⟩ ⟨rfl, upA I (m + 7) u, xScr.rf.up (by omega) u, by rw [show i = 20 by omega]; rfl⟩
        · skip
          refine xg_aloadn 68 dX12_feed_67 rfl rfl rfl ?_
          refine xg_getP 71 kf_RX12_29 dX12_feed_68 rfl (by assumption) (by assumption) ?_
          refine xg_aloadn 72 dX12_feed_71 rfl rfl rfl ?_
          refine xg_getI 75 kf_RX12_80 dX12_feed_72 rfl (by assumption) ?_
          rw [upF_nk F m 0 0 (show 9 ≠ 0 by decide)]
          refine xg_iload 77 dX12_feed_75 rfl rfl ?_
          refine xg_iadd 78 dX12_feed_77 rfl ?_
          refine xg_aloadn 79 dX12_feed_78 rfl rfl rfl ?_
          refine xg_getP 82 kf_RX12_36 dX12_feed_79 rfl (by assumption) (by assumption) ?_
          refine xg_iload 84 dX12_feed_82 rfl rfl ?_
          refine xg_iconst 85 dX12_feed_84 rfl ?_
          refine xg_idiv 86 dX12_feed_85 rfl (by first | omega | exact hR _ | exact ⟨hR _, by omega⟩ | exact ⟨by omega, hR _⟩ | exact ⟨hR _, hR _⟩) ?_
          refine xg_ialdV 87 dX12_feed_86 rfl ⟨v2, v4⟩ (by first | omega | exact hR _ | exact ⟨hR _, by omega⟩ | exact ⟨by omega, hR _⟩ | exact ⟨hR _, hR _⟩) ?_
          rw [upA_na _ _ _ (show m + 7 ≠ m + 6 by omega), upA_at, hg _ (by omega)]
          refine xg_bipush 89 dX12_feed_87 rfl (by decide) ?_
          refine xg_bipush 91 dX12_feed_89 rfl (by decide) ?_
          refine xg_iload 93 dX12_feed_91 rfl rfl ?_
          refine xg_iconst 94 dX12_feed_93 rfl ?_
          refine xg_irem 95 dX12_feed_94 rfl (by first | omega | exact hR _ | exact ⟨hR _, by omega⟩ | exact ⟨by omega, hR _⟩ | exact ⟨hR _, hR _⟩) ?_
          refine xg_imul 96 dX12_feed_95 rfl ?_
          refine xg_isub 97 dX12_feed_96 rfl ?_
          refine xg_ishr 98 dX12_feed_97 rfl ?_
          refine xg_i2b 99 dX12_feed_98 rfl ?_
          refine xg_bastU 100 dX12_feed_99 rfl ⟨y2, y4⟩ (by first | omega | exact hR _ | exact ⟨hR _, by omega⟩ | exact ⟨by omega, hR _⟩ | exact ⟨hR _, hR _⟩) (nar_i2b _) ?_
          refine xg_iinc 103 _ dX12_feed_100 rfl rfl rfl rfl (by decide) (Or.inr rfl) ?_
          refine xg_goto 60 dX12_feed_103 rfl ?_
          rw [sFd_s]
          exact xg_weak _ (xle_s rfl (xle_s rfl (xle_s rfl (xle_s rfl (xle_s rfl (xle_s rfl (xle_s rfl xle_0))))))) (ih (i + 1) (by omega) (by omega))
    have l0 := loop60 21 0 (by omega) (by omega)
    rw [show ((0 : Nat) : Int) = 0 from rfl, sFd_0] at l0
    exact xg_weak _ (xle_s rfl (xle_s rfl (xle_s rfl (xle_s rfl (xle_s rfl (xle_s rfl (xle_s rfl xle_0))))))) l0
  · exfalso; omega

