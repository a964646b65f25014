/-- the cells of the journal with a row noted, and its two counters -/
def iNote (F : Nat → Nat → Int) (I : Nat → Int → Int) (a : Nat) (x y v u : Int) : Nat → Int → Int := upI (upI (upI (upI I (a + 1) ((F a 4 + F a 5) % 60) x) (a + 2) ((F a 4 + F a 5) % 60) y) (a + 3) ((F a 4 + F a 5) % 60) v) (a + 4) ((F a 4 + F a 5) % 60) u
def fNote (F : Nat → Nat → Int) (a : Nat) : Nat → Nat → Int := if 60 ≤ F a 5 then upF F a 4 ((F a 4 + 1) % 60) else upF F a 5 (F a 5 + 1)
theorem dX2_note_0 : decode cX2_note 0 = .ok (.aload_n 0, 1) := by decide +kernel
theorem dX2_note_1 : decode cX2_note 1 = .ok (.getfield 24, 3) := by decide +kernel
theorem dX2_note_4 : decode cX2_note 4 = .ok (.aload_n 0, 1) := by decide +kernel
theorem dX2_note_5 : decode cX2_note 5 = .ok (.getfield 28, 3) := by decide +kernel
theorem dX2_note_8 : decode cX2_note 8 = .ok (.iadd, 1) := by decide +kernel
theorem dX2_note_9 : decode cX2_note 9 = .ok (.bipush 60, 2) := by decide +kernel
theorem dX2_note_11 : decode cX2_note 11 = .ok (.irem, 1) := by decide +kernel
theorem dX2_note_12 : decode cX2_note 12 = .ok (.istore 5, 2) := by decide +kernel
theorem dX2_note_14 : decode cX2_note 14 = .ok (.iload 5, 2) := by decide +kernel
theorem dX2_note_16 : decode cX2_note 16 = .ok (.ifCond .ge 4, 3) := by decide +kernel
theorem dX2_note_19 : decode cX2_note 19 = .ok (.return_, 1) := by decide +kernel
theorem dX2_note_20 : decode cX2_note 20 = .ok (.aload_n 0, 1) := by decide +kernel
theorem dX2_note_21 : decode cX2_note 21 = .ok (.getfield 9, 3) := by decide +kernel
theorem dX2_note_24 : decode cX2_note 24 = .ok (.iload 5, 2) := by decide +kernel
theorem dX2_note_26 : decode cX2_note 26 = .ok (.iload_n 1, 1) := by decide +kernel
theorem dX2_note_27 : decode cX2_note 27 = .ok (.iastore, 1) := by decide +kernel
theorem dX2_note_28 : decode cX2_note 28 = .ok (.aload_n 0, 1) := by decide +kernel
theorem dX2_note_29 : decode cX2_note 29 = .ok (.getfield 15, 3) := by decide +kernel
theorem dX2_note_32 : decode cX2_note 32 = .ok (.iload 5, 2) := by decide +kernel
theorem dX2_note_34 : decode cX2_note 34 = .ok (.iload_n 2, 1) := by decide +kernel
theorem dX2_note_35 : decode cX2_note 35 = .ok (.iastore, 1) := by decide +kernel
theorem dX2_note_36 : decode cX2_note 36 = .ok (.aload_n 0, 1) := by decide +kernel
theorem dX2_note_37 : decode cX2_note 37 = .ok (.getfield 18, 3) := by decide +kernel
theorem dX2_note_40 : decode cX2_note 40 = .ok (.iload 5, 2) := by decide +kernel
theorem dX2_note_42 : decode cX2_note 42 = .ok (.iload_n 3, 1) := by decide +kernel
theorem dX2_note_43 : decode cX2_note 43 = .ok (.iastore, 1) := by decide +kernel
theorem dX2_note_44 : decode cX2_note 44 = .ok (.aload_n 0, 1) := by decide +kernel
theorem dX2_note_45 : decode cX2_note 45 = .ok (.getfield 21, 3) := by decide +kernel
theorem dX2_note_48 : decode cX2_note 48 = .ok (.iload 5, 2) := by decide +kernel
theorem dX2_note_50 : decode cX2_note 50 = .ok (.iload 4, 2) := by decide +kernel
theorem dX2_note_52 : decode cX2_note 52 = .ok (.iastore, 1) := by decide +kernel
theorem dX2_note_53 : decode cX2_note 53 = .ok (.aload_n 0, 1) := by decide +kernel
theorem dX2_note_54 : decode cX2_note 54 = .ok (.getfield 28, 3) := by decide +kernel
theorem dX2_note_57 : decode cX2_note 57 = .ok (.bipush 60, 2) := by decide +kernel
theorem dX2_note_59 : decode cX2_note 59 = .ok (.if_icmp .ge 16, 3) := by decide +kernel
theorem dX2_note_62 : decode cX2_note 62 = .ok (.aload_n 0, 1) := by decide +kernel
theorem dX2_note_63 : decode cX2_note 63 = .ok (.dup, 1) := by decide +kernel
theorem dX2_note_64 : decode cX2_note 64 = .ok (.getfield 28, 3) := by decide +kernel
theorem dX2_note_67 : decode cX2_note 67 = .ok (.iconst 1, 1) := by decide +kernel
theorem dX2_note_68 : decode cX2_note 68 = .ok (.iadd, 1) := by decide +kernel
theorem dX2_note_69 : decode cX2_note 69 = .ok (.putfield 28, 3) := by decide +kernel
theorem dX2_note_72 : decode cX2_note 72 = .ok (.goto 16, 3) := by decide +kernel
theorem dX2_note_75 : decode cX2_note 75 = .ok (.aload_n 0, 1) := by decide +kernel
theorem dX2_note_76 : decode cX2_note 76 = .ok (.aload_n 0, 1) := by decide +kernel
theorem dX2_note_77 : decode cX2_note 77 = .ok (.getfield 24, 3) := by decide +kernel
theorem dX2_note_80 : decode cX2_note 80 = .ok (.iconst 1, 1) := by decide +kernel
theorem dX2_note_81 : decode cX2_note 81 = .ok (.iadd, 1) := by decide +kernel
theorem dX2_note_82 : decode cX2_note 82 = .ok (.bipush 60, 2) := by decide +kernel
theorem dX2_note_84 : decode cX2_note 84 = .ok (.irem, 1) := by decide +kernel
theorem dX2_note_85 : decode cX2_note 85 = .ok (.putfield 24, 3) := by decide +kernel
theorem dX2_note_88 : decode cX2_note 88 = .ok (.return_, 1) := by decide +kernel
set_option maxHeartbeats 4000000 in
set_option maxRecDepth 100000 in
theorem ct_X2_note {E : xE} {z : Nat} {T : Nat → Nat × Int} {F : Nat → Nat → Int} {I : Nat → Int → Int} {P : Nat → Nat → Option Nat} {Y : Nat → Int → Option Nat} {a : Nat} {x y v u : Int} (hw : wJou T P a) (h4 : 0 ≤ F a 4 ∧ F a 4 < 60) (h5 : 0 ≤ F a 5 ∧ F a 5 ≤ 60) : Ct E 0 mX2_note 0 0 [.ref a, J x, J y, J v, J u] (z, T, F, I, P, Y) (xd none (z, T, fNote F a, iNote F I a x y v u, P, Y)) := by
  obtain ⟨w0, ⟨p0, p1, p2, p3⟩, ⟨a1, b1⟩, ⟨a2, b2⟩, ⟨a3, b3⟩, a4, b4⟩ := id hw
  refine Ct.of [some (.ref a), some (J x), some (J y), some (J v), some (J u), none] kt_X2_note rfl (Nat.le_of_ble_eq_true rfl) rfl (fun d hd => ?_)
  generalize hX : xN E _ _ _ = X
  refine xg_aloadn 1 dX2_note_0 rfl rfl rfl ?_
  refine xg_getI 4 kf_RX2_24 dX2_note_1 rfl (by assumption) ?_
  refine xg_aloadn 5 dX2_note_4 rfl rfl rfl ?_
  refine xg_getI 8 kf_RX2_28 dX2_note_5 rfl (by assumption) ?_
  refine xg_iadd 9 dX2_note_8 rfl ?_
  refine xg_bipush 11 dX2_note_9 rfl (by decide) ?_
  refine xg_irem 12 dX2_note_11 rfl (by omega) ?_
  refine xg_istore 14 _ dX2_note_12 rfl rfl (by decide) (Or.inr rfl) ?_
  refine xg_iload 16 dX2_note_14 rfl rfl ?_
  refine xg_ifge 20 19 dX2_note_16 rfl rfl (by omega) (fun hb16 => ?_) (fun hb16 => ?_)
  · skip
    refine xg_aloadn 21 dX2_note_20 rfl rfl rfl ?_
    refine xg_getP 24 kf_RX2_9 dX2_note_21 rfl (by assumption) (by assumption) ?_
    refine xg_iload 26 dX2_note_24 rfl rfl ?_
    refine xg_iloadn 27 dX2_note_26 rfl rfl rfl ?_
    refine xg_iast 28 dX2_note_27 rfl (by assumption) (by omega) ?_
    refine xg_aloadn 29 dX2_note_28 rfl rfl rfl ?_
    refine xg_getP 32 kf_RX2_15 dX2_note_29 rfl (by assumption) (by assumption) ?_
    refine xg_iload 34 dX2_note_32 rfl rfl ?_
    refine xg_iloadn 35 dX2_note_34 rfl rfl rfl ?_
    refine xg_iast 36 dX2_note_35 rfl (by assumption) (by omega) ?_
    refine xg_aloadn 37 dX2_note_36 rfl rfl rfl ?_
    refine xg_getP 40 kf_RX2_18 dX2_note_37 rfl (by assumption) (by assumption) ?_
    refine xg_iload 42 dX2_note_40 rfl rfl ?_
    refine xg_iloadn 43 dX2_note_42 rfl rfl rfl ?_
    refine xg_iast 44 dX2_note_43 rfl (by assumption) (by omega) ?_
    refine xg_aloadn 45 dX2_note_44 rfl rfl rfl ?_
    refine xg_getP 48 kf_RX2_21 dX2_note_45 rfl (by assumption) (by assumption) ?_
    refine xg_iload 50 dX2_note_48 rfl rfl ?_
    refine xg_iload 52 dX2_note_50 rfl rfl ?_
    refine xg_iast 53 dX2_note_52 rfl (by assumption) (by omega) ?_
    refine xg_aloadn 54 dX2_note_53 rfl rfl rfl ?_
    refine xg_getI 57 kf_RX2_28 dX2_note_54 rfl (by assumption) ?_
    refine xg_bipush 59 dX2_note_57 rfl (by decide) ?_
    refine xg_icge 75 62 dX2_note_59 rfl rfl (by omega) (fun hb59 => ?_) (fun hb59 => ?_)
    · skip
      refine xg_aloadn 76 dX2_note_75 rfl rfl rfl ?_
      refine xg_aloadn 77 dX2_note_76 rfl rfl rfl ?_
      refine xg_getI 80 kf_RX2_24 dX2_note_77 rfl (by assumption) ?_
      refine xg_iconst 81 dX2_note_80 rfl ?_
      refine xg_iadd 82 dX2_note_81 rfl ?_
      refine xg_bipush 84 dX2_note_82 rfl (by decide) ?_
      refine xg_irem 85 dX2_note_84 rfl (by omega) ?_
      refine xg_putI 88 kf_RX2_24 dX2_note_85 rfl (by assumption) ?_
      subst hX
      exact xg_return dX2_note_88 rfl ⟨Nat.le_refl _, Nat.le_refl _⟩ ⟨rfl, by unfold fNote; rw [if_pos (by omega)]; rfl⟩
    · skip
      refine xg_aloadn 63 dX2_note_62 rfl rfl rfl ?_
      refine xg_dup 64 dX2_note_63 rfl rfl ?_
      refine xg_getI 67 kf_RX2_28 dX2_note_64 rfl (by assumption) ?_
      refine xg_iconst 68 dX2_note_67 rfl ?_
      refine xg_iadd 69 dX2_note_68 rfl ?_
      refine xg_putI 72 kf_RX2_28 dX2_note_69 rfl (by assumption) ?_
      refine xg_goto 88 dX2_note_72 rfl ?_
      subst hX
      exact xg_return dX2_note_88 rfl ⟨Nat.le_refl _, Nat.le_refl _⟩ ⟨rfl, by unfold fNote; rw [if_neg (by omega)]; rfl⟩
  · exfalso; omega

