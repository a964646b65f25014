def sOld (w : Int → Int) : Nat → Int
  | 0 => -1
  | r + 1 => if wInp w r = true then (r : Int) else sOld w r
def sEs (o n0 : Int) (r : Nat) (p : (Int → Int) × Nat) : (Int → Int) × Nat :=
  if (r : Int) = o ∧ 0 < n0 then
    (wC (wS (if wInp p.1 r = true then p.1 else wC p.1 (199 + 122 * (r : Int)) (199 + 122 * (p.2 : Int)) 122) (199 + 122 * (p.2 : Int)) ((if wInp p.1 r = true then p.1 else wC p.1 (199 + 122 * (r : Int)) (199 + 122 * (p.2 : Int)) 122) 17)) 79 (201 + 122 * (p.2 : Int)) 120, p.2 + 1)
  else if wInp p.1 r = true then p else (wC p.1 (199 + 122 * (r : Int)) (199 + 122 * (p.2 : Int)) 122, p.2 + 1)
def sEn (o n0 : Int) (w : Int → Int) : Nat → (Int → Int) × Nat
  | 0 => (w, 0)
  | r + 1 => sEs o n0 r (sEn o n0 w r)
theorem sEn_ok (o n0 : Int) {w : Int → Int} (h : wOk w) : ∀ r : Nat, (r : Int) ≤ w 0 → wOk (sEn o n0 w r).1 ∧ (sEn o n0 w r).2 ≤ r ∧ (sEn o n0 w r).1 0 = w 0
  | 0, _ => ⟨h, Nat.le_refl _, rfl⟩
  | r + 1, hr => by
    obtain ⟨h1, h2, h3⟩ := sEn_ok o n0 h r (by omega)
    have o0 := h.2.1
    rw [sEn]
    generalize sEn o n0 w r = p at h1 h2 h3
    have h17 := h1.2.2.2.2.2.2.2.2.2.2.2.2.1
    have c1 : wOk (wC p.1 (199 + 122 * (r : Int)) (199 + 122 * (p.2 : Int)) 122) := wOk_C h1 _ _ _ (by omega) (by omega)
    have c2 : wC p.1 (199 + 122 * (r : Int)) (199 + 122 * (p.2 : Int)) 122 0 = w 0 := by rw [← h3]; exact if_neg (by omega)
    have c3 : wC p.1 (199 + 122 * (r : Int)) (199 + 122 * (p.2 : Int)) 122 17 = p.1 17 := if_neg (by omega)
    have key : ∀ W : Int → Int, wOk W → W 0 = w 0 → W 17 = p.1 17 → wOk (wC (wS W (199 + 122 * (p.2 : Int)) (W 17)) 79 (201 + 122 * (p.2 : Int)) 120) ∧ wC (wS W (199 + 122 * (p.2 : Int)) (W 17)) 79 (201 + 122 * (p.2 : Int)) 120 0 = w 0 := by
      intro W hW hW0 hW17
      refine ⟨wOk_C (wOk_S hW _ _ (by rw [hW17]; unfold wCell; omega)) _ _ _ (by omega) (by omega), ?_⟩
      rw [show wC (wS W (199 + 122 * (p.2 : Int)) (W 17)) 79 (201 + 122 * (p.2 : Int)) 120 0 = wS W (199 + 122 * (p.2 : Int)) (W 17) 0 from if_neg (by omega), wS_ne _ _ _ (by omega), hW0]
    unfold sEs
    split
    · split
      · have := key p.1 h1 h3 rfl
        exact ⟨this.1, by show p.2 + 1 ≤ r + 1; omega, this.2⟩
      · have := key _ c1 c2 c3
        exact ⟨this.1, by show p.2 + 1 ≤ r + 1; omega, this.2⟩
    · split
      · exact ⟨h1, by omega, h3⟩
      · exact ⟨c1, by show p.2 + 1 ≤ r + 1; omega, c2⟩
theorem sEs_a {o n0 : Int} {r : Nat} {p : (Int → Int) × Nat} (h : ¬ ((r : Int) = o ∧ 0 < n0)) (hi : wInp p.1 r = true) : sEs o n0 r p = p := by unfold sEs; rw [if_neg h, if_pos hi]
theorem sEs_b {o n0 : Int} {r : Nat} {p : (Int → Int) × Nat} (h : ¬ ((r : Int) = o ∧ 0 < n0)) (hi : wInp p.1 r = false) : sEs o n0 r p = (wC p.1 (199 + 122 * (r : Int)) (199 + 122 * (p.2 : Int)) 122, p.2 + 1) := by unfold sEs; rw [if_neg h, if_neg (by rw [hi]; decide)]
theorem sEs_c {o n0 : Int} {r : Nat} {p : (Int → Int) × Nat} (h : (r : Int) = o ∧ 0 < n0) (hi : wInp p.1 r = true) : sEs o n0 r p = (wC (wS p.1 (199 + 122 * (p.2 : Int)) (p.1 17)) 79 (201 + 122 * (p.2 : Int)) 120, p.2 + 1) := by unfold sEs; rw [if_pos h, if_pos hi]
theorem sEs_d {o n0 : Int} {r : Nat} {p : (Int → Int) × Nat} (h : (r : Int) = o ∧ 0 < n0) (hi : wInp p.1 r = false) : sEs o n0 r p = (wC (wS (wC p.1 (199 + 122 * (r : Int)) (199 + 122 * (p.2 : Int)) 122) (199 + 122 * (p.2 : Int)) (wC p.1 (199 + 122 * (r : Int)) (199 + 122 * (p.2 : Int)) 122 17)) 79 (201 + 122 * (p.2 : Int)) 120, p.2 + 1) := by unfold sEs; rw [if_pos h, if_neg (by rw [hi]; decide)]
def sEnW (w : Int → Int) : Int → Int := sTold w 2 (w 17) (sEnt w 79)
def sEnP (w : Int → Int) : (Int → Int) × Nat := sEn (sOld (sEnW w) (wN w)) (sEnt w 79) (sEnW w) (wN w)
def sEnds (w : Int → Int) : Int → Int := sNoMore (wS (sEnP w).1 0 ((sEnP w).2 : Int))
theorem wOk_enW {w : Int → Int} (h : wOk w) : wOk (sEnW w) := by
  have h1 := sEnt_bd w 79
  exact wOk_told h (by omega) (h.1 17) (by omega)
theorem sEnW_0 (w : Int → Int) : sEnW w 0 = w 0 := sTold_lo _ _ _ _ (by omega) (by omega)
theorem wOk_ends {w : Int → Int} (h : wOk w) : wOk (sEnds w) := by
  have o0 := h.2.1
  have hN := wN_i o0.1
  obtain ⟨h1, h2, h3⟩ := sEn_ok (sOld (sEnW w) (wN w)) (sEnt w 79) (wOk_enW h) (wN w) (by rw [sEnW_0]; omega)
  refine wOk_nomore (wOk_S h1 0 _ ?_)
  unfold wCell; unfold sEnP; omega
theorem sOld_bd {w : Int → Int} : ∀ r : Nat, -1 ≤ sOld w r ∧ sOld w r < r
  | 0 => by simp [sOld]
  | r + 1 => by
    have := sOld_bd (w := w) r
    rw [sOld]
    split <;> omega
theorem dX12_ends_0 : decode cX12_ends 0 = .ok (.aload_n 0, 1) := by decide +kernel
theorem dX12_ends_1 : decode cX12_ends 1 = .ok (.bipush 79, 2) := by decide +kernel
theorem dX12_ends_3 : decode cX12_ends 3 = .ok (.invokevirtual 268, 3) := by decide +kernel
theorem dX12_ends_6 : decode cX12_ends 6 = .ok (.istore_n 1, 1) := by decide +kernel
theorem dX12_ends_7 : decode cX12_ends 7 = .ok (.aload_n 0, 1) := by decide +kernel
theorem dX12_ends_8 : decode cX12_ends 8 = .ok (.iconst 2, 1) := by decide +kernel
theorem dX12_ends_9 : decode cX12_ends 9 = .ok (.aload_n 0, 1) := by decide +kernel
theorem dX12_ends_10 : decode cX12_ends 10 = .ok (.getfield 13, 3) := by decide +kernel
theorem dX12_ends_13 : decode cX12_ends 13 = .ok (.bipush 17, 2) := by decide +kernel
theorem dX12_ends_15 : decode cX12_ends 15 = .ok (.iaload, 1) := by decide +kernel
theorem dX12_ends_16 : decode cX12_ends 16 = .ok (.iload_n 1, 1) := by decide +kernel
theorem dX12_ends_17 : decode cX12_ends 17 = .ok (.invokevirtual 312, 3) := by decide +kernel
theorem dX12_ends_20 : decode cX12_ends 20 = .ok (.iconst (-1), 1) := by decide +kernel
theorem dX12_ends_21 : decode cX12_ends 21 = .ok (.istore_n 2, 1) := by decide +kernel
theorem dX12_ends_22 : decode cX12_ends 22 = .ok (.iconst 0, 1) := by decide +kernel
theorem dX12_ends_23 : decode cX12_ends 23 = .ok (.istore_n 3, 1) := by decide +kernel
theorem dX12_ends_24 : decode cX12_ends 24 = .ok (.iload_n 3, 1) := by decide +kernel
theorem dX12_ends_25 : decode cX12_ends 25 = .ok (.aload_n 0, 1) := by decide +kernel
theorem dX12_ends_26 : decode cX12_ends 26 = .ok (.invokevirtual 66, 3) := by decide +kernel
theorem dX12_ends_29 : decode cX12_ends 29 = .ok (.if_icmp .ge 23, 3) := by decide +kernel
theorem dX12_ends_32 : decode cX12_ends 32 = .ok (.aload_n 0, 1) := by decide +kernel
theorem dX12_ends_33 : decode cX12_ends 33 = .ok (.iload_n 3, 1) := by decide +kernel
theorem dX12_ends_34 : decode cX12_ends 34 = .ok (.invokevirtual 290, 3) := by decide +kernel
theorem dX12_ends_37 : decode cX12_ends 37 = .ok (.ifCond .eq 7, 3) := by decide +kernel
theorem dX12_ends_40 : decode cX12_ends 40 = .ok (.iload_n 3, 1) := by decide +kernel
theorem dX12_ends_41 : decode cX12_ends 41 = .ok (.goto 4, 3) := by decide +kernel
theorem dX12_ends_44 : decode cX12_ends 44 = .ok (.iload_n 2, 1) := by decide +kernel
theorem dX12_ends_45 : decode cX12_ends 45 = .ok (.istore_n 2, 1) := by decide +kernel
theorem dX12_ends_46 : decode cX12_ends 46 = .ok (.iinc 3 1, 3) := by decide +kernel
theorem dX12_ends_49 : decode cX12_ends 49 = .ok (.goto (-25), 3) := by decide +kernel
theorem dX12_ends_52 : decode cX12_ends 52 = .ok (.iconst 0, 1) := by decide +kernel
theorem dX12_ends_53 : decode cX12_ends 53 = .ok (.istore_n 3, 1) := by decide +kernel
theorem dX12_ends_54 : decode cX12_ends 54 = .ok (.iconst 0, 1) := by decide +kernel
theorem dX12_ends_55 : decode cX12_ends 55 = .ok (.istore 4, 2) := by decide +kernel
theorem dX12_ends_57 : decode cX12_ends 57 = .ok (.iload 4, 2) := by decide +kernel
theorem dX12_ends_59 : decode cX12_ends 59 = .ok (.aload_n 0, 1) := by decide +kernel
theorem dX12_ends_60 : decode cX12_ends 60 = .ok (.invokevirtual 66, 3) := by decide +kernel
theorem dX12_ends_63 : decode cX12_ends 63 = .ok (.if_icmp .ge 102, 3) := by decide +kernel
theorem dX12_ends_66 : decode cX12_ends 66 = .ok (.aload_n 0, 1) := by decide +kernel
theorem dX12_ends_67 : decode cX12_ends 67 = .ok (.iload 4, 2) := by decide +kernel
theorem dX12_ends_69 : decode cX12_ends 69 = .ok (.invokevirtual 290, 3) := by decide +kernel
theorem dX12_ends_72 : decode cX12_ends 72 = .ok (.ifCond .ne 7, 3) := by decide +kernel
theorem dX12_ends_75 : decode cX12_ends 75 = .ok (.iconst 1, 1) := by decide +kernel
theorem dX12_ends_76 : decode cX12_ends 76 = .ok (.goto 4, 3) := by decide +kernel
theorem dX12_ends_79 : decode cX12_ends 79 = .ok (.iconst 0, 1) := by decide +kernel
theorem dX12_ends_80 : decode cX12_ends 80 = .ok (.istore 5, 2) := by decide +kernel
theorem dX12_ends_82 : decode cX12_ends 82 = .ok (.iload 5, 2) := by decide +kernel
theorem dX12_ends_84 : decode cX12_ends 84 = .ok (.ifCond .eq 20, 3) := by decide +kernel
theorem dX12_ends_87 : decode cX12_ends 87 = .ok (.aload_n 0, 1) := by decide +kernel
theorem dX12_ends_88 : decode cX12_ends 88 = .ok (.iload 4, 2) := by decide +kernel
theorem dX12_ends_90 : decode cX12_ends 90 = .ok (.iconst 0, 1) := by decide +kernel
theorem dX12_ends_91 : decode cX12_ends 91 = .ok (.invokestatic 62, 3) := by decide +kernel
theorem dX12_ends_94 : decode cX12_ends 94 = .ok (.iload_n 3, 1) := by decide +kernel
theorem dX12_ends_95 : decode cX12_ends 95 = .ok (.iconst 0, 1) := by decide +kernel
theorem dX12_ends_96 : decode cX12_ends 96 = .ok (.invokestatic 62, 3) := by decide +kernel
theorem dX12_ends_99 : decode cX12_ends 99 = .ok (.bipush 122, 2) := by decide +kernel
theorem dX12_ends_101 : decode cX12_ends 101 = .ok (.invokevirtual 318, 3) := by decide +kernel
theorem dX12_ends_104 : decode cX12_ends 104 = .ok (.iload 4, 2) := by decide +kernel
theorem dX12_ends_106 : decode cX12_ends 106 = .ok (.iload_n 2, 1) := by decide +kernel
theorem dX12_ends_107 : decode cX12_ends 107 = .ok (.if_icmp .ne 39, 3) := by decide +kernel
theorem dX12_ends_110 : decode cX12_ends 110 = .ok (.iload_n 1, 1) := by decide +kernel
theorem dX12_ends_111 : decode cX12_ends 111 = .ok (.ifCond .le 35, 3) := by decide +kernel
theorem dX12_ends_114 : decode cX12_ends 114 = .ok (.aload_n 0, 1) := by decide +kernel
theorem dX12_ends_115 : decode cX12_ends 115 = .ok (.getfield 13, 3) := by decide +kernel
theorem dX12_ends_118 : decode cX12_ends 118 = .ok (.iload_n 3, 1) := by decide +kernel
theorem dX12_ends_119 : decode cX12_ends 119 = .ok (.iconst 0, 1) := by decide +kernel
theorem dX12_ends_120 : decode cX12_ends 120 = .ok (.invokestatic 62, 3) := by decide +kernel
theorem dX12_ends_123 : decode cX12_ends 123 = .ok (.aload_n 0, 1) := by decide +kernel
theorem dX12_ends_124 : decode cX12_ends 124 = .ok (.getfield 13, 3) := by decide +kernel
theorem dX12_ends_127 : decode cX12_ends 127 = .ok (.bipush 17, 2) := by decide +kernel
theorem dX12_ends_129 : decode cX12_ends 129 = .ok (.iaload, 1) := by decide +kernel
theorem dX12_ends_130 : decode cX12_ends 130 = .ok (.iastore, 1) := by decide +kernel
theorem dX12_ends_131 : decode cX12_ends 131 = .ok (.aload_n 0, 1) := by decide +kernel
theorem dX12_ends_132 : decode cX12_ends 132 = .ok (.bipush 79, 2) := by decide +kernel
theorem dX12_ends_134 : decode cX12_ends 134 = .ok (.iload_n 3, 1) := by decide +kernel
theorem dX12_ends_135 : decode cX12_ends 135 = .ok (.invokestatic 133, 3) := by decide +kernel
theorem dX12_ends_138 : decode cX12_ends 138 = .ok (.bipush 120, 2) := by decide +kernel
theorem dX12_ends_140 : decode cX12_ends 140 = .ok (.invokevirtual 318, 3) := by decide +kernel
theorem dX12_ends_143 : decode cX12_ends 143 = .ok (.iconst 1, 1) := by decide +kernel
theorem dX12_ends_144 : decode cX12_ends 144 = .ok (.istore 5, 2) := by decide +kernel
theorem dX12_ends_146 : decode cX12_ends 146 = .ok (.iload_n 3, 1) := by decide +kernel
theorem dX12_ends_147 : decode cX12_ends 147 = .ok (.iload 5, 2) := by decide +kernel
theorem dX12_ends_149 : decode cX12_ends 149 = .ok (.ifCond .eq 7, 3) := by decide +kernel
theorem dX12_ends_152 : decode cX12_ends 152 = .ok (.iconst 1, 1) := by decide +kernel
theorem dX12_ends_153 : decode cX12_ends 153 = .ok (.goto 4, 3) := by decide +kernel
theorem dX12_ends_156 : decode cX12_ends 156 = .ok (.iconst 0, 1) := by decide +kernel
theorem dX12_ends_157 : decode cX12_ends 157 = .ok (.iadd, 1) := by decide +kernel
theorem dX12_ends_158 : decode cX12_ends 158 = .ok (.istore_n 3, 1) := by decide +kernel
theorem dX12_ends_159 : decode cX12_ends 159 = .ok (.iinc 4 1, 3) := by decide +kernel
theorem dX12_ends_162 : decode cX12_ends 162 = .ok (.goto (-105), 3) := by decide +kernel
theorem dX12_ends_165 : decode cX12_ends 165 = .ok (.aload_n 0, 1) := by decide +kernel
theorem dX12_ends_166 : decode cX12_ends 166 = .ok (.getfield 13, 3) := by decide +kernel
theorem dX12_ends_169 : decode cX12_ends 169 = .ok (.iconst 0, 1) := by decide +kernel
theorem dX12_ends_170 : decode cX12_ends 170 = .ok (.iload_n 3, 1) := by decide +kernel
theorem dX12_ends_171 : decode cX12_ends 171 = .ok (.iastore, 1) := by decide +kernel
theorem dX12_ends_172 : decode cX12_ends 172 = .ok (.aload_n 0, 1) := by decide +kernel
theorem dX12_ends_173 : decode cX12_ends 173 = .ok (.invokevirtual 315, 3) := by decide +kernel
theorem dX12_ends_176 : decode cX12_ends 176 = .ok (.return_, 1) := by decide +kernel
set_option maxHeartbeats 4000000 in
set_option maxRecDepth 100000 in
theorem ct_X12_ends {E : xE} {z : Nat} {T : Nat → Nat × Int} {F : Nat → Nat → Int} {I : Nat → Int → Int} {P : Nat → Nat → Option Nat} {Y : Nat → Int → Option Nat} {m : Nat} {w : Int → Int} (hw : wM T P m) (hO : wOk w) : Ct E 3 mX12_ends 0 0 [.ref m] (z, T, F, upA I (m + 1) w, P, Y) (xd none (z, T, F, upA I (m + 1) (sEnds w), P, Y)) := by
  obtain ⟨⟨q0, q1, q2, q3⟩, -⟩ := id hw
  obtain ⟨hR, o0, o1, o2, o3, o4, o5, o6, oc, o13, o14, o16, o17, o18, ov⟩ := id hO
  have hN := wN_i o0.1
  have heb := sEnt_bd w 79
  have hOW := wOk_enW hO
  have hW0 := sEnW_0 w
  have hob := sOld_bd (w := sEnW w) (wN w)
  refine Ct.of [some (.ref m), none, none, none, none, none] kt_X12_ends rfl (Nat.le_of_ble_eq_true rfl) rfl (fun d hd => ?_)
  generalize hX : xN E _ _ _ = X
  refine xg_aloadn 1 dX12_ends_0 rfl rfl rfl ?_
  refine xg_bipush 3 dX12_ends_1 rfl (by decide) ?_
  refine xg_callV 6 12 [_] _ kv_X12_entriesOf ⟨_, _, rfl⟩ kl_RX12_268 dX12_ends_3 rfl (by assumption) (by omega) rfl rfl (Nat.le_of_ble_eq_true rfl) (by omega) ⟨Nat.le_refl _, Nat.le_refl _⟩ (ct_X12_entriesOf hw hR (by omega)) rfl ?_
  refine xg_istoren 7 _ dX12_ends_6 rfl rfl rfl (by decide) (Or.inr rfl) ?_
  refine xg_aloadn 8 dX12_ends_7 rfl rfl rfl ?_
  refine xg_iconst 9 dX12_ends_8 rfl ?_
  refine xg_aloadn 10 dX12_ends_9 rfl rfl rfl ?_
  refine xg_getP 13 kf_RX12_13 dX12_ends_10 rfl (by assumption) (by assumption) ?_
  refine xg_bipush 15 dX12_ends_13 rfl (by decide) ?_
  refine xg_ialdW 16 dX12_ends_15 rfl (by assumption) (by first | omega | exact hR _ | exact ⟨hR _, by omega⟩ | exact ⟨by omega, hR _⟩ | exact ⟨hR _, hR _⟩) ?_
  refine xg_iloadn 17 dX12_ends_16 rfl rfl rfl ?_
  refine xg_callV 20 12 [_, _, _] _ kv_X12_isTold ⟨_, _, rfl⟩ kl_RX12_312 dX12_ends_17 rfl (by assumption) (by omega) rfl rfl (Nat.le_of_ble_eq_true rfl) (by omega) ⟨Nat.le_refl _, Nat.le_refl _⟩ (ct_X12_isTold hw hO (by omega) (by omega) (by omega)) rfl ?_
  refine xg_iconst 21 dX12_ends_20 rfl ?_
  refine xg_istoren 22 _ dX12_ends_21 rfl rfl rfl (by decide) (Or.inr rfl) ?_
  refine xg_iconst 23 dX12_ends_22 rfl ?_
  refine xg_istoren 24 _ dX12_ends_23 rfl rfl rfl (by decide) (Or.inr rfl) ?_
  have loop24 : ∀ (mm : Nat) (r : Nat), ((r : Int) ≤ w 0) → w 0 - r < (mm : Int) → xG E mX12_ends (xR d 0 0) X 24 [some (.ref m), some (J (sEnt w 79)), some (J (sOld (sEnW w) r)), some (J (r : Int)), none, none] [] (z, T, F, upA I (m + 1) (sEnW w), P, Y) 0 0 := by
    intro mm
    induction mm with
    | zero => intro r hr hm; exfalso; omega
    | succ mm ih =>
      intro r hr hm
      refine xg_iloadn 25 dX12_ends_24 rfl rfl rfl ?_
      refine xg_aloadn 26 dX12_ends_25 rfl rfl rfl ?_
      refine xg_callV 29 12 [] _ kv_X12_runs ⟨_, _, rfl⟩ kl_RX12_66 dX12_ends_26 rfl (by assumption) (by omega) rfl rfl (Nat.le_of_ble_eq_true rfl) (by omega) ⟨Nat.le_refl _, Nat.le_refl _⟩ (ct_X12_runs hw) rfl ?_
      rw [hW0]
      refine xg_icge 52 32 dX12_ends_29 rfl rfl (by first | omega | exact hR _ | exact ⟨hR _, by omega⟩ | exact ⟨by omega, hR _⟩ | exact ⟨hR _, hR _⟩) (fun hb29 => ?_) (fun hb29 => ?_)
      · skip
        rw [show r = wN w by omega]
        clear ih hm hr hb29
        clear r
        refine xg_iconst 53 dX12_ends_52 rfl ?_
        refine xg_istoren 54 _ dX12_ends_53 rfl rfl rfl (by decide) (Or.inr rfl) ?_
        refine xg_iconst 55 dX12_ends_54 rfl ?_
        refine xg_istore 57 _ dX12_ends_55 rfl rfl (by decide) (Or.inr rfl) ?_
        have loop57 : ∀ (mm : Nat) (r : Nat), ((r : Int) ≤ w 0) → w 0 - r < (mm : Int) → xG E mX12_ends (xR d 0 0) X 57 [some (.ref m), some (J (sEnt w 79)), some (J (sOld (sEnW w) (wN w))), some (J (((sEn (sOld (sEnW w) (wN w)) (sEnt w 79) (sEnW w) r).2 : Nat) : Int)), some (J (r : Int)), none] [] (z, T, F, upA I (m + 1) ((sEn (sOld (sEnW w) (wN w)) (sEnt w 79) (sEnW w) r).1), P, Y) 0 0 := by
          intro mm
          induction mm with
          | zero => intro r hr hm; exfalso; omega
          | succ mm ih =>
            intro r hr hm
            obtain ⟨e1, e2, e3⟩ := sEn_ok (sOld (sEnW w) (wN w)) (sEnt w 79) hOW r (by omega)
            refine xg_iload 59 dX12_ends_57 rfl rfl ?_
            refine xg_aloadn 60 dX12_ends_59 rfl rfl rfl ?_
            refine xg_callV 63 12 [] _ kv_X12_runs ⟨_, _, rfl⟩ kl_RX12_66 dX12_ends_60 rfl (by assumption) (by omega) rfl rfl (Nat.le_of_ble_eq_true rfl) (by omega) ⟨Nat.le_refl _, Nat.le_refl _⟩ (ct_X12_runs hw) rfl ?_
            rw [e3, hW0]
            refine xg_icge 165 66 dX12_ends_63 rfl rfl (by first | omega | exact hR _ | exact ⟨hR _, by omega⟩ | exact ⟨by omega, hR _⟩ | exact ⟨hR _, hR _⟩) (fun hb63 => ?_) (fun hb63 => ?_)
            · skip
              refine xg_aloadn 166 dX12_ends_165 rfl rfl rfl ?_
              refine xg_getP 169 kf_RX12_13 dX12_ends_166 rfl (by assumption) (by assumption) ?_
              refine xg_iconst 170 dX12_ends_169 rfl ?_
              refine xg_iloadn 171 dX12_ends_170 rfl rfl rfl ?_
              refine xg_iastW 172 dX12_ends_171 rfl (by assumption) (by first | omega | exact hR _ | exact ⟨hR _, by omega⟩ | exact ⟨by omega, hR _⟩ | exact ⟨hR _, hR _⟩) ?_
              refine xg_aloadn 173 dX12_ends_172 rfl rfl rfl ?_
              refine xg_callV 176 12 [] _ kv_X12_isNoMore ⟨_, _, rfl⟩ kl_RX12_315 dX12_ends_173 rfl (by assumption) (by omega) rfl rfl (Nat.le_of_ble_eq_true rfl) (by omega) ⟨Nat.le_refl _, Nat.le_refl _⟩ (ct_X12_isNoMore hw (by rw [wS_at]; omega)) rfl ?_
              subst hX
              exact xg_return dX12_ends_176 rfl ⟨Nat.le_refl _, Nat.le_refl _⟩ ⟨rfl, by rw [show r = wN w by omega]; rfl⟩
            · skip
              refine xg_aloadn 67 dX12_ends_66 rfl rfl rfl ?_
              refine xg_iload 69 dX12_ends_67 rfl rfl ?_
              refine xg_callV 72 12 [_] _ kv_X12_isInput ⟨_, _, rfl⟩ kl_RX12_290 dX12_ends_69 rfl (by assumption) (by omega) rfl rfl (Nat.le_of_ble_eq_true rfl) (by omega) ⟨Nat.le_refl _, Nat.le_refl _⟩ (ct_X12_isInput hw e1.1 (by omega)) rfl ?_
              refine xg_dne 79 75 dX12_ends_72 rfl rfl (fun hb72 => ?_) (fun hb72 => ?_)
              · skip
                refine xg_iconst 80 dX12_ends_79 rfl ?_
                refine xg_istore 82 _ dX12_ends_80 rfl rfl (by decide) (Or.inr rfl) ?_
                refine xg_iload 84 dX12_ends_82 rfl rfl ?_
                refine xg_ifeq 104 87 dX12_ends_84 rfl rfl (by first | omega | exact hR _ | exact ⟨hR _, by omega⟩ | exact ⟨by omega, hR _⟩ | exact ⟨hR _, hR _⟩) (fun hb84 => ?_) (fun hb84 => ?_)
                · skip
                  refine xg_iload 106 dX12_ends_104 rfl rfl ?_
                  refine xg_iloadn 107 dX12_ends_106 rfl rfl rfl ?_
                  refine xg_icne 146 110 dX12_ends_107 rfl rfl (by first | omega | exact hR _ | exact ⟨hR _, by omega⟩ | exact ⟨by omega, hR _⟩ | exact ⟨hR _, hR _⟩) (fun hb107 => ?_) (fun hb107 => ?_)
                  · skip
                    refine xg_iloadn 147 dX12_ends_146 rfl rfl rfl ?_
                    refine xg_iload 149 dX12_ends_147 rfl rfl ?_
                    refine xg_ifeq 156 152 dX12_ends_149 rfl rfl (by first | omega | exact hR _ | exact ⟨hR _, by omega⟩ | exact ⟨by omega, hR _⟩ | exact ⟨hR _, hR _⟩) (fun hb149 => ?_) (fun hb149 => ?_)
                    · skip
                      refine xg_iconst 157 dX12_ends_156 rfl ?_
                      refine xg_iadd 158 dX12_ends_157 rfl ?_
                      refine xg_istoren 159 _ dX12_ends_158 rfl rfl rfl (by decide) (Or.inr rfl) ?_
                      refine xg_iinc 162 _ dX12_ends_159 rfl rfl rfl rfl (by decide) (Or.inr rfl) ?_
                      refine xg_goto 57 dX12_ends_162 rfl ?_
                      exact xg_weak _ (xle_s rfl (xle_s rfl (xle_s rfl (xle_s (by rw [sEn, sEs_a (fun q => hb107 q.1) (show wInp (sEn (sOld (sEnW w) (wN w)) (sEnt w 79) (sEnW w) r).1 r = true from decide_eq_true hb72)]; rfl) (xle_s rfl (xle_n xle_0)))))) (xg_to rfl (by rw [sEn, sEs_a (fun q => hb107 q.1) (show wInp (sEn (sOld (sEnW w) (wN w)) (sEnt w 79) (sEnW w) r).1 r = true from decide_eq_true hb72)]) (ih (r + 1) (by omega) (by omega)))
                    · exfalso; omega
                  · skip
                    refine xg_iloadn 111 dX12_ends_110 rfl rfl rfl ?_
                    refine xg_ifle 146 114 dX12_ends_111 rfl rfl (by first | omega | exact hR _ | exact ⟨hR _, by omega⟩ | exact ⟨by omega, hR _⟩ | exact ⟨hR _, hR _⟩) (fun hb111 => ?_) (fun hb111 => ?_)
                    · skip
                      refine xg_iloadn 147 dX12_ends_146 rfl rfl rfl ?_
                      refine xg_iload 149 dX12_ends_147 rfl rfl ?_
                      refine xg_ifeq 156 152 dX12_ends_149 rfl rfl (by first | omega | exact hR _ | exact ⟨hR _, by omega⟩ | exact ⟨by omega, hR _⟩ | exact ⟨hR _, hR _⟩) (fun hb149 => ?_) (fun hb149 => ?_)
                      · skip
                        refine xg_iconst 157 dX12_ends_156 rfl ?_
                        refine xg_iadd 158 dX12_ends_157 rfl ?_
                        refine xg_istoren 159 _ dX12_ends_158 rfl rfl rfl (by decide) (Or.inr rfl) ?_
                        refine xg_iinc 162 _ dX12_ends_159 rfl rfl rfl rfl (by decide) (Or.inr rfl) ?_
                        refine xg_goto 57 dX12_ends_162 rfl ?_
                        exact xg_weak _ (xle_s rfl (xle_s rfl (xle_s rfl (xle_s (by rw [sEn, sEs_a (fun q => by omega) (show wInp (sEn (sOld (sEnW w) (wN w)) (sEnt w 79) (sEnW w) r).1 r = true from decide_eq_true hb72)]; rfl) (xle_s rfl (xle_n xle_0)))))) (xg_to rfl (by rw [sEn, sEs_a (fun q => by omega) (show wInp (sEn (sOld (sEnW w) (wN w)) (sEnt w 79) (sEnW w) r).1 r = true from decide_eq_true hb72)]) (ih (r + 1) (by omega) (by omega)))
                      · exfalso; omega
                    · skip
                      refine xg_aloadn 115 dX12_ends_114 rfl rfl rfl ?_
                      refine xg_getP 118 kf_RX12_13 dX12_ends_115 rfl (by assumption) (by assumption) ?_
                      refine xg_iloadn 119 dX12_ends_118 rfl rfl rfl ?_
                      refine xg_iconst 120 dX12_ends_119 rfl ?_
                      refine xg_callS 123 [_, _] _ ks_X12_runAt kl_RX12_62 dX12_ends_120 rfl rfl rfl (Nat.le_of_ble_eq_true rfl) (by omega) ⟨Nat.le_refl _, Nat.le_refl _⟩ (ct_X12_runAt) rfl ?_
                      refine xg_aloadn 124 dX12_ends_123 rfl rfl rfl ?_
                      refine xg_getP 127 kf_RX12_13 dX12_ends_124 rfl (by assumption) (by assumption) ?_
                      refine xg_bipush 129 dX12_ends_127 rfl (by decide) ?_
                      refine xg_ialdW 130 dX12_ends_129 rfl (by assumption) (by first | omega | exact hR _ | exact ⟨hR _, by omega⟩ | exact ⟨by omega, hR _⟩ | exact ⟨hR _, hR _⟩) ?_
                      refine xg_iastW 131 dX12_ends_130 rfl (by assumption) (by first | omega | exact hR _ | exact ⟨hR _, by omega⟩ | exact ⟨by omega, hR _⟩ | exact ⟨hR _, hR _⟩) ?_
                      refine xg_aloadn 132 dX12_ends_131 rfl rfl rfl ?_
                      refine xg_bipush 134 dX12_ends_132 rfl (by decide) ?_
                      refine xg_iloadn 135 dX12_ends_134 rfl rfl rfl ?_
                      refine xg_callS 138 [_] _ ks_X12_rowOf kl_RX12_133 dX12_ends_135 rfl rfl rfl (Nat.le_of_ble_eq_true rfl) (by omega) ⟨Nat.le_refl _, Nat.le_refl _⟩ (ct_X12_rowOf) rfl ?_
                      refine xg_bipush 140 dX12_ends_138 rfl (by decide) ?_
                      refine xg_callV 143 12 [_, _, _] _ kv_X12_copies ⟨_, _, rfl⟩ kl_RX12_318 dX12_ends_140 rfl (by assumption) (by omega) rfl rfl (Nat.le_of_ble_eq_true rfl) (by omega) ⟨Nat.le_refl _, Nat.le_refl _⟩ (ct_X12_copies hw (by omega) (by omega) (by omega) (by omega)) rfl ?_
                      refine xg_iconst 144 dX12_ends_143 rfl ?_
                      refine xg_istore 146 _ dX12_ends_144 rfl rfl (by decide) (Or.inr rfl) ?_
                      refine xg_iloadn 147 dX12_ends_146 rfl rfl rfl ?_
                      refine xg_iload 149 dX12_ends_147 rfl rfl ?_
                      refine xg_ifeq 156 152 dX12_ends_149 rfl rfl (by first | omega | exact hR _ | exact ⟨hR _, by omega⟩ | exact ⟨by omega, hR _⟩ | exact ⟨hR _, hR _⟩) (fun hb149 => ?_) (fun hb149 => ?_)
                      · exfalso; omega
                      · skip
                        refine xg_iconst 153 dX12_ends_152 rfl ?_
                        refine xg_goto 157 dX12_ends_153 rfl ?_
                        refine xg_iadd 158 dX12_ends_157 rfl ?_
                        refine xg_istoren 159 _ dX12_ends_158 rfl rfl rfl (by decide) (Or.inr rfl) ?_
                        refine xg_iinc 162 _ dX12_ends_159 rfl rfl rfl rfl (by decide) (Or.inr rfl) ?_
                        refine xg_goto 57 dX12_ends_162 rfl ?_
                        exact xg_weak _ (xle_s rfl (xle_s rfl (xle_s rfl (xle_s (by rw [sEn, sEs_c ⟨hb107, hb111⟩ (show wInp (sEn (sOld (sEnW w) (wN w)) (sEnt w 79) (sEnW w) r).1 r = true from decide_eq_true hb72)]; rfl) (xle_s rfl (xle_n xle_0)))))) (xg_to rfl (by rw [sEn, sEs_c ⟨hb107, hb111⟩ (show wInp (sEn (sOld (sEnW w) (wN w)) (sEnt w 79) (sEnW w) r).1 r = true from decide_eq_true hb72)]; simp only [Int.add_zero]) (ih (r + 1) (by omega) (by omega)))
                · exfalso; omega
              · skip
                refine xg_iconst 76 dX12_ends_75 rfl ?_
                refine xg_goto 80 dX12_ends_76 rfl ?_
                refine xg_istore 82 _ dX12_ends_80 rfl rfl (by decide) (Or.inr rfl) ?_
                refine xg_iload 84 dX12_ends_82 rfl rfl ?_
                refine xg_ifeq 104 87 dX12_ends_84 rfl rfl (by first | omega | exact hR _ | exact ⟨hR _, by omega⟩ | exact ⟨by omega, hR _⟩ | exact ⟨hR _, hR _⟩) (fun hb84 => ?_) (fun hb84 => ?_)
                · exfalso; omega
                · skip
                  refine xg_aloadn 88 dX12_ends_87 rfl rfl rfl ?_
                  refine xg_iload 90 dX12_ends_88 rfl rfl ?_
                  refine xg_iconst 91 dX12_ends_90 rfl ?_
                  refine xg_callS 94 [_, _] _ ks_X12_runAt kl_RX12_62 dX12_ends_91 rfl rfl rfl (Nat.le_of_ble_eq_true rfl) (by omega) ⟨Nat.le_refl _, Nat.le_refl _⟩ (ct_X12_runAt) rfl ?_
                  refine xg_iloadn 95 dX12_ends_94 rfl rfl rfl ?_
                  refine xg_iconst 96 dX12_ends_95 rfl ?_
                  refine xg_callS 99 [_, _] _ ks_X12_runAt kl_RX12_62 dX12_ends_96 rfl rfl rfl (Nat.le_of_ble_eq_true rfl) (by omega) ⟨Nat.le_refl _, Nat.le_refl _⟩ (ct_X12_runAt) rfl ?_
                  refine xg_bipush 101 dX12_ends_99 rfl (by decide) ?_
                  refine xg_callV 104 12 [_, _, _] _ kv_X12_copies ⟨_, _, rfl⟩ kl_RX12_318 dX12_ends_101 rfl (by assumption) (by omega) rfl rfl (Nat.le_of_ble_eq_true rfl) (by omega) ⟨Nat.le_refl _, Nat.le_refl _⟩ (ct_X12_copies hw (by omega) (by omega) (by omega) (by omega)) rfl ?_
                  refine xg_iload 106 dX12_ends_104 rfl rfl ?_
                  refine xg_iloadn 107 dX12_ends_106 rfl rfl rfl ?_
                  refine xg_icne 146 110 dX12_ends_107 rfl rfl (by first | omega | exact hR _ | exact ⟨hR _, by omega⟩ | exact ⟨by omega, hR _⟩ | exact ⟨hR _, hR _⟩) (fun hb107 => ?_) (fun hb107 => ?_)
                  · skip
                    refine xg_iloadn 147 dX12_ends_146 rfl rfl rfl ?_
                    refine xg_iload 149 dX12_ends_147 rfl rfl ?_
                    refine xg_ifeq 156 152 dX12_ends_149 rfl rfl (by first | omega | exact hR _ | exact ⟨hR _, by omega⟩ | exact ⟨by omega, hR _⟩ | exact ⟨hR _, hR _⟩) (fun hb149 => ?_) (fun hb149 => ?_)
                    · exfalso; omega
                    · skip
                      refine xg_iconst 153 dX12_ends_152 rfl ?_
                      refine xg_goto 157 dX12_ends_153 rfl ?_
                      refine xg_iadd 158 dX12_ends_157 rfl ?_
                      refine xg_istoren 159 _ dX12_ends_158 rfl rfl rfl (by decide) (Or.inr rfl) ?_
                      refine xg_iinc 162 _ dX12_ends_159 rfl rfl rfl rfl (by decide) (Or.inr rfl) ?_
                      refine xg_goto 57 dX12_ends_162 rfl ?_
                      exact xg_weak _ (xle_s rfl (xle_s rfl (xle_s rfl (xle_s (by rw [sEn, sEs_b (fun q => hb107 q.1) (show wInp (sEn (sOld (sEnW w) (wN w)) (sEnt w 79) (sEnW w) r).1 r = false from decide_eq_false hb72)]; rfl) (xle_s rfl (xle_n xle_0)))))) (xg_to rfl (by rw [sEn, sEs_b (fun q => hb107 q.1) (show wInp (sEn (sOld (sEnW w) (wN w)) (sEnt w 79) (sEnW w) r).1 r = false from decide_eq_false hb72)]; simp only [Int.add_zero]) (ih (r + 1) (by omega) (by omega)))
                  · skip
                    refine xg_iloadn 111 dX12_ends_110 rfl rfl rfl ?_
                    refine xg_ifle 146 114 dX12_ends_111 rfl rfl (by first | omega | exact hR _ | exact ⟨hR _, by omega⟩ | exact ⟨by omega, hR _⟩ | exact ⟨hR _, hR _⟩) (fun hb111 => ?_) (fun hb111 => ?_)
                    · skip
                      refine xg_iloadn 147 dX12_ends_146 rfl rfl rfl ?_
                      refine xg_iload 149 dX12_ends_147 rfl rfl ?_
                      refine xg_ifeq 156 152 dX12_ends_149 rfl rfl (by first | omega | exact hR _ | exact ⟨hR _, by omega⟩ | exact ⟨by omega, hR _⟩ | exact ⟨hR _, hR _⟩) (fun hb149 => ?_) (fun hb149 => ?_)
                      · exfalso; omega
                      · skip
                        refine xg_iconst 153 dX12_ends_152 rfl ?_
                        refine xg_goto 157 dX12_ends_153 rfl ?_
                        refine xg_iadd 158 dX12_ends_157 rfl ?_
                        refine xg_istoren 159 _ dX12_ends_158 rfl rfl rfl (by decide) (Or.inr rfl) ?_
                        refine xg_iinc 162 _ dX12_ends_159 rfl rfl rfl rfl (by decide) (Or.inr rfl) ?_
                        refine xg_goto 57 dX12_ends_162 rfl ?_
                        exact xg_weak _ (xle_s rfl (xle_s rfl (xle_s rfl (xle_s (by rw [sEn, sEs_b (fun q => by omega) (show wInp (sEn (sOld (sEnW w) (wN w)) (sEnt w 79) (sEnW w) r).1 r = false from decide_eq_false hb72)]; rfl) (xle_s rfl (xle_n xle_0)))))) (xg_to rfl (by rw [sEn, sEs_b (fun q => by omega) (show wInp (sEn (sOld (sEnW w) (wN w)) (sEnt w 79) (sEnW w) r).1 r = false from decide_eq_false hb72)]; simp only [Int.add_zero]) (ih (r + 1) (by omega) (by omega)))
                    · skip
                      refine xg_aloadn 115 dX12_ends_114 rfl rfl rfl ?_
                      refine xg_getP 118 kf_RX12_13 dX12_ends_115 rfl (by assumption) (by assumption) ?_
                      refine xg_iloadn 119 dX12_ends_118 rfl rfl rfl ?_
                      refine xg_iconst 120 dX12_ends_119 rfl ?_
                      refine xg_callS 123 [_, _] _ ks_X12_runAt kl_RX12_62 dX12_ends_120 rfl rfl rfl (Nat.le_of_ble_eq_true rfl) (by omega) ⟨Nat.le_refl _, Nat.le_refl _⟩ (ct_X12_runAt) rfl ?_
                      refine xg_aloadn 124 dX12_ends_123 rfl rfl rfl ?_
                      refine xg_getP 127 kf_RX12_13 dX12_ends_124 rfl (by assumption) (by assumption) ?_
                      refine xg_bipush 129 dX12_ends_127 rfl (by decide) ?_
                      refine xg_ialdW 130 dX12_ends_129 rfl (by assumption) (by first | omega | exact hR _ | exact ⟨hR _, by omega⟩ | exact ⟨by omega, hR _⟩ | exact ⟨hR _, hR _⟩) ?_
                      refine xg_iastW 131 dX12_ends_130 rfl (by assumption) (by first | omega | exact hR _ | exact ⟨hR _, by omega⟩ | exact ⟨by omega, hR _⟩ | exact ⟨hR _, hR _⟩) ?_
                      refine xg_aloadn 132 dX12_ends_131 rfl rfl rfl ?_
                      refine xg_bipush 134 dX12_ends_132 rfl (by decide) ?_
                      refine xg_iloadn 135 dX12_ends_134 rfl rfl rfl ?_
                      refine xg_callS 138 [_] _ ks_X12_rowOf kl_RX12_133 dX12_ends_135 rfl rfl rfl (Nat.le_of_ble_eq_true rfl) (by omega) ⟨Nat.le_refl _, Nat.le_refl _⟩ (ct_X12_rowOf) rfl ?_
                      refine xg_bipush 140 dX12_ends_138 rfl (by decide) ?_
                      refine xg_callV 143 12 [_, _, _] _ kv_X12_copies ⟨_, _, rfl⟩ kl_RX12_318 dX12_ends_140 rfl (by assumption) (by omega) rfl rfl (Nat.le_of_ble_eq_true rfl) (by omega) ⟨Nat.le_refl _, Nat.le_refl _⟩ (ct_X12_copies hw (by omega) (by omega) (by omega) (by omega)) rfl ?_
                      refine xg_iconst 144 dX12_ends_143 rfl ?_
                      refine xg_istore 146 _ dX12_ends_144 rfl rfl (by decide) (Or.inr rfl) ?_
                      refine xg_iloadn 147 dX12_ends_146 rfl rfl rfl ?_
                      refine xg_iload 149 dX12_ends_147 rfl rfl ?_
                      refine xg_ifeq 156 152 dX12_ends_149 rfl rfl (by first | omega | exact hR _ | exact ⟨hR _, by omega⟩ | exact ⟨by omega, hR _⟩ | exact ⟨hR _, hR _⟩) (fun hb149 => ?_) (fun hb149 => ?_)
                      · exfalso; omega
                      · skip
                        refine xg_iconst 153 dX12_ends_152 rfl ?_
                        refine xg_goto 157 dX12_ends_153 rfl ?_
                        refine xg_iadd 158 dX12_ends_157 rfl ?_
                        refine xg_istoren 159 _ dX12_ends_158 rfl rfl rfl (by decide) (Or.inr rfl) ?_
                        refine xg_iinc 162 _ dX12_ends_159 rfl rfl rfl rfl (by decide) (Or.inr rfl) ?_
                        refine xg_goto 57 dX12_ends_162 rfl ?_
                        exact xg_weak _ (xle_s rfl (xle_s rfl (xle_s rfl (xle_s (by rw [sEn, sEs_d ⟨hb107, hb111⟩ (show wInp (sEn (sOld (sEnW w) (wN w)) (sEnt w 79) (sEnW w) r).1 r = false from decide_eq_false hb72)]; rfl) (xle_s rfl (xle_n xle_0)))))) (xg_to rfl (by rw [sEn, sEs_d ⟨hb107, hb111⟩ (show wInp (sEn (sOld (sEnW w) (wN w)) (sEnt w 79) (sEnW w) r).1 r = false from decide_eq_false hb72)]; simp only [Int.add_zero]) (ih (r + 1) (by omega) (by omega)))
        exact xg_weak _ (xle_s rfl (xle_s rfl (xle_s rfl (xle_s rfl (xle_s rfl (xle_n xle_0)))))) (loop57 20 0 (by omega) (by omega))
      · skip
        refine xg_aloadn 33 dX12_ends_32 rfl rfl rfl ?_
        refine xg_iloadn 34 dX12_ends_33 rfl rfl rfl ?_
        refine xg_callV 37 12 [_] _ kv_X12_isInput ⟨_, _, rfl⟩ kl_RX12_290 dX12_ends_34 rfl (by assumption) (by omega) rfl rfl (Nat.le_of_ble_eq_true rfl) (by omega) ⟨Nat.le_refl _, Nat.le_refl _⟩ (ct_X12_isInput hw hOW.1 (by omega)) rfl ?_
        refine xg_deq 44 40 dX12_ends_37 rfl rfl (fun hb37 => ?_) (fun hb37 => ?_)
        · skip
          refine xg_iloadn 45 dX12_ends_44 rfl rfl rfl ?_
          refine xg_istoren 46 _ dX12_ends_45 rfl rfl rfl (by decide) (Or.inr rfl) ?_
          refine xg_iinc 49 _ dX12_ends_46 rfl rfl rfl rfl (by decide) (Or.inr rfl) ?_
          refine xg_goto 24 dX12_ends_49 rfl ?_
          exact xg_weak _ (xle_s rfl (xle_s rfl (xle_s (by rw [sOld, if_neg (by rw [show wInp (sEnW w) r = false from decide_eq_false hb37]; decide)]) (xle_s rfl (xle_n (xle_n xle_0)))))) (ih (r + 1) (by omega) (by omega))
        · skip
          refine xg_iloadn 41 dX12_ends_40 rfl rfl rfl ?_
          refine xg_goto 45 dX12_ends_41 rfl ?_
          refine xg_istoren 46 _ dX12_ends_45 rfl rfl rfl (by decide) (Or.inr rfl) ?_
          refine xg_iinc 49 _ dX12_ends_46 rfl rfl rfl rfl (by decide) (Or.inr rfl) ?_
          refine xg_goto 24 dX12_ends_49 rfl ?_
          exact xg_weak _ (xle_s rfl (xle_s rfl (xle_s (by rw [sOld, if_pos (show wInp (sEnW w) r = true from decide_eq_true hb37)]) (xle_s rfl (xle_n (xle_n xle_0)))))) (ih (r + 1) (by omega) (by omega))
  exact xg_weak _ (xle_s rfl (xle_s rfl (xle_s rfl (xle_s rfl (xle_n (xle_n xle_0)))))) (loop24 20 0 (by omega) (by omega))

theorem sNext_le (w : Int → Int) (h : 0 ≤ w 18 ∧ w 18 ≤ 60) : w 18 ≤ (sNext w : Int) ∧ sNext w ≤ 60 := by
  have := sFind_ge (fun k => decide (sNewW w (k : Int) ≠ -1)) (60 - (w 18).toNat) (w 18).toNat
  unfold sNext; omega
theorem sFind_p {p : Nat → Bool} : ∀ {k lo : Nat}, sFind p k lo < lo + k → p (sFind p k lo) = true
  | 0, lo, h => by simp [sFind] at h
  | k + 1, lo, h => by
    rw [sFind] at h ⊢
    by_cases hp : p lo = true
    · rw [if_pos hp]; exact hp
    · rw [if_neg hp] at h ⊢
      exact sFind_p (by omega)
theorem sNext_hit {w : Int → Int} (h : 0 ≤ w 18 ∧ w 18 ≤ 60) (hn : sNext w < 60) : sNewI w (sNext w : Int) < wN w := by
  have h1 := sFind_p (p := fun k => decide (sNewW w (k : Int) ≠ -1)) (k := 60 - (w 18).toNat) (lo := (w 18).toNat) (by unfold sNext at hn; omega)
  have h2 : sNewW w (sNext w : Int) ≠ -1 := of_decide_eq_true h1
  have h3 := sFind_ge (fun r => wInp w r && wHas w (sNext w : Int) r) (wN w) 0
  unfold sNewW at h2
  by_cases h4 : sNewI w (sNext w : Int) = wN w
  · rw [if_pos h4] at h2; exact absurd rfl h2
  · unfold sNewI at h4 ⊢; omega
theorem sTakes_18 (w : Int → Int) (key : Int) : sTakes w key 18 = key + 1 := by unfold sTakes; rw [wS_at]
theorem sTakes_0 {w : Int → Int} {key : Int} (hk : 0 ≤ key) : sTakes w key 0 = w 0 := by
  unfold sTakes
  rw [wS_ne _ _ _ (by omega)]
  split
  · unfold sTk2 sTk1
    rw [wS_ne _ _ _ (by omega), wS_ne _ _ _ (by omega), wS_ne _ _ _ (by omega), wS_ne _ _ _ (by omega)]
  · unfold sTk1
    rw [wS_ne _ _ _ (by omega)]
/-- so many keys of the job: the world behind them, how many were done -/
def sWk : Nat → (Int → Int) → Int → Int → (Int → Int) × Int
  | 0, w, done, _ => (w, done)
  | f + 1, w, done, n => if done < n ∧ sNext w < 60 then sWk f (sTakes w (sNext w : Int)) (done + 1) n else (w, done)
theorem sWk_end {f : Nat} {w : Int → Int} {done n : Int} (h : ¬ (done < n ∧ sNext w < 60)) : sWk f w done n = (w, done) := by
  cases f with
  | zero => rfl
  | succ f => rw [sWk, if_neg h]
theorem sWk_ok : ∀ (f : Nat) {w : Int → Int} {done n : Int}, wOk w → wOk (sWk f w done n).1
  | 0, _, _, _, h => h
  | f + 1, w, done, n, h => by
    rw [sWk]
    split
    · rename_i hc
      have h18 := h.2.2.2.2.2.2.2.2.2.2.2.2.2.1
      exact sWk_ok f (wOk_takes h (by omega) (sNext_hit h18 hc.2))
    · exact h
def sWorks (w : Int → Int) (n : Int) : Int → Int := if sNext (sWk 61 w 0 n).1 = 60 then sEnds (sWk 61 w 0 n).1 else (sWk 61 w 0 n).1
def sWorksN (w : Int → Int) (n : Int) : Int := (sWk 61 w 0 n).2
theorem wOk_works {w : Int → Int} (h : wOk w) (n : Int) : wOk (sWorks w n) := by
  unfold sWorks
  have := sWk_ok 61 (done := 0) (n := n) h
  split
  · exact wOk_ends this
  · exact this
theorem dX12_works_0 : decode cX12_works 0 = .ok (.iconst 0, 1) := by decide +kernel
theorem dX12_works_1 : decode cX12_works 1 = .ok (.istore_n 2, 1) := by decide +kernel
theorem dX12_works_2 : decode cX12_works 2 = .ok (.aload_n 0, 1) := by decide +kernel
theorem dX12_works_3 : decode cX12_works 3 = .ok (.invokevirtual 331, 3) := by decide +kernel
theorem dX12_works_6 : decode cX12_works 6 = .ok (.istore_n 3, 1) := by decide +kernel
theorem dX12_works_7 : decode cX12_works 7 = .ok (.iload_n 2, 1) := by decide +kernel
theorem dX12_works_8 : decode cX12_works 8 = .ok (.iload_n 1, 1) := by decide +kernel
theorem dX12_works_9 : decode cX12_works 9 = .ok (.if_icmp .ge 25, 3) := by decide +kernel
theorem dX12_works_12 : decode cX12_works 12 = .ok (.iload_n 3, 1) := by decide +kernel
theorem dX12_works_13 : decode cX12_works 13 = .ok (.bipush 60, 2) := by decide +kernel
theorem dX12_works_15 : decode cX12_works 15 = .ok (.if_icmp .ge 19, 3) := by decide +kernel
theorem dX12_works_18 : decode cX12_works 18 = .ok (.aload_n 0, 1) := by decide +kernel
theorem dX12_works_19 : decode cX12_works 19 = .ok (.iload_n 3, 1) := by decide +kernel
theorem dX12_works_20 : decode cX12_works 20 = .ok (.invokevirtual 334, 3) := by decide +kernel
theorem dX12_works_23 : decode cX12_works 23 = .ok (.iinc 2 1, 3) := by decide +kernel
theorem dX12_works_26 : decode cX12_works 26 = .ok (.aload_n 0, 1) := by decide +kernel
theorem dX12_works_27 : decode cX12_works 27 = .ok (.invokevirtual 331, 3) := by decide +kernel
theorem dX12_works_30 : decode cX12_works 30 = .ok (.istore_n 3, 1) := by decide +kernel
theorem dX12_works_31 : decode cX12_works 31 = .ok (.goto (-24), 3) := by decide +kernel
theorem dX12_works_34 : decode cX12_works 34 = .ok (.iload_n 3, 1) := by decide +kernel
theorem dX12_works_35 : decode cX12_works 35 = .ok (.bipush 60, 2) := by decide +kernel
theorem dX12_works_37 : decode cX12_works 37 = .ok (.if_icmp .ne 7, 3) := by decide +kernel
theorem dX12_works_40 : decode cX12_works 40 = .ok (.aload_n 0, 1) := by decide +kernel
theorem dX12_works_41 : decode cX12_works 41 = .ok (.invokevirtual 337, 3) := by decide +kernel
theorem dX12_works_44 : decode cX12_works 44 = .ok (.iload_n 2, 1) := by decide +kernel
theorem dX12_works_45 : decode cX12_works 45 = .ok (.ireturn, 1) := by decide +kernel
set_option maxHeartbeats 4000000 in
set_option maxRecDepth 100000 in
theorem ct_X12_works {E : xE} {z : Nat} {T : Nat → Nat × Int} {F : Nat → Nat → Int} {I : Nat → Int → Int} {P : Nat → Nat → Option Nat} {Y : Nat → Int → Option Nat} {m : Nat} {w : Int → Int} (hw : wM T P m) (hO : wOk w){n : Int} (hn : 0 ≤ n ∧ n < 2147483648) : Ct E 5 mX12_works 0 0 [.ref m, J n] (z, T, F, upA I (m + 1) w, P, Y) (xd (some (J (sWorksN w n))) (z, T, F, upA I (m + 1) (sWorks w n), P, Y)) := by
  obtain ⟨⟨q0, q1, q2, q3⟩, -⟩ := id hw
  obtain ⟨hR, o0, o1, o2, o3, o4, o5, o6, oc, o13, o14, o16, o17, o18, ov⟩ := id hO
  have hN := wN_i o0.1
  refine Ct.of [some (.ref m), some (J n), none, none] kt_X12_works rfl (Nat.le_of_ble_eq_true rfl) rfl (fun d hd => ?_)
  generalize hX : xN E _ _ _ = X
  refine xg_iconst 1 dX12_works_0 rfl ?_
  refine xg_istoren 2 _ dX12_works_1 rfl rfl rfl (by decide) (Or.inr rfl) ?_
  refine xg_aloadn 3 dX12_works_2 rfl rfl rfl ?_
  refine xg_callV 6 12 [] _ kv_X12_nextKey ⟨_, _, rfl⟩ kl_RX12_331 dX12_works_3 rfl (by assumption) (by omega) rfl rfl (Nat.le_of_ble_eq_true rfl) (by omega) ⟨Nat.le_refl _, Nat.le_refl _⟩ (ct_X12_nextKey hw hO) rfl ?_
  refine xg_istoren 7 _ dX12_works_6 rfl rfl rfl (by decide) (Or.inr rfl) ?_
  have loop7 : ∀ (mm : Nat) (f : Nat) (W : Int → Int) (done : Int), wOk W → (0 ≤ done ∧ done ≤ n) → (60 - (sNext W : Int) < (f : Int)) → sWk f W done n = sWk 61 w 0 n → 60 - (sNext W : Int) < (mm : Int) → xG E mX12_works (xR d 0 0) X 7 [some (.ref m), some (J n), some (J done), some (J (sNext W : Nat))] [] (z, T, F, upA I (m + 1) (W), P, Y) 0 0 := by
    intro mm
    induction mm with
    | zero => intro f W done hW h0 hf he hm; exfalso; have hnl := sNext_le W hW.2.2.2.2.2.2.2.2.2.2.2.2.2.1; omega
    | succ mm ih =>
      intro f W done hW h0 hf he hm
      have hnl := sNext_le W hW.2.2.2.2.2.2.2.2.2.2.2.2.2.1
      refine xg_iloadn 8 dX12_works_7 rfl rfl rfl ?_
      refine xg_iloadn 9 dX12_works_8 rfl rfl rfl ?_
      refine xg_icge 34 12 dX12_works_9 rfl rfl (by first | omega | exact hR _ | exact ⟨hR _, by omega⟩ | exact ⟨by omega, hR _⟩ | exact ⟨hR _, hR _⟩) (fun hb9 => ?_) (fun hb9 => ?_)
      · skip
        have he2 : sWk 61 w 0 n = (W, done) := by rw [← he]; exact sWk_end (by omega)
        refine xg_iloadn 35 dX12_works_34 rfl rfl rfl ?_
        refine xg_bipush 37 dX12_works_35 rfl (by decide) ?_
        refine xg_icne 44 40 dX12_works_37 rfl rfl (by first | omega | exact hR _ | exact ⟨hR _, by omega⟩ | exact ⟨by omega, hR _⟩ | exact ⟨hR _, hR _⟩) (fun hb37 => ?_) (fun hb37 => ?_)
        · skip
          refine xg_iloadn 45 dX12_works_44 rfl rfl rfl ?_
          subst hX
          exact xg_ireturn dX12_works_45 rfl ⟨Nat.le_refl _, Nat.le_refl _⟩ ⟨by unfold sWorksN; rw [he2], by unfold sWorks; rw [he2, if_neg (show ¬ sNext W = 60 by omega)]⟩
        · skip
          refine xg_aloadn 41 dX12_works_40 rfl rfl rfl ?_
          refine xg_callV 44 12 [] _ kv_X12_ends ⟨_, _, rfl⟩ kl_RX12_337 dX12_works_41 rfl (by assumption) (by omega) rfl rfl (Nat.le_of_ble_eq_true rfl) (by omega) ⟨Nat.le_refl _, Nat.le_refl _⟩ (ct_X12_ends hw hW) rfl ?_
          refine xg_iloadn 45 dX12_works_44 rfl rfl rfl ?_
          subst hX
          exact xg_ireturn dX12_works_45 rfl ⟨Nat.le_refl _, Nat.le_refl _⟩ ⟨by unfold sWorksN; rw [he2], by unfold sWorks; rw [he2, if_pos (show sNext W = 60 by omega)]⟩
      · skip
        refine xg_iloadn 13 dX12_works_12 rfl rfl rfl ?_
        refine xg_bipush 15 dX12_works_13 rfl (by decide) ?_
        refine xg_icge 34 18 dX12_works_15 rfl rfl (by first | omega | exact hR _ | exact ⟨hR _, by omega⟩ | exact ⟨by omega, hR _⟩ | exact ⟨hR _, hR _⟩) (fun hb15 => ?_) (fun hb15 => ?_)
        · skip
          have he2 : sWk 61 w 0 n = (W, done) := by rw [← he]; exact sWk_end (by omega)
          refine xg_iloadn 35 dX12_works_34 rfl rfl rfl ?_
          refine xg_bipush 37 dX12_works_35 rfl (by decide) ?_
          refine xg_icne 44 40 dX12_works_37 rfl rfl (by first | omega | exact hR _ | exact ⟨hR _, by omega⟩ | exact ⟨by omega, hR _⟩ | exact ⟨hR _, hR _⟩) (fun hb37 => ?_) (fun hb37 => ?_)
          · skip
            refine xg_iloadn 45 dX12_works_44 rfl rfl rfl ?_
            subst hX
            exact xg_ireturn dX12_works_45 rfl ⟨Nat.le_refl _, Nat.le_refl _⟩ ⟨by unfold sWorksN; rw [he2], by unfold sWorks; rw [he2, if_neg (show ¬ sNext W = 60 by omega)]⟩
          · skip
            refine xg_aloadn 41 dX12_works_40 rfl rfl rfl ?_
            refine xg_callV 44 12 [] _ kv_X12_ends ⟨_, _, rfl⟩ kl_RX12_337 dX12_works_41 rfl (by assumption) (by omega) rfl rfl (Nat.le_of_ble_eq_true rfl) (by omega) ⟨Nat.le_refl _, Nat.le_refl _⟩ (ct_X12_ends hw hW) rfl ?_
            refine xg_iloadn 45 dX12_works_44 rfl rfl rfl ?_
            subst hX
            exact xg_ireturn dX12_works_45 rfl ⟨Nat.le_refl _, Nat.le_refl _⟩ ⟨by unfold sWorksN; rw [he2], by unfold sWorks; rw [he2, if_pos (show sNext W = 60 by omega)]⟩
        · skip
          refine xg_aloadn 19 dX12_works_18 rfl rfl rfl ?_
          refine xg_iloadn 20 dX12_works_19 rfl rfl rfl ?_
          refine xg_callV 23 12 [_] _ kv_X12_takes ⟨_, _, rfl⟩ kl_RX12_334 dX12_works_20 rfl (by assumption) (by omega) rfl rfl (Nat.le_of_ble_eq_true rfl) (by omega) ⟨Nat.le_refl _, Nat.le_refl _⟩ (ct_X12_takes hw hW (by omega) (sNext_hit hW.2.2.2.2.2.2.2.2.2.2.2.2.2.1 (by omega))) rfl ?_
          have hT := wOk_takes hW (key := (sNext W : Int)) (by omega) (sNext_hit hW.2.2.2.2.2.2.2.2.2.2.2.2.2.1 (by omega))
          have hnl2 := sNext_le _ hT.2.2.2.2.2.2.2.2.2.2.2.2.2.1
          rw [sTakes_18] at hnl2
          refine xg_iinc 26 _ dX12_works_23 rfl rfl rfl rfl (by decide) (Or.inr rfl) ?_
          refine xg_aloadn 27 dX12_works_26 rfl rfl rfl ?_
          refine xg_callV 30 12 [] _ kv_X12_nextKey ⟨_, _, rfl⟩ kl_RX12_331 dX12_works_27 rfl (by assumption) (by omega) rfl rfl (Nat.le_of_ble_eq_true rfl) (by omega) ⟨Nat.le_refl _, Nat.le_refl _⟩ (ct_X12_nextKey hw hT) rfl ?_
          refine xg_istoren 31 _ dX12_works_30 rfl rfl rfl (by decide) (Or.inr rfl) ?_
          refine xg_goto 7 dX12_works_31 rfl ?_
          obtain ⟨f, rfl⟩ : ∃ g, f = g + 1 := ⟨f - 1, by omega⟩
          exact xg_weak _ (xle_s rfl (xle_s rfl (xle_s rfl (xle_s rfl xle_0)))) (ih f (sTakes W (sNext W : Int)) (done + 1) hT (by omega) (by omega) (by rw [← he, sWk, if_pos ⟨by omega, by omega⟩]) (by omega))
  have hnl := sNext_le w o18
  exact xg_weak _ (xle_s rfl (xle_s rfl (xle_s rfl (xle_s rfl xle_0)))) (loop7 62 61 w 0 hO (by omega) (by omega) rfl (by omega))

