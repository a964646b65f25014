theorem dX8_mergeKey_0 : decode cX8_mergeKey 0 = .ok (.aload_n 0, 1) := by decide +kernel
theorem dX8_mergeKey_1 : decode cX8_mergeKey 1 = .ok (.invokevirtual 197, 3) := by decide +kernel
theorem dX8_mergeKey_4 : decode cX8_mergeKey 4 = .ok (.istore_n 1, 1) := by decide +kernel
theorem dX8_mergeKey_5 : decode cX8_mergeKey 5 = .ok (.iconst 0, 1) := by decide +kernel
theorem dX8_mergeKey_6 : decode cX8_mergeKey 6 = .ok (.istore_n 2, 1) := by decide +kernel
theorem dX8_mergeKey_7 : decode cX8_mergeKey 7 = .ok (.iconst (-1), 1) := by decide +kernel
theorem dX8_mergeKey_8 : decode cX8_mergeKey 8 = .ok (.istore_n 3, 1) := by decide +kernel
theorem dX8_mergeKey_9 : decode cX8_mergeKey 9 = .ok (.iconst (-1), 1) := by decide +kernel
theorem dX8_mergeKey_10 : decode cX8_mergeKey 10 = .ok (.istore 4, 2) := by decide +kernel
theorem dX8_mergeKey_12 : decode cX8_mergeKey 12 = .ok (.iconst 0, 1) := by decide +kernel
theorem dX8_mergeKey_13 : decode cX8_mergeKey 13 = .ok (.istore 5, 2) := by decide +kernel
theorem dX8_mergeKey_15 : decode cX8_mergeKey 15 = .ok (.iload 5, 2) := by decide +kernel
theorem dX8_mergeKey_17 : decode cX8_mergeKey 17 = .ok (.aload_n 0, 1) := by decide +kernel
theorem dX8_mergeKey_18 : decode cX8_mergeKey 18 = .ok (.getfield 70, 3) := by decide +kernel
theorem dX8_mergeKey_21 : decode cX8_mergeKey 21 = .ok (.if_icmp .ge 63, 3) := by decide +kernel
theorem dX8_mergeKey_24 : decode cX8_mergeKey 24 = .ok (.iload 5, 2) := by decide +kernel
theorem dX8_mergeKey_26 : decode cX8_mergeKey 26 = .ok (.bipush 12, 2) := by decide +kernel
theorem dX8_mergeKey_28 : decode cX8_mergeKey 28 = .ok (.if_icmp .ge 56, 3) := by decide +kernel
theorem dX8_mergeKey_31 : decode cX8_mergeKey 31 = .ok (.aload_n 0, 1) := by decide +kernel
theorem dX8_mergeKey_32 : decode cX8_mergeKey 32 = .ok (.getfield 11, 3) := by decide +kernel
theorem dX8_mergeKey_35 : decode cX8_mergeKey 35 = .ok (.iload 5, 2) := by decide +kernel
theorem dX8_mergeKey_37 : decode cX8_mergeKey 37 = .ok (.aaload, 1) := by decide +kernel
theorem dX8_mergeKey_38 : decode cX8_mergeKey 38 = .ok (.getfield 110, 3) := by decide +kernel
theorem dX8_mergeKey_41 : decode cX8_mergeKey 41 = .ok (.ifCond .eq 37, 3) := by decide +kernel
theorem dX8_mergeKey_44 : decode cX8_mergeKey 44 = .ok (.iload 5, 2) := by decide +kernel
theorem dX8_mergeKey_46 : decode cX8_mergeKey 46 = .ok (.istore 4, 2) := by decide +kernel
theorem dX8_mergeKey_48 : decode cX8_mergeKey 48 = .ok (.aload_n 0, 1) := by decide +kernel
theorem dX8_mergeKey_49 : decode cX8_mergeKey 49 = .ok (.getfield 11, 3) := by decide +kernel
theorem dX8_mergeKey_52 : decode cX8_mergeKey 52 = .ok (.iload 5, 2) := by decide +kernel
theorem dX8_mergeKey_54 : decode cX8_mergeKey 54 = .ok (.aaload, 1) := by decide +kernel
theorem dX8_mergeKey_55 : decode cX8_mergeKey 55 = .ok (.iload_n 1, 1) := by decide +kernel
theorem dX8_mergeKey_56 : decode cX8_mergeKey 56 = .ok (.invokevirtual 113, 3) := by decide +kernel
theorem dX8_mergeKey_59 : decode cX8_mergeKey 59 = .ok (.iconst (-1), 1) := by decide +kernel
theorem dX8_mergeKey_60 : decode cX8_mergeKey 60 = .ok (.if_icmp .eq 18, 3) := by decide +kernel
theorem dX8_mergeKey_63 : decode cX8_mergeKey 63 = .ok (.iinc 2 1, 3) := by decide +kernel
theorem dX8_mergeKey_66 : decode cX8_mergeKey 66 = .ok (.iload_n 3, 1) := by decide +kernel
theorem dX8_mergeKey_67 : decode cX8_mergeKey 67 = .ok (.iconst (-1), 1) := by decide +kernel
theorem dX8_mergeKey_68 : decode cX8_mergeKey 68 = .ok (.if_icmp .ne 8, 3) := by decide +kernel
theorem dX8_mergeKey_71 : decode cX8_mergeKey 71 = .ok (.iload 5, 2) := by decide +kernel
theorem dX8_mergeKey_73 : decode cX8_mergeKey 73 = .ok (.goto 4, 3) := by decide +kernel
theorem dX8_mergeKey_76 : decode cX8_mergeKey 76 = .ok (.iload_n 3, 1) := by decide +kernel
theorem dX8_mergeKey_77 : decode cX8_mergeKey 77 = .ok (.istore_n 3, 1) := by decide +kernel
theorem dX8_mergeKey_78 : decode cX8_mergeKey 78 = .ok (.iinc 5 1, 3) := by decide +kernel
theorem dX8_mergeKey_81 : decode cX8_mergeKey 81 = .ok (.goto (-66), 3) := by decide +kernel
theorem dX8_mergeKey_84 : decode cX8_mergeKey 84 = .ok (.aload_n 0, 1) := by decide +kernel
theorem dX8_mergeKey_85 : decode cX8_mergeKey 85 = .ok (.getfield 42, 3) := by decide +kernel
theorem dX8_mergeKey_88 : decode cX8_mergeKey 88 = .ok (.iload_n 2, 1) := by decide +kernel
theorem dX8_mergeKey_89 : decode cX8_mergeKey 89 = .ok (.invokevirtual 200, 3) := by decide +kernel
theorem dX8_mergeKey_92 : decode cX8_mergeKey 92 = .ok (.iload_n 3, 1) := by decide +kernel
theorem dX8_mergeKey_93 : decode cX8_mergeKey 93 = .ok (.iconst (-1), 1) := by decide +kernel
theorem dX8_mergeKey_94 : decode cX8_mergeKey 94 = .ok (.if_icmp .eq 66, 3) := by decide +kernel
theorem dX8_mergeKey_97 : decode cX8_mergeKey 97 = .ok (.aload_n 0, 1) := by decide +kernel
theorem dX8_mergeKey_98 : decode cX8_mergeKey 98 = .ok (.getfield 11, 3) := by decide +kernel
theorem dX8_mergeKey_101 : decode cX8_mergeKey 101 = .ok (.iload_n 3, 1) := by decide +kernel
theorem dX8_mergeKey_102 : decode cX8_mergeKey 102 = .ok (.aaload, 1) := by decide +kernel
theorem dX8_mergeKey_103 : decode cX8_mergeKey 103 = .ok (.iload_n 1, 1) := by decide +kernel
theorem dX8_mergeKey_104 : decode cX8_mergeKey 104 = .ok (.invokevirtual 113, 3) := by decide +kernel
theorem dX8_mergeKey_107 : decode cX8_mergeKey 107 = .ok (.istore 5, 2) := by decide +kernel
theorem dX8_mergeKey_109 : decode cX8_mergeKey 109 = .ok (.iload 5, 2) := by decide +kernel
theorem dX8_mergeKey_111 : decode cX8_mergeKey 111 = .ok (.bipush 100, 2) := by decide +kernel
theorem dX8_mergeKey_113 : decode cX8_mergeKey 113 = .ok (.if_icmp .ne 13, 3) := by decide +kernel
theorem dX8_mergeKey_116 : decode cX8_mergeKey 116 = .ok (.aload_n 0, 1) := by decide +kernel
theorem dX8_mergeKey_117 : decode cX8_mergeKey 117 = .ok (.iload 4, 2) := by decide +kernel
theorem dX8_mergeKey_119 : decode cX8_mergeKey 119 = .ok (.iload_n 1, 1) := by decide +kernel
theorem dX8_mergeKey_120 : decode cX8_mergeKey 120 = .ok (.invokevirtual 203, 3) := by decide +kernel
theorem dX8_mergeKey_123 : decode cX8_mergeKey 123 = .ok (.ifCond .eq 37, 3) := by decide +kernel
theorem dX8_mergeKey_126 : decode cX8_mergeKey 126 = .ok (.aload_n 0, 1) := by decide +kernel
theorem dX8_mergeKey_127 : decode cX8_mergeKey 127 = .ok (.getfield 22, 3) := by decide +kernel
theorem dX8_mergeKey_130 : decode cX8_mergeKey 130 = .ok (.iload_n 1, 1) := by decide +kernel
theorem dX8_mergeKey_131 : decode cX8_mergeKey 131 = .ok (.iload 5, 2) := by decide +kernel
theorem dX8_mergeKey_133 : decode cX8_mergeKey 133 = .ok (.bipush 99, 2) := by decide +kernel
theorem dX8_mergeKey_135 : decode cX8_mergeKey 135 = .ok (.aload_n 0, 1) := by decide +kernel
theorem dX8_mergeKey_136 : decode cX8_mergeKey 136 = .ok (.getfield 11, 3) := by decide +kernel
theorem dX8_mergeKey_139 : decode cX8_mergeKey 139 = .ok (.iload_n 3, 1) := by decide +kernel
theorem dX8_mergeKey_140 : decode cX8_mergeKey 140 = .ok (.aaload, 1) := by decide +kernel
theorem dX8_mergeKey_141 : decode cX8_mergeKey 141 = .ok (.iload_n 1, 1) := by decide +kernel
theorem dX8_mergeKey_142 : decode cX8_mergeKey 142 = .ok (.invokevirtual 207, 3) := by decide +kernel
theorem dX8_mergeKey_145 : decode cX8_mergeKey 145 = .ok (.iconst 1, 1) := by decide +kernel
theorem dX8_mergeKey_146 : decode cX8_mergeKey 146 = .ok (.iadd, 1) := by decide +kernel
theorem dX8_mergeKey_147 : decode cX8_mergeKey 147 = .ok (.invokestatic 168, 3) := by decide +kernel
theorem dX8_mergeKey_150 : decode cX8_mergeKey 150 = .ok (.invokevirtual 210, 3) := by decide +kernel
theorem dX8_mergeKey_153 : decode cX8_mergeKey 153 = .ok (.aload_n 0, 1) := by decide +kernel
theorem dX8_mergeKey_154 : decode cX8_mergeKey 154 = .ok (.getfield 42, 3) := by decide +kernel
theorem dX8_mergeKey_157 : decode cX8_mergeKey 157 = .ok (.invokevirtual 214, 3) := by decide +kernel
theorem dX8_mergeKey_160 : decode cX8_mergeKey 160 = .ok (.aload_n 0, 1) := by decide +kernel
theorem dX8_mergeKey_161 : decode cX8_mergeKey 161 = .ok (.getfield 28, 3) := by decide +kernel
theorem dX8_mergeKey_164 : decode cX8_mergeKey 164 = .ok (.iload_n 1, 1) := by decide +kernel
theorem dX8_mergeKey_165 : decode cX8_mergeKey 165 = .ok (.iconst 1, 1) := by decide +kernel
theorem dX8_mergeKey_166 : decode cX8_mergeKey 166 = .ok (.iadd, 1) := by decide +kernel
theorem dX8_mergeKey_167 : decode cX8_mergeKey 167 = .ok (.putfield 173, 3) := by decide +kernel
theorem dX8_mergeKey_170 : decode cX8_mergeKey 170 = .ok (.aload_n 0, 1) := by decide +kernel
theorem dX8_mergeKey_171 : decode cX8_mergeKey 171 = .ok (.getfield 28, 3) := by decide +kernel
theorem dX8_mergeKey_174 : decode cX8_mergeKey 174 = .ok (.dup, 1) := by decide +kernel
theorem dX8_mergeKey_175 : decode cX8_mergeKey 175 = .ok (.getfield 123, 3) := by decide +kernel
theorem dX8_mergeKey_178 : decode cX8_mergeKey 178 = .ok (.iload_n 2, 1) := by decide +kernel
theorem dX8_mergeKey_179 : decode cX8_mergeKey 179 = .ok (.isub, 1) := by decide +kernel
theorem dX8_mergeKey_180 : decode cX8_mergeKey 180 = .ok (.putfield 123, 3) := by decide +kernel
theorem dX8_mergeKey_183 : decode cX8_mergeKey 183 = .ok (.iload_n 3, 1) := by decide +kernel
theorem dX8_mergeKey_184 : decode cX8_mergeKey 184 = .ok (.iconst (-1), 1) := by decide +kernel
theorem dX8_mergeKey_185 : decode cX8_mergeKey 185 = .ok (.if_icmp .eq 13, 3) := by decide +kernel
theorem dX8_mergeKey_188 : decode cX8_mergeKey 188 = .ok (.aload_n 0, 1) := by decide +kernel
theorem dX8_mergeKey_189 : decode cX8_mergeKey 189 = .ok (.getfield 28, 3) := by decide +kernel
theorem dX8_mergeKey_192 : decode cX8_mergeKey 192 = .ok (.getfield 123, 3) := by decide +kernel
theorem dX8_mergeKey_195 : decode cX8_mergeKey 195 = .ok (.ifCond .gt 9, 3) := by decide +kernel
theorem dX8_mergeKey_198 : decode cX8_mergeKey 198 = .ok (.aload_n 0, 1) := by decide +kernel
theorem dX8_mergeKey_199 : decode cX8_mergeKey 199 = .ok (.iload 4, 2) := by decide +kernel
theorem dX8_mergeKey_201 : decode cX8_mergeKey 201 = .ok (.invokevirtual 217, 3) := by decide +kernel
theorem dX8_mergeKey_204 : decode cX8_mergeKey 204 = .ok (.return_, 1) := by decide +kernel
theorem sBh_congr {w w' : Int → Int} (he : eqR w w') {key : Int} (hk : 0 ≤ key ∧ key < 60) : ∀ (k lo : Nat), lo + k ≤ 12 → sBh w' key k lo = sBh w key k lo
  | 0, _, _ => rfl
  | k + 1, lo, h => by rw [sBh, sBh, sBh_congr he hk k (lo + 1) (by omega)]; unfold wHas; rw [he.2 _ (by omega) (by omega)]
noncomputable def sMerged (w : Int → Int) : Int → Int := if 0 < sLeft (sTakes w (sNext w : Int)) then sTakes w (sNext w : Int) else sEnds (sTakes w (sNext w : Int))
set_option maxHeartbeats 4000000 in
set_option maxRecDepth 100000 in
theorem ct_X8_mergeKey {E : xE} {z : Nat} {T : Nat → Nat × Int} {F : Nat → Nat → Int} {I : Nat → Int → Int} {P : Nat → Nat → Option Nat} {Y : Nat → Int → Option Nat} {a : Nat} {w : Int → Int} (hS : SR T F I P Y a w) (hr : wRn w) (hby : w 16 = 1) (hlt : sNext w < 60) : Ct E 2 mX8_mergeKey 0 0 [.ref a] (z, T, F, I, P, Y) (xQ a none z T F I P Y (sMerged w)) := by
  obtain ⟨⟨hO, hL, hTy⟩, hLw, ⟨π, hB⟩, hV, hLf⟩ := id hS
  obtain ⟨⟨⟨⟨s0, s1, s2, s3⟩, sR, ⟨s4, s5⟩, ⟨s6, sLv⟩, ⟨s7, s8⟩, ⟨s9, sJo⟩, s10, s11, s12⟩, p1, p2, p3, p4, p5⟩, ⟨⟨c1, c9, c10, c11, c12, c13, c14, c15⟩, hTl, j0, j1, j2⟩, hRn, hTb, hOt, hJo⟩ := id hB
  obtain ⟨hR, o0, o1, o2, o3, o4, o5, o6, oc, o13, o14, o16, o17, o18, ov⟩ := id hO
  have hN := wN_i o0.1
  obtain ⟨key, hkey⟩ : ∃ key : Nat, key = sNext w := ⟨_, rfl⟩
  have hk : 0 ≤ (key : Int) ∧ (key : Int) < 60 := by omega
  have hm1 := sNext_hit o18 hlt
  obtain ⟨m, hmN⟩ : ∃ m : Nat, m = sNewI w (key : Int) := ⟨_, rfl⟩
  rw [← hkey, ← hmN] at hm1
  obtain ⟨hmp, hml⟩ := sNewI_p (w := w) (key := (key : Int)) (by rw [← hmN]; exact hm1)
  rw [← hmN] at hmp hml
  have hmi : w (200 + 122 * (m : Int)) = 1 := by
    cases q : wInp w m
    · rw [q] at hmp; cases hmp
    · exact of_decide_eq_true q
  have hmv : w (201 + 122 * (m : Int) + (key : Int)) ≠ -1 := by
    cases q : wHas w (key : Int) m
    · rw [q, Bool.and_false] at hmp; cases hmp
    · exact of_decide_eq_true q
  have hmb := ov (201 + 122 * (m : Int) + (key : Int)) (by omega) (by omega)
  have hmg := ov (261 + 122 * (m : Int) + (key : Int)) (by omega) (by omega)
  obtain ⟨vn, hvn⟩ : ∃ vn : Nat, (vn : Int) = w (201 + 122 * (m : Int) + (key : Int)) := ⟨(w (201 + 122 * (m : Int) + (key : Int))).toNat, by omega⟩
  have ho := sR (π 13) (p4 13 (by omega))
  have ho0 := ho.1
  have hq13 := p4 13 (by omega)
  have hobx := ov (79 + (key : Int)) (by omega) (by omega)
  have hsN := sSeen_bd w (key : Int) (wN w)
  have hnN := sNw_at hmp hml hm1
  have hoN := sOld_bd (w := w) (wN w)
  have hom := sOld_max hm1 (show wInp w m = true from decide_eq_true hmi)
  have htl0 := hTl.1
  have h7 := oc 7 (by omega) (by omega)
  have h8 := oc 8 (by omega) (by omega)
  have eA : wS w (7 + ((0 : Nat) : Int)) (min 99999 (w 7 + sSeen w (key : Int) (wN w))) = sTk1 w (key : Int) := by
    unfold sTk1
    rw [← hmN, sRd_sum (by omega), show m + (wN w - m) = wN w by omega, (sNw_none hml).2, Int.sub_zero]; rfl
  have hSA := hS.tal (k := 0) (v := min 99999 (w 7 + sSeen w (key : Int) (wN w))) (by omega) (by omega)
  rw [eA] at hSA
  have hlow : sLow w (key : Int) (wN w) = sBh (sTk1 w (key : Int)) (key : Int) (wN (sTk1 w (key : Int)) - (sOld w (wN w) + 1).toNat) (sOld w (wN w) + 1).toNat := by
    have heA : eqR w (sTk1 w (key : Int)) := eqR_S _ _ _ (by omega)
    rw [heA.n, sBh_congr heA hk _ _ (by omega), sLow_bh (o := (sOld w (wN w)).toNat) (by omega), show (sOld w (wN w)).toNat + 1 = (sOld w (wN w) + 1).toNat by omega]
  have hSB := hSA.out (key := key) (v := vn) (g := min 99 (w (261 + 122 * (m : Int) + (key : Int)) + 1)) p3 (by omega) (by omega) (by omega)
  have hb8 := hSB.2.2.1
  obtain ⟨_, hb8⟩ := hb8
  have hb9 := hb8.2.1.2.1.2.1
  rw [wS_ne _ _ _ (by omega), wS_ne _ _ _ (by omega), show sTk1 w (key : Int) 8 = w 8 from wS_ne _ _ _ (by omega)] at hb9
  have hSC := hSB.tal (k := 1) (v := min 99999 (w 8 + 1)) (by omega) (by omega)
  have eC : wS (wS (wS (sTk1 w (key : Int)) (79 + (key : Int)) (vn : Int)) (139 + (key : Int)) (min 99 (w (261 + 122 * (m : Int) + (key : Int)) + 1))) (7 + ((1 : Nat) : Int)) (min 99999 (w 8 + 1)) = sTk2 w (key : Int) := by unfold sTk2; rw [← hmN, hvn]; rfl
  rw [eC] at hSC
  have eT : (w (201 + 122 * (m : Int) + (key : Int)) ≠ 100 ∨ sLow w (key : Int) (wN w) = true) → (if w (201 + 122 * (m : Int) + (key : Int)) ≠ 100 ∨ sLow w (key : Int) (wN w) = true then sTk2 w (key : Int) else sTk1 w (key : Int)) = sTk2 w (key : Int) := fun q => if_pos q
  have eF : ¬ (w (201 + 122 * (m : Int) + (key : Int)) ≠ 100 ∨ sLow w (key : Int) (wN w) = true) → (if w (201 + 122 * (m : Int) + (key : Int)) ≠ 100 ∨ sLow w (key : Int) (wN w) = true then sTk2 w (key : Int) else sTk1 w (key : Int)) = sTk1 w (key : Int) := fun q => if_neg q
  refine Ct.of [some (.ref a), none, none, none, none, none] kt_X8_mergeKey rfl (Nat.le_of_ble_eq_true rfl) rfl (fun d hd => ?_)
  generalize hX : xN E _ _ _ = X
  refine xg_aloadn 1 dX8_mergeKey_0 rfl rfl rfl ?_
  refine xg_callV 4 8 [] _ kv_X8_nextKey ⟨_, _, rfl⟩ kl_RX8_197 dX8_mergeKey_1 rfl (by assumption) (by omega) rfl rfl (Nat.le_of_ble_eq_true rfl) (by omega) ⟨Nat.le_refl _, Nat.le_refl _⟩ (ct_X8_nextKey hr.i01 hS hby) rfl ?_
  rw [← hkey]
  refine xg_istoren 5 _ dX8_mergeKey_4 rfl rfl rfl (by decide) (Or.inr rfl) ?_
  refine xg_iconst 6 dX8_mergeKey_5 rfl ?_
  refine xg_istoren 7 _ dX8_mergeKey_6 rfl rfl rfl (by decide) (Or.inr rfl) ?_
  refine xg_iconst 8 dX8_mergeKey_7 rfl ?_
  refine xg_istoren 9 _ dX8_mergeKey_8 rfl rfl rfl (by decide) (Or.inr rfl) ?_
  refine xg_iconst 10 dX8_mergeKey_9 rfl ?_
  refine xg_istore 12 _ dX8_mergeKey_10 rfl rfl (by decide) (Or.inr rfl) ?_
  refine xg_iconst 13 dX8_mergeKey_12 rfl ?_
  refine xg_istore 15 _ dX8_mergeKey_13 rfl rfl (by decide) (Or.inr rfl) ?_
  have loop15 : ∀ (mm : Nat) (r : Nat), ((r : Int) ≤ w 0) → w 0 - (r : Int) < (mm : Int) → xG E mX8_mergeKey (xR d 0 0) X 15 [some (.ref a), some (J (key : Int)), some (J (sSeen w (key : Int) r)), some (J (sNw w (key : Int) r)), some (J (sOld w r)), some (J (r : Int))] [] (z, T, F, I, P, Y) 0 0 := by
    intro mm
    induction mm with
    | zero => intro r hr1 hm; exfalso; omega
    | succ mm ih =>
      intro r hr1 hm
      have hsb := sSeen_bd w (key : Int) r
      have hnb := sNw_bd (w := w) (key := (key : Int)) r
      have hob := sOld_bd (w := w) r
      refine xg_iload 17 dX8_mergeKey_15 rfl rfl ?_
      refine xg_aloadn 18 dX8_mergeKey_17 rfl rfl rfl ?_
      refine xg_getI 21 kf_RX8_70 dX8_mergeKey_18 rfl (by assumption) ?_
      refine xg_icge 84 24 dX8_mergeKey_21 rfl rfl (by omega) (fun hb21 => ?_) (fun hb21 => ?_)
      · skip
        have e9 : r = wN w := by omega
        subst e9
        refine xg_aloadn 85 dX8_mergeKey_84 rfl rfl rfl ?_
        refine xg_getP 88 kf_RX8_42 dX8_mergeKey_85 rfl (by assumption) (by assumption) ?_
        refine xg_iloadn 89 dX8_mergeKey_88 rfl rfl rfl ?_
        refine xg_callV 92 10 [_] _ kv_X10_addReads ⟨_, _, rfl⟩ kl_RX8_200 dX8_mergeKey_89 rfl (by assumption) (by omega) rfl rfl (Nat.le_of_ble_eq_true rfl) (by omega) ⟨Nat.le_refl _, Nat.le_refl _⟩ (ct_X10_addReads (by omega) s8 (by rw [htl0]; exact h7)) rfl ?_
        rw [htl0]
        rw [hnN]
        refine xg_iloadn 93 dX8_mergeKey_92 rfl rfl rfl ?_
        refine xg_iconst 94 dX8_mergeKey_93 rfl ?_
        refine xg_iceq 160 97 dX8_mergeKey_94 rfl rfl (by omega) (fun hb94 => ?_) (fun hb94 => ?_)
        · exfalso; omega
        · skip
          have join160 : ∀ (F2 : Nat → Nat → Int) (I2 : Nat → Int → Int), SR T F2 I2 P Y a (if w (201 + 122 * (m : Int) + (key : Int)) ≠ 100 ∨ sLow w (key : Int) (wN w) = true then sTk2 w (key : Int) else sTk1 w (key : Int)) → SF a F I P Y F2 I2 P Y → xG E mX8_mergeKey (xR d 0 0) X 160 [some (.ref a), some (J (key : Int)), some (J (sSeen w (key : Int) (wN w))), some (J (m : Int)), some (J (sOld w (wN w))), none] [] (z, T, F2, I2, P, Y) 0 0 := by
            intro F2 I2 hS2 hF2
            have heB : eqR w (if w (201 + 122 * (m : Int) + (key : Int)) ≠ 100 ∨ sLow w (key : Int) (wN w) = true then sTk2 w (key : Int) else sTk1 w (key : Int)) := by
              split
              · exact (((eqR_S _ _ _ (by omega)).tr (eqR_S _ _ _ (by omega))).tr (eqR_S _ _ _ (by omega))).tr (eqR_S _ _ _ (by omega))
              · exact eqR_S _ _ _ (by omega)
            have hB18 : (if w (201 + 122 * (m : Int) + (key : Int)) ≠ 100 ∨ sLow w (key : Int) (wN w) = true then sTk2 w (key : Int) else sTk1 w (key : Int)) 18 = w 18 ∧ (if w (201 + 122 * (m : Int) + (key : Int)) ≠ 100 ∨ sLow w (key : Int) (wN w) = true then sTk2 w (key : Int) else sTk1 w (key : Int)) 16 = w 16 := by
              split
              · unfold sTk2 sTk1
                refine ⟨?_, ?_⟩ <;> rw [wS_ne _ _ _ (by omega), wS_ne _ _ _ (by omega), wS_ne _ _ _ (by omega), wS_ne _ _ _ (by omega)]
              · unfold sTk1
                refine ⟨?_, ?_⟩ <;> rw [wS_ne _ _ _ (by omega)]
            have hL2 : F2 (a + 44) 3 = sLeft w := hS2.2.2.2.2.trans (heB.left o0 hB18.1)
            have heT : wS (if w (201 + 122 * (m : Int) + (key : Int)) ≠ 100 ∨ sLow w (key : Int) (wN w) = true then sTk2 w (key : Int) else sTk1 w (key : Int)) 18 ((key : Int) + 1) = sTakes w (key : Int) := by unfold sTakes; rw [hmN]
            have hSD := hS2.at (key := (key : Int)) (m := sLeft w - sSeen w (key : Int) (wN w)) (hB18.2.trans hby) hk (by rw [heT, hkey]; exact (sLeft_takes hO hlt).symm)
            rw [heT] at hSD
            have hlt2 : sLeft (sTakes w (key : Int)) = sLeft w - sSeen w (key : Int) (wN w) := by rw [hkey]; exact sLeft_takes hO hlt
            have hFD : SF a F I P Y (upF (upF F2 (a + 44) 2 ((key : Int) + 1)) (a + 44) 3 (sLeft w - sSeen w (key : Int) (wN w))) I2 P Y := (hF2.tr (SF.uF (by omega))).tr (SF.uF (by omega))
            refine xg_aloadn 161 dX8_mergeKey_160 rfl rfl rfl ?_
            refine xg_getP 164 kf_RX8_28 dX8_mergeKey_161 rfl (by assumption) (by assumption) ?_
            refine xg_iloadn 165 dX8_mergeKey_164 rfl rfl rfl ?_
            refine xg_iconst 166 dX8_mergeKey_165 rfl ?_
            refine xg_iadd 167 dX8_mergeKey_166 rfl ?_
            refine xg_putI 170 kf_RX8_173 dX8_mergeKey_167 rfl (by assumption) ?_
            refine xg_aloadn 171 dX8_mergeKey_170 rfl rfl rfl ?_
            refine xg_getP 174 kf_RX8_28 dX8_mergeKey_171 rfl (by assumption) (by assumption) ?_
            refine xg_dup 175 dX8_mergeKey_174 rfl rfl ?_
            refine xg_getI 178 kf_RX8_123 dX8_mergeKey_175 rfl (by assumption) ?_
            rw [upF_nk _ _ _ _ (show (3 : Nat) ≠ 2 by omega), hL2]
            refine xg_iloadn 179 dX8_mergeKey_178 rfl rfl rfl ?_
            refine xg_isub 180 dX8_mergeKey_179 rfl ?_
            refine xg_putI 183 kf_RX8_123 dX8_mergeKey_180 rfl (by assumption) ?_
            refine xg_iloadn 184 dX8_mergeKey_183 rfl rfl rfl ?_
            refine xg_iconst 185 dX8_mergeKey_184 rfl ?_
            refine xg_iceq 198 188 dX8_mergeKey_185 rfl rfl (by omega) (fun hb185 => ?_) (fun hb185 => ?_)
            · exfalso; omega
            · skip
              refine xg_aloadn 189 dX8_mergeKey_188 rfl rfl rfl ?_
              refine xg_getP 192 kf_RX8_28 dX8_mergeKey_189 rfl (by assumption) (by assumption) ?_
              refine xg_getI 195 kf_RX8_123 dX8_mergeKey_192 rfl (by assumption) ?_
              rw [upF_at]
              have hlb := sLeft_bd (w := w) o0.2
              refine xg_ifgt 204 198 dX8_mergeKey_195 rfl rfl (by omega) (fun hb195 => ?_) (fun hb195 => ?_)
              · skip
                subst hX
                exact xg_return dX8_mergeKey_204 rfl ⟨Nat.le_refl _, Nat.le_refl _⟩ ⟨rfl, _, _, P, Y, rfl, by unfold sMerged; rw [← hkey, if_pos (by omega)]; exact hSD, hFD⟩
              · skip
                have heo : oL (sTakes w (key : Int)) = sOld w (wN w) := by
                  have he := eqR_takes (w := w) hk
                  unfold oL
                  rw [he.n]
                  exact sOld_congr (fun r hr => by unfold wInp; rw [he.2 _ (by omega) (by omega)]) _ (Nat.le_refl _)
                obtain ⟨k1, k2, ⟨ρ, k3⟩, -⟩ := id hSD
                have hend := ct_X8_endJob (E := E) (z := z) k2 k1 k3 (wRn_takes hr hO hby hk) ((sTakes_c (by omega) hk).trans hby) (by rw [heo]; omega)
                rw [heo] at hend
                refine xg_aloadn 199 dX8_mergeKey_198 rfl rfl rfl ?_
                refine xg_iload 201 dX8_mergeKey_199 rfl rfl ?_
                refine xg_callVq 204 8 [J (sOld w (wN w))] _ kv_X8_endJob ⟨_, _, rfl⟩ kl_RX8_217 dX8_mergeKey_201 rfl (by assumption) (by omega) rfl rfl (Nat.le_of_ble_eq_true rfl) (by omega) ⟨Nat.le_refl _, Nat.le_refl _⟩ (hend) rfl (fun F4 I4 P4 Y4 hS4 hF4 => ?_)
                subst hX
                exact xg_return dX8_mergeKey_204 rfl ⟨Nat.le_refl _, Nat.le_refl _⟩ ⟨rfl, _, _, _, _, rfl, by unfold sMerged; rw [← hkey, if_neg (by omega)]; exact hS4, hFD.tr hF4⟩
          have hqm := p4 m (by omega)
          have hbm := sR (π m) hqm
          have hbm0 := hbm.1
          have hrm := hRn m (by omega)
          refine xg_aloadn 98 dX8_mergeKey_97 rfl rfl rfl ?_
          refine xg_getP 101 kf_RX8_11 dX8_mergeKey_98 rfl (by assumption) (by assumption) ?_
          refine xg_iloadn 102 dX8_mergeKey_101 rfl rfl rfl ?_
          refine xg_rald 103 dX8_mergeKey_102 rfl (by assumption) (by omega) (p1 m (by omega)) ?_
          refine xg_iloadn 104 dX8_mergeKey_103 rfl rfl rfl ?_
          refine xg_callV 107 6 [_] _ kv_X6_valueOf ⟨_, _, rfl⟩ kl_RX8_113 dX8_mergeKey_104 rfl (by assumption) (by omega) rfl rfl (Nat.le_of_ble_eq_true rfl) (by omega) ⟨Nat.le_refl _, Nat.le_refl _⟩ (ct_X6_valueOf hbm (by omega)) rfl ?_
          rw [hrm.v (by omega), ← hvn]
          refine xg_istore 109 _ dX8_mergeKey_107 rfl rfl (by decide) (Or.inr rfl) ?_
          refine xg_iload 111 dX8_mergeKey_109 rfl rfl ?_
          refine xg_bipush 113 dX8_mergeKey_111 rfl (by decide) ?_
          refine xg_icne 126 116 dX8_mergeKey_113 rfl rfl (by omega) (fun hb113 => ?_) (fun hb113 => ?_)
          · skip
            refine xg_aloadn 127 dX8_mergeKey_126 rfl rfl rfl ?_
            refine xg_getP 130 kf_RX8_22 dX8_mergeKey_127 rfl (by assumption) (by assumption) ?_
            refine xg_iloadn 131 dX8_mergeKey_130 rfl rfl rfl ?_
            refine xg_iload 133 dX8_mergeKey_131 rfl rfl ?_
            refine xg_bipush 135 dX8_mergeKey_133 rfl (by decide) ?_
            refine xg_aloadn 136 dX8_mergeKey_135 rfl rfl rfl ?_
            refine xg_getP 139 kf_RX8_11 dX8_mergeKey_136 rfl (by assumption) (by assumption) ?_
            refine xg_iloadn 140 dX8_mergeKey_139 rfl rfl rfl ?_
            refine xg_rald 141 dX8_mergeKey_140 rfl (by assumption) (by omega) (p1 m (by omega)) ?_
            refine xg_iloadn 142 dX8_mergeKey_141 rfl rfl rfl ?_
            refine xg_callV 145 6 [_] _ kv_X6_rewritesOf ⟨_, _, rfl⟩ kl_RX8_207 dX8_mergeKey_142 rfl (by assumption) (by omega) rfl rfl (Nat.le_of_ble_eq_true rfl) (by omega) ⟨Nat.le_refl _, Nat.le_refl _⟩ (ct_X6_rewritesOf hbm (by omega)) rfl ?_
            rw [hrm.g (by omega) hmv]
            refine xg_iconst 146 dX8_mergeKey_145 rfl ?_
            refine xg_iadd 147 dX8_mergeKey_146 rfl ?_
            refine xg_mmin 150 kl_RX8_168 dX8_mergeKey_147 rfl (by omega) (Nat.le_of_ble_eq_true rfl) (by omega) ⟨Nat.le_refl _, Nat.le_refl _⟩ ?_
            refine xg_callV 153 6 [_, _, _] _ kv_X6_enter ⟨_, _, rfl⟩ kl_RX8_210 dX8_mergeKey_150 rfl (by assumption) (by omega) rfl rfl (Nat.le_of_ble_eq_true rfl) (by omega) ⟨Nat.le_refl _, Nat.le_refl _⟩ (ct_X6_enter ho hk (by rw [hOt.v2 hk]; omega)) rfl ?_
            refine xg_aloadn 154 dX8_mergeKey_153 rfl rfl rfl ?_
            refine xg_getP 157 kf_RX8_42 dX8_mergeKey_154 rfl (by assumption) (by assumption) ?_
            refine xg_callV 160 10 [] _ kv_X10_addWrite ⟨_, _, rfl⟩ kl_RX8_214 dX8_mergeKey_157 rfl (by assumption) (by omega) rfl rfl (Nat.le_of_ble_eq_true rfl) (by omega) ⟨Nat.le_refl _, Nat.le_refl _⟩ (ct_X10_addWrite s8 (by rw [hb9]; exact h8)) rfl ?_
            rw [hb9]
            refine xg_weak _ (xle_s rfl (xle_s rfl (xle_s rfl (xle_s rfl (xle_s rfl (xle_n xle_0)))))) (join160 _ _ ?_ ?_)
            · rw [eT (by first | exact Or.inl (by omega) | exact Or.inr (by rw [hlow]; exact hb123))]
              exact hSC
            · exact ((SF.uF (by omega)).tr (SF.en (by omega))).tr (SF.uF (by omega))
          · skip
            refine xg_aloadn 117 dX8_mergeKey_116 rfl rfl rfl ?_
            refine xg_iload 119 dX8_mergeKey_117 rfl rfl ?_
            refine xg_iloadn 120 dX8_mergeKey_119 rfl rfl rfl ?_
            refine xg_callV 123 8 [_, _] _ kv_X8_isBehind ⟨_, _, rfl⟩ kl_RX8_203 dX8_mergeKey_120 rfl (by assumption) (by omega) rfl rfl (Nat.le_of_ble_eq_true rfl) (by omega) ⟨Nat.le_refl _, Nat.le_refl _⟩ (ct_X8_isBehind hSA hk (by omega)) rfl ?_
            refine xg_beq 160 126 dX8_mergeKey_123 rfl rfl (fun hb123 => ?_) (fun hb123 => ?_)
            · skip
              refine xg_weak _ (xle_s rfl (xle_s rfl (xle_s rfl (xle_s rfl (xle_s rfl (xle_n xle_0)))))) (join160 _ _ ?_ ?_)
              · rw [eF (fun q => by rcases q with q | q; (exact q (by omega)); (rw [hlow, hb123] at q; cases q))]
                exact hSA
              · exact SF.uF (by omega)
            · skip
              refine xg_aloadn 127 dX8_mergeKey_126 rfl rfl rfl ?_
              refine xg_getP 130 kf_RX8_22 dX8_mergeKey_127 rfl (by assumption) (by assumption) ?_
              refine xg_iloadn 131 dX8_mergeKey_130 rfl rfl rfl ?_
              refine xg_iload 133 dX8_mergeKey_131 rfl rfl ?_
              refine xg_bipush 135 dX8_mergeKey_133 rfl (by decide) ?_
              refine xg_aloadn 136 dX8_mergeKey_135 rfl rfl rfl ?_
              refine xg_getP 139 kf_RX8_11 dX8_mergeKey_136 rfl (by assumption) (by assumption) ?_
              refine xg_iloadn 140 dX8_mergeKey_139 rfl rfl rfl ?_
              refine xg_rald 141 dX8_mergeKey_140 rfl (by assumption) (by omega) (p1 m (by omega)) ?_
              refine xg_iloadn 142 dX8_mergeKey_141 rfl rfl rfl ?_
              refine xg_callV 145 6 [_] _ kv_X6_rewritesOf ⟨_, _, rfl⟩ kl_RX8_207 dX8_mergeKey_142 rfl (by assumption) (by omega) rfl rfl (Nat.le_of_ble_eq_true rfl) (by omega) ⟨Nat.le_refl _, Nat.le_refl _⟩ (ct_X6_rewritesOf hbm (by omega)) rfl ?_
              rw [hrm.g (by omega) hmv]
              refine xg_iconst 146 dX8_mergeKey_145 rfl ?_
              refine xg_iadd 147 dX8_mergeKey_146 rfl ?_
              refine xg_mmin 150 kl_RX8_168 dX8_mergeKey_147 rfl (by omega) (Nat.le_of_ble_eq_true rfl) (by omega) ⟨Nat.le_refl _, Nat.le_refl _⟩ ?_
              refine xg_callV 153 6 [_, _, _] _ kv_X6_enter ⟨_, _, rfl⟩ kl_RX8_210 dX8_mergeKey_150 rfl (by assumption) (by omega) rfl rfl (Nat.le_of_ble_eq_true rfl) (by omega) ⟨Nat.le_refl _, Nat.le_refl _⟩ (ct_X6_enter ho hk (by rw [hOt.v2 hk]; omega)) rfl ?_
              refine xg_aloadn 154 dX8_mergeKey_153 rfl rfl rfl ?_
              refine xg_getP 157 kf_RX8_42 dX8_mergeKey_154 rfl (by assumption) (by assumption) ?_
              refine xg_callV 160 10 [] _ kv_X10_addWrite ⟨_, _, rfl⟩ kl_RX8_214 dX8_mergeKey_157 rfl (by assumption) (by omega) rfl rfl (Nat.le_of_ble_eq_true rfl) (by omega) ⟨Nat.le_refl _, Nat.le_refl _⟩ (ct_X10_addWrite s8 (by rw [hb9]; exact h8)) rfl ?_
              rw [hb9]
              refine xg_weak _ (xle_s rfl (xle_s rfl (xle_s rfl (xle_s rfl (xle_s rfl (xle_n xle_0)))))) (join160 _ _ ?_ ?_)
              · rw [eT (by first | exact Or.inl (by omega) | exact Or.inr (by rw [hlow]; exact hb123))]
                exact hSC
              · exact ((SF.uF (by omega)).tr (SF.en (by omega))).tr (SF.uF (by omega))
      · skip
        refine xg_iload 26 dX8_mergeKey_24 rfl rfl ?_
        refine xg_bipush 28 dX8_mergeKey_26 rfl (by decide) ?_
        refine xg_icge 84 31 dX8_mergeKey_28 rfl rfl (by omega) (fun hb28 => ?_) (fun hb28 => ?_)
        · exfalso; omega
        · skip
          refine xg_aloadn 32 dX8_mergeKey_31 rfl rfl rfl ?_
          refine xg_getP 35 kf_RX8_11 dX8_mergeKey_32 rfl (by assumption) (by assumption) ?_
          refine xg_iload 37 dX8_mergeKey_35 rfl rfl ?_
          have hr12 : r < 12 := by omega
          have hq := p4 r (by omega)
          have hb := sR (π r) hq
          have hb0 := hb.1
          have hrn := hRn r (by omega)
          refine xg_rald 38 dX8_mergeKey_37 rfl (by assumption) (by omega) (p1 r (by omega)) ?_
          have hr12 : r < 12 := by omega
          have hq := p4 r (by omega)
          have hb := sR (π r) hq
          have hb0 := hb.1
          have hrn := hRn r (by omega)
          have hrn2 := hrn.2.1
          have hvj := ov (200 + 122 * (r : Int)) (by omega) (by omega)
          have hi01 := hr.i01 r (by omega)
          refine xg_getI 41 kf_RX8_110 dX8_mergeKey_38 rfl (by assumption) ?_
          refine xg_ifeq 78 44 dX8_mergeKey_41 rfl rfl (by omega) (fun hb41 => ?_) (fun hb41 => ?_)
          · skip
            refine xg_iinc 81 _ dX8_mergeKey_78 rfl rfl rfl rfl (by decide) (Or.inr rfl) ?_
            refine xg_goto 15 dX8_mergeKey_81 rfl ?_
            have hx : (wInp w r && wHas w (key : Int) r) = false := by rw [show wInp w r = false from decide_eq_false (by omega)]; rfl
            exact xg_weak _ (xle_s rfl (xle_s rfl (xle_s (by rw [sSeen_s, hx]; simp) (xle_s (by rw [sNw, if_neg (fun q => by rw [hx] at q; cases q.2)]) (xle_s (by rw [sOld, if_neg (by rw [show wInp w r = false from decide_eq_false (by omega)]; decide)]) (xle_s rfl xle_0)))))) (ih (r + 1) (by omega) (by omega))
          · skip
            refine xg_iload 46 dX8_mergeKey_44 rfl rfl ?_
            refine xg_istore 48 _ dX8_mergeKey_46 rfl rfl (by decide) (Or.inr rfl) ?_
            refine xg_aloadn 49 dX8_mergeKey_48 rfl rfl rfl ?_
            refine xg_getP 52 kf_RX8_11 dX8_mergeKey_49 rfl (by assumption) (by assumption) ?_
            refine xg_iload 54 dX8_mergeKey_52 rfl rfl ?_
            skip
            refine xg_rald 55 dX8_mergeKey_54 rfl (by assumption) (by omega) (p1 r (by omega)) ?_
            refine xg_iloadn 56 dX8_mergeKey_55 rfl rfl rfl ?_
            refine xg_callV 59 6 [_] _ kv_X6_valueOf ⟨_, _, rfl⟩ kl_RX8_113 dX8_mergeKey_56 rfl (by assumption) (by omega) rfl rfl (Nat.le_of_ble_eq_true rfl) (by omega) ⟨Nat.le_refl _, Nat.le_refl _⟩ (ct_X6_valueOf hb (by omega)) rfl ?_
            rw [hrn.v (by omega)]
            have hvr := ov (201 + 122 * (r : Int) + (key : Int)) (by omega) (by omega)
            refine xg_iconst 60 dX8_mergeKey_59 rfl ?_
            refine xg_iceq 78 63 dX8_mergeKey_60 rfl rfl (by omega) (fun hb60 => ?_) (fun hb60 => ?_)
            · skip
              refine xg_iinc 81 _ dX8_mergeKey_78 rfl rfl rfl rfl (by decide) (Or.inr rfl) ?_
              refine xg_goto 15 dX8_mergeKey_81 rfl ?_
              have hy : wInp w r = true := decide_eq_true (by omega)
              have hx : (wInp w r && wHas w (key : Int) r) = false := by rw [show wHas w (key : Int) r = false from decide_eq_false (by omega), Bool.and_false]
              exact xg_weak _ (xle_s rfl (xle_s rfl (xle_s (by rw [sSeen_s, hx]; simp) (xle_s (by rw [sNw, if_neg (fun q => by rw [hx] at q; cases q.2)]) (xle_s (by rw [sOld, if_pos hy]) (xle_s rfl xle_0)))))) (ih (r + 1) (by omega) (by omega))
            · skip
              refine xg_iinc 66 _ dX8_mergeKey_63 rfl rfl rfl rfl (by decide) (Or.inr rfl) ?_
              refine xg_iloadn 67 dX8_mergeKey_66 rfl rfl rfl ?_
              refine xg_iconst 68 dX8_mergeKey_67 rfl ?_
              refine xg_icne 76 71 dX8_mergeKey_68 rfl rfl (by omega) (fun hb68 => ?_) (fun hb68 => ?_)
              · skip
                refine xg_iloadn 77 dX8_mergeKey_76 rfl rfl rfl ?_
                refine xg_istoren 78 _ dX8_mergeKey_77 rfl rfl rfl (by decide) (Or.inr rfl) ?_
                refine xg_iinc 81 _ dX8_mergeKey_78 rfl rfl rfl rfl (by decide) (Or.inr rfl) ?_
                refine xg_goto 15 dX8_mergeKey_81 rfl ?_
                have hy : wInp w r = true := decide_eq_true (by omega)
                have hx : (wInp w r && wHas w (key : Int) r) = true := by rw [hy, show wHas w (key : Int) r = true from decide_eq_true (by omega)]; rfl
                exact xg_weak _ (xle_s rfl (xle_s rfl (xle_s (by rw [sSeen_s, if_pos hx]) (xle_s (by rw [sNw, if_neg (fun q => hb68 q.1)]) (xle_s (by rw [sOld, if_pos hy]) (xle_s rfl xle_0)))))) (ih (r + 1) (by omega) (by omega))
              · skip
                refine xg_iload 73 dX8_mergeKey_71 rfl rfl ?_
                refine xg_goto 77 dX8_mergeKey_73 rfl ?_
                refine xg_istoren 78 _ dX8_mergeKey_77 rfl rfl rfl (by decide) (Or.inr rfl) ?_
                refine xg_iinc 81 _ dX8_mergeKey_78 rfl rfl rfl rfl (by decide) (Or.inr rfl) ?_
                refine xg_goto 15 dX8_mergeKey_81 rfl ?_
                have hy : wInp w r = true := decide_eq_true (by omega)
                have hx : (wInp w r && wHas w (key : Int) r) = true := by rw [hy, show wHas w (key : Int) r = true from decide_eq_true (by omega)]; rfl
                exact xg_weak _ (xle_s rfl (xle_s rfl (xle_s (by rw [sSeen_s, if_pos hx]) (xle_s (by rw [sNw, if_pos ⟨hb68, hx⟩]) (xle_s (by rw [sOld, if_pos hy]) (xle_s rfl xle_0)))))) (ih (r + 1) (by omega) (by omega))
  exact xg_weak _ (xle_s rfl (xle_s rfl (xle_s rfl (xle_s rfl (xle_s rfl (xle_s rfl xle_0)))))) (loop15 14 0 (by omega) (by omega))

