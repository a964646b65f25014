theorem dX8_endJob_0 : decode cX8_endJob 0 = .ok (.aload_n 0, 1) := by decide +kernel
theorem dX8_endJob_1 : decode cX8_endJob 1 = .ok (.getfield 49, 3) := by decide +kernel
theorem dX8_endJob_4 : decode cX8_endJob 4 = .ok (.aload_n 0, 1) := by decide +kernel
theorem dX8_endJob_5 : decode cX8_endJob 5 = .ok (.getfield 93, 3) := by decide +kernel
theorem dX8_endJob_8 : decode cX8_endJob 8 = .ok (.iconst 2, 1) := by decide +kernel
theorem dX8_endJob_9 : decode cX8_endJob 9 = .ok (.aload_n 0, 1) := by decide +kernel
theorem dX8_endJob_10 : decode cX8_endJob 10 = .ok (.getfield 28, 3) := by decide +kernel
theorem dX8_endJob_13 : decode cX8_endJob 13 = .ok (.getfield 133, 3) := by decide +kernel
theorem dX8_endJob_16 : decode cX8_endJob 16 = .ok (.aload_n 0, 1) := by decide +kernel
theorem dX8_endJob_17 : decode cX8_endJob 17 = .ok (.getfield 22, 3) := by decide +kernel
theorem dX8_endJob_20 : decode cX8_endJob 20 = .ok (.getfield 117, 3) := by decide +kernel
theorem dX8_endJob_23 : decode cX8_endJob 23 = .ok (.invokevirtual 176, 3) := by decide +kernel
theorem dX8_endJob_26 : decode cX8_endJob 26 = .ok (.aload_n 0, 1) := by decide +kernel
theorem dX8_endJob_27 : decode cX8_endJob 27 = .ok (.getfield 22, 3) := by decide +kernel
theorem dX8_endJob_30 : decode cX8_endJob 30 = .ok (.getfield 117, 3) := by decide +kernel
theorem dX8_endJob_33 : decode cX8_endJob 33 = .ok (.ifCond .le 49, 3) := by decide +kernel
theorem dX8_endJob_36 : decode cX8_endJob 36 = .ok (.aload_n 0, 1) := by decide +kernel
theorem dX8_endJob_37 : decode cX8_endJob 37 = .ok (.iload_n 1, 1) := by decide +kernel
theorem dX8_endJob_38 : decode cX8_endJob 38 = .ok (.invokevirtual 103, 3) := by decide +kernel
theorem dX8_endJob_41 : decode cX8_endJob 41 = .ok (.ifCond .eq 41, 3) := by decide +kernel
theorem dX8_endJob_44 : decode cX8_endJob 44 = .ok (.aload_n 0, 1) := by decide +kernel
theorem dX8_endJob_45 : decode cX8_endJob 45 = .ok (.getfield 11, 3) := by decide +kernel
theorem dX8_endJob_48 : decode cX8_endJob 48 = .ok (.iload_n 1, 1) := by decide +kernel
theorem dX8_endJob_49 : decode cX8_endJob 49 = .ok (.aaload, 1) := by decide +kernel
theorem dX8_endJob_50 : decode cX8_endJob 50 = .ok (.astore_n 2, 1) := by decide +kernel
theorem dX8_endJob_51 : decode cX8_endJob 51 = .ok (.aload_n 0, 1) := by decide +kernel
theorem dX8_endJob_52 : decode cX8_endJob 52 = .ok (.getfield 11, 3) := by decide +kernel
theorem dX8_endJob_55 : decode cX8_endJob 55 = .ok (.iload_n 1, 1) := by decide +kernel
theorem dX8_endJob_56 : decode cX8_endJob 56 = .ok (.aload_n 0, 1) := by decide +kernel
theorem dX8_endJob_57 : decode cX8_endJob 57 = .ok (.getfield 22, 3) := by decide +kernel
theorem dX8_endJob_60 : decode cX8_endJob 60 = .ok (.aastore, 1) := by decide +kernel
theorem dX8_endJob_61 : decode cX8_endJob 61 = .ok (.aload_n 0, 1) := by decide +kernel
theorem dX8_endJob_62 : decode cX8_endJob 62 = .ok (.getfield 11, 3) := by decide +kernel
theorem dX8_endJob_65 : decode cX8_endJob 65 = .ok (.iload_n 1, 1) := by decide +kernel
theorem dX8_endJob_66 : decode cX8_endJob 66 = .ok (.aaload, 1) := by decide +kernel
theorem dX8_endJob_67 : decode cX8_endJob 67 = .ok (.aload_n 0, 1) := by decide +kernel
theorem dX8_endJob_68 : decode cX8_endJob 68 = .ok (.getfield 28, 3) := by decide +kernel
theorem dX8_endJob_71 : decode cX8_endJob 71 = .ok (.getfield 133, 3) := by decide +kernel
theorem dX8_endJob_74 : decode cX8_endJob 74 = .ok (.putfield 167, 3) := by decide +kernel
theorem dX8_endJob_77 : decode cX8_endJob 77 = .ok (.aload_n 0, 1) := by decide +kernel
theorem dX8_endJob_78 : decode cX8_endJob 78 = .ok (.aload_n 2, 1) := by decide +kernel
theorem dX8_endJob_79 : decode cX8_endJob 79 = .ok (.putfield 22, 3) := by decide +kernel
theorem dX8_endJob_82 : decode cX8_endJob 82 = .ok (.iconst 0, 1) := by decide +kernel
theorem dX8_endJob_83 : decode cX8_endJob 83 = .ok (.istore_n 2, 1) := by decide +kernel
theorem dX8_endJob_84 : decode cX8_endJob 84 = .ok (.iconst 0, 1) := by decide +kernel
theorem dX8_endJob_85 : decode cX8_endJob 85 = .ok (.istore_n 3, 1) := by decide +kernel
theorem dX8_endJob_86 : decode cX8_endJob 86 = .ok (.iload_n 3, 1) := by decide +kernel
theorem dX8_endJob_87 : decode cX8_endJob 87 = .ok (.aload_n 0, 1) := by decide +kernel
theorem dX8_endJob_88 : decode cX8_endJob 88 = .ok (.getfield 70, 3) := by decide +kernel
theorem dX8_endJob_91 : decode cX8_endJob 91 = .ok (.if_icmp .ge 54, 3) := by decide +kernel
theorem dX8_endJob_94 : decode cX8_endJob 94 = .ok (.iload_n 3, 1) := by decide +kernel
theorem dX8_endJob_95 : decode cX8_endJob 95 = .ok (.bipush 12, 2) := by decide +kernel
theorem dX8_endJob_97 : decode cX8_endJob 97 = .ok (.if_icmp .ge 48, 3) := by decide +kernel
theorem dX8_endJob_100 : decode cX8_endJob 100 = .ok (.aload_n 0, 1) := by decide +kernel
theorem dX8_endJob_101 : decode cX8_endJob 101 = .ok (.getfield 11, 3) := by decide +kernel
theorem dX8_endJob_104 : decode cX8_endJob 104 = .ok (.iload_n 3, 1) := by decide +kernel
theorem dX8_endJob_105 : decode cX8_endJob 105 = .ok (.aaload, 1) := by decide +kernel
theorem dX8_endJob_106 : decode cX8_endJob 106 = .ok (.astore 4, 2) := by decide +kernel
theorem dX8_endJob_108 : decode cX8_endJob 108 = .ok (.aload 4, 2) := by decide +kernel
theorem dX8_endJob_110 : decode cX8_endJob 110 = .ok (.getfield 110, 3) := by decide +kernel
theorem dX8_endJob_113 : decode cX8_endJob 113 = .ok (.ifCond .ne 26, 3) := by decide +kernel
theorem dX8_endJob_116 : decode cX8_endJob 116 = .ok (.aload_n 0, 1) := by decide +kernel
theorem dX8_endJob_117 : decode cX8_endJob 117 = .ok (.getfield 11, 3) := by decide +kernel
theorem dX8_endJob_120 : decode cX8_endJob 120 = .ok (.iload_n 3, 1) := by decide +kernel
theorem dX8_endJob_121 : decode cX8_endJob 121 = .ok (.aload_n 0, 1) := by decide +kernel
theorem dX8_endJob_122 : decode cX8_endJob 122 = .ok (.getfield 11, 3) := by decide +kernel
theorem dX8_endJob_125 : decode cX8_endJob 125 = .ok (.iload_n 2, 1) := by decide +kernel
theorem dX8_endJob_126 : decode cX8_endJob 126 = .ok (.aaload, 1) := by decide +kernel
theorem dX8_endJob_127 : decode cX8_endJob 127 = .ok (.aastore, 1) := by decide +kernel
theorem dX8_endJob_128 : decode cX8_endJob 128 = .ok (.aload_n 0, 1) := by decide +kernel
theorem dX8_endJob_129 : decode cX8_endJob 129 = .ok (.getfield 11, 3) := by decide +kernel
theorem dX8_endJob_132 : decode cX8_endJob 132 = .ok (.iload_n 2, 1) := by decide +kernel
theorem dX8_endJob_133 : decode cX8_endJob 133 = .ok (.aload 4, 2) := by decide +kernel
theorem dX8_endJob_135 : decode cX8_endJob 135 = .ok (.aastore, 1) := by decide +kernel
theorem dX8_endJob_136 : decode cX8_endJob 136 = .ok (.iinc 2 1, 3) := by decide +kernel
theorem dX8_endJob_139 : decode cX8_endJob 139 = .ok (.iinc 3 1, 3) := by decide +kernel
theorem dX8_endJob_142 : decode cX8_endJob 142 = .ok (.goto (-56), 3) := by decide +kernel
theorem dX8_endJob_145 : decode cX8_endJob 145 = .ok (.iload_n 2, 1) := by decide +kernel
theorem dX8_endJob_146 : decode cX8_endJob 146 = .ok (.istore_n 3, 1) := by decide +kernel
theorem dX8_endJob_147 : decode cX8_endJob 147 = .ok (.iload_n 3, 1) := by decide +kernel
theorem dX8_endJob_148 : decode cX8_endJob 148 = .ok (.aload_n 0, 1) := by decide +kernel
theorem dX8_endJob_149 : decode cX8_endJob 149 = .ok (.getfield 70, 3) := by decide +kernel
theorem dX8_endJob_152 : decode cX8_endJob 152 = .ok (.if_icmp .ge 24, 3) := by decide +kernel
theorem dX8_endJob_155 : decode cX8_endJob 155 = .ok (.iload_n 3, 1) := by decide +kernel
theorem dX8_endJob_156 : decode cX8_endJob 156 = .ok (.bipush 12, 2) := by decide +kernel
theorem dX8_endJob_158 : decode cX8_endJob 158 = .ok (.if_icmp .ge 18, 3) := by decide +kernel
theorem dX8_endJob_161 : decode cX8_endJob 161 = .ok (.aload_n 0, 1) := by decide +kernel
theorem dX8_endJob_162 : decode cX8_endJob 162 = .ok (.getfield 11, 3) := by decide +kernel
theorem dX8_endJob_165 : decode cX8_endJob 165 = .ok (.iload_n 3, 1) := by decide +kernel
theorem dX8_endJob_166 : decode cX8_endJob 166 = .ok (.aaload, 1) := by decide +kernel
theorem dX8_endJob_167 : decode cX8_endJob 167 = .ok (.invokevirtual 220, 3) := by decide +kernel
theorem dX8_endJob_170 : decode cX8_endJob 170 = .ok (.iinc 3 1, 3) := by decide +kernel
theorem dX8_endJob_173 : decode cX8_endJob 173 = .ok (.goto (-26), 3) := by decide +kernel
theorem dX8_endJob_176 : decode cX8_endJob 176 = .ok (.aload_n 0, 1) := by decide +kernel
theorem dX8_endJob_177 : decode cX8_endJob 177 = .ok (.iload_n 2, 1) := by decide +kernel
theorem dX8_endJob_178 : decode cX8_endJob 178 = .ok (.putfield 70, 3) := by decide +kernel
theorem dX8_endJob_181 : decode cX8_endJob 181 = .ok (.aload_n 0, 1) := by decide +kernel
theorem dX8_endJob_182 : decode cX8_endJob 182 = .ok (.getfield 22, 3) := by decide +kernel
theorem dX8_endJob_185 : decode cX8_endJob 185 = .ok (.invokevirtual 220, 3) := by decide +kernel
theorem dX8_endJob_188 : decode cX8_endJob 188 = .ok (.aload_n 0, 1) := by decide +kernel
theorem dX8_endJob_189 : decode cX8_endJob 189 = .ok (.invokevirtual 223, 3) := by decide +kernel
theorem dX8_endJob_192 : decode cX8_endJob 192 = .ok (.aload_n 0, 1) := by decide +kernel
theorem dX8_endJob_193 : decode cX8_endJob 193 = .ok (.getfield 35, 3) := by decide +kernel
theorem dX8_endJob_196 : decode cX8_endJob 196 = .ok (.aload_n 0, 1) := by decide +kernel
theorem dX8_endJob_197 : decode cX8_endJob 197 = .ok (.invokevirtual 180, 3) := by decide +kernel
theorem dX8_endJob_200 : decode cX8_endJob 200 = .ok (.return_, 1) := by decide +kernel
def pSw (π : Nat → Nat) (i j k : Nat) : Nat := if k = i then π j else if k = j then π i else π k
theorem pSw_ok {π : Nat → Nat} {i j : Nat} (hi : i < 14) (hj : j < 14) (h4 : ∀ k : Nat, k < 14 → π k < 14) (h5 : ∀ k l : Nat, k < 14 → l < 14 → π k = π l → k = l) : (∀ k : Nat, k < 14 → pSw π i j k < 14) ∧ ∀ k l : Nat, k < 14 → l < 14 → pSw π i j k = pSw π i j l → k = l := by
  have hs : ∀ k : Nat, k < 14 → ∃ m : Nat, m < 14 ∧ pSw π i j k = π m ∧ ((k = i ∧ m = j) ∨ (k ≠ i ∧ k = j ∧ m = i) ∨ (k ≠ i ∧ k ≠ j ∧ m = k)) := by
    intro k hk
    unfold pSw
    by_cases e1 : k = i
    · exact ⟨j, hj, by rw [if_pos e1], by omega⟩
    by_cases e2 : k = j
    · exact ⟨i, hi, by rw [if_neg e1, if_pos e2], by omega⟩
    · exact ⟨k, hk, by rw [if_neg e1, if_neg e2], by omega⟩
  refine ⟨fun k hk => ?_, fun k l hk hl e => ?_⟩
  · obtain ⟨m, m1, m2, -⟩ := hs k hk; rw [m2]; exact h4 m m1
  · obtain ⟨m, m1, m2, m3⟩ := hs k hk
    obtain ⟨n, n1, n2, n3⟩ := hs l hl
    rw [m2, n2] at e
    have := h5 m n m1 n1 e
    omega
/-- the swap of the oldest input and the output -/
def pOut (π : Nat → Nat) (o n0 : Int) (j : Nat) : Nat := if 0 < n0 then pSw π o.toNat 13 j else π j
theorem pOut_s {π : Nat → Nat} {o n0 : Int} {s : Nat} (ho : 0 ≤ o) (hs : s < 13) : pOut π o n0 s = if (s : Int) = o ∧ 0 < n0 then π 13 else π s := by
  unfold pOut pSw
  by_cases h : 0 < n0
  · rw [if_pos h]
    by_cases e : s = o.toNat
    · rw [if_pos e, if_pos ⟨by omega, h⟩]
    · rw [if_neg e, if_neg (by omega), if_neg (fun q => e (by omega))]
  · rw [if_neg h, if_neg (fun q => h q.2)]
theorem pOut_ok {π : Nat → Nat} {o n0 : Int} (ho : 0 ≤ o ∧ o < 12) (h4 : ∀ k : Nat, k < 14 → π k < 14) (h5 : ∀ k l : Nat, k < 14 → l < 14 → π k = π l → k = l) : (∀ k : Nat, k < 14 → pOut π o n0 k < 14) ∧ ∀ k l : Nat, k < 14 → l < 14 → pOut π o n0 k = pOut π o n0 l → k = l := by
  have h := pSw_ok (i := o.toNat) (j := 13) (by omega) (by omega) h4 h5
  unfold pOut
  by_cases q : 0 < n0
  · simp only [if_pos q]; exact h
  · simp only [if_neg q]; exact ⟨h4, h5⟩
set_option maxHeartbeats 4000000 in
set_option maxRecDepth 100000 in
theorem ct_X8_endJob {E : xE} {z : Nat} {T : Nat → Nat × Int} {F : Nat → Nat → Int} {I : Nat → Int → Int} {P : Nat → Nat → Option Nat} {Y : Nat → Int → Option Nat} {a : Nat} {w : Int → Int} {π : Nat → Nat} (hLw : rLw T F I P a w) (hGd : wGd w) (hB : RB T F I P Y a π w) (hr : wRn w) (hby : w 16 = 1) (ho1 : oL w ≠ -1) : Ct E 1 mX8_endJob 0 0 [.ref a, J (oL w)] (z, T, F, I, P, Y) (xQ a none z T F I P Y (sEnds w)) := by
  obtain ⟨hO, hL, hTy⟩ := id hGd
  obtain ⟨⟨⟨⟨s0, s1, s2, s3⟩, sR, ⟨s4, s5⟩, ⟨s6, sLv⟩, ⟨s7, s8⟩, ⟨s9, sJo⟩, s10, s11, s12⟩, p1, p2, p3, p4, p5⟩, ⟨⟨c1, c9, c10, c11, c12, c13, c14, c15⟩, hTl, j0, j1, j2⟩, hRn, hTb, hOt, hJo⟩ := id hB
  obtain ⟨hR, o0, o1, o2, o3, o4, o5, o6, oc, o13, o14, o16, o17, o18, ov⟩ := id hO
  have hN := wN_i o0.1
  have hj9 := sJo.1
  have hl9 := sLv.1
  have hte := hOt.n
  have hen := sEnt_bd w 79
  have hos := sOld_bd (w := w) (wN w)
  have hoo : 0 ≤ oL w ∧ oL w < w 0 := by unfold oL at ho1 ⊢; omega
  obtain ⟨o, hoN⟩ : ∃ o : Nat, (o : Int) = oL w := ⟨(oL w).toNat, by omega⟩
  have h13 := sR (π 13) (p4 13 (by omega))
  have h130 := h13.1
  have hq13 := p4 13 (by omega)
  refine Ct.of [some (.ref a), some (J (oL w)), none, none, none] kt_X8_endJob rfl (Nat.le_of_ble_eq_true rfl) rfl (fun d hd => ?_)
  generalize hX : xN E _ _ _ = X
  refine xg_aloadn 1 dX8_endJob_0 rfl rfl rfl ?_
  refine xg_getP 4 kf_RX8_49 dX8_endJob_1 rfl (by assumption) (by assumption) ?_
  refine xg_aloadn 5 dX8_endJob_4 rfl rfl rfl ?_
  refine xg_getI 8 kf_RX8_93 dX8_endJob_5 rfl (by assumption) ?_
  refine xg_iconst 9 dX8_endJob_8 rfl ?_
  refine xg_aloadn 10 dX8_endJob_9 rfl rfl rfl ?_
  refine xg_getP 13 kf_RX8_28 dX8_endJob_10 rfl (by assumption) (by assumption) ?_
  refine xg_getI 16 kf_RX8_133 dX8_endJob_13 rfl (by assumption) ?_
  refine xg_aloadn 17 dX8_endJob_16 rfl rfl rfl ?_
  refine xg_getP 20 kf_RX8_22 dX8_endJob_17 rfl (by assumption) (by assumption) ?_
  refine xg_getI 23 kf_RX8_117 dX8_endJob_20 rfl (by assumption) ?_
  rw [c13, j1, hte, show sGoal w = w 17 by unfold sGoal; rw [if_pos hby]]
  refine xg_callV 26 2 [_, _, _, _] _ kv_X2_note ⟨_, _, rfl⟩ kl_RX8_176 dX8_endJob_23 rfl (by assumption) (by omega) rfl rfl (Nat.le_of_ble_eq_true rfl) (by omega) ⟨Nat.le_refl _, Nat.le_refl _⟩ (ct_X2_note sJo hJo.2.1 (by rw [hJo.1]; exact o14)) rfl ?_
  have join82 : ∀ (F1 : Nat → Nat → Int) (P1 : Nat → Nat → Option Nat) (Y1 : Nat → Int → Option Nat), (∀ b k : Nat, F1 b k = if 0 < sEnt w 79 ∧ b = a + 2 + 3 * π 13 ∧ k = 3 then w 17 else fNote F (a + 51) b k) → (∀ b : Nat, b ≠ a → P1 b = P b) → (∀ k : Nat, k ≠ 3 → P1 a k = P a k) → P1 a 3 = some (a + 2 + 3 * (pOut π (oL w) (sEnt w 79)) 13) → (∀ j : Nat, j < 12 → Y1 (a + 1) (j : Int) = some (a + 2 + 3 * (pOut π (oL w) (sEnt w 79)) j)) → (∀ b : Nat, b ≠ a + 1 → Y1 b = Y b) → xG E mX8_endJob (xR d 0 0) X 82 [some (.ref a), some (J (oL w)), none, none, none] [] (z, T, F1, (iNote F I (a + 51) (w 13) 2 (w 17) (sEnt w 79)), P1, Y1) 0 0 := by
    intro F1 P1 Y1 hF1 hP1 hP2 hP3 hY1 hY2
    have hok := pOut_ok (π := π) (o := oL w) (n0 := sEnt w 79) (by omega) p4 p5
    have hFn : ∀ b : Nat, b ≠ a + 2 + 3 * π 13 → F1 b = fNote F (a + 51) b := fun b hb => by funext k; rw [hF1, if_neg (fun q => hb q.2.1)]
    have hFa : F1 a 1 = w 0 := by rw [hFn a (by omega), fNote_na (by omega)]; exact c1
    have q1 : P1 a 0 = some (a + 1) := by rw [hP2 0 (by omega)]; exact s1
    have q4 : P1 a 4 = some (a + 44) := by rw [hP2 4 (by omega)]; exact s4
    have q5 : P1 a 5 = some (a + 45) := by rw [hP2 5 (by omega)]; exact s6
    have hlv5 : wLev T P1 (a + 45) := by unfold wLev; rw [hP1 _ (by omega)]; exact sLv
    have hrw : ∀ i : Nat, i < 14 → wRow T P1 (a + 2 + 3 * i) := fun i hi => by unfold wRow; rw [hP1 _ (by omega)]; exact sR i hi
    have hq13 := hok.1 13 (by omega)
    have hrw13 := (hrw _ hq13).1
    refine xg_iconst 83 dX8_endJob_82 rfl ?_
    refine xg_istoren 84 _ dX8_endJob_83 rfl rfl rfl (by decide) (Or.inr rfl) ?_
    refine xg_iconst 85 dX8_endJob_84 rfl ?_
    refine xg_istoren 86 _ dX8_endJob_85 rfl rfl rfl (by decide) (Or.inr rfl) ?_
    have loop86 : ∀ (mm : Nat) (r : Nat) (Y2 : Nat → Int → Option Nat) (ρ : Nat → Nat), ((r : Int) ≤ w 0) → (∀ j : Nat, j < 12 → Y2 (a + 1) (j : Int) = some (a + 2 + 3 * ρ j)) → (∀ b : Nat, b ≠ a + 1 → Y2 b = Y b) → (∀ k : Nat, k < 14 → ρ k < 14) → (∀ k l : Nat, k < 14 → l < 14 → ρ k = ρ l → k = l) → (∀ s : Nat, s < r → kK w (oL w) (sEnt w 79) s = true → ρ (cK w (oL w) (sEnt w 79) s) = (pOut π (oL w) (sEnt w 79)) s) → (∀ k : Nat, r ≤ k → k < 14 → ρ k = (pOut π (oL w) (sEnt w 79)) k) → w 0 - (r : Int) < (mm : Int) → xG E mX8_endJob (xR d 0 0) X 86 [some (.ref a), some (J (oL w)), some (J ((cK w (oL w) (sEnt w 79) r) : Nat)), some (J (r : Int)), none] [] (z, T, F1, (iNote F I (a + 51) (w 13) 2 (w 17) (sEnt w 79)), P1, Y2) 0 0 := by
      intro mm
      induction mm with
      | zero => intro r Y2 ρ hr1 hy1 hy2 hk4 hk5 hkc hkr hm; exfalso; omega
      | succ mm ih =>
        intro r Y2 ρ hr1 hy1 hy2 hk4 hk5 hkc hkr hm
        have hcl := cK_le (w := w) (o := oL w) (n0 := sEnt w 79) r
        refine xg_iloadn 87 dX8_endJob_86 rfl rfl rfl ?_
        refine xg_aloadn 88 dX8_endJob_87 rfl rfl rfl ?_
        refine xg_getI 91 kf_RX8_70 dX8_endJob_88 rfl (by assumption) ?_
        refine xg_icge 145 94 dX8_endJob_91 rfl rfl (by omega) (fun hb91 => ?_) (fun hb91 => ?_)
        · skip
          have e9 : r = wN w := by omega
          subst e9
          have hkr2 := hkr
          refine xg_iloadn 146 dX8_endJob_145 rfl rfl rfl ?_
          refine xg_istoren 147 _ dX8_endJob_146 rfl rfl rfl (by decide) (Or.inr rfl) ?_
          have loop147 : ∀ (mm : Nat) (r : Nat) (F2 : Nat → Nat → Int) (I2 : Nat → Int → Int), ((cK w (oL w) (sEnt w 79) (wN w)) ≤ r ∧ (r : Int) ≤ w 0) → (∀ b : Nat, (∀ j : Nat, (cK w (oL w) (sEnt w 79) (wN w)) ≤ j → j < wN w → b ≠ a + 2 + 3 * ρ j) → F2 b = F1 b) → (∀ b : Nat, (∀ j : Nat, (cK w (oL w) (sEnt w 79) (wN w)) ≤ j → j < wN w → b ≠ a + 2 + 3 * ρ j + 1 ∧ b ≠ a + 2 + 3 * ρ j + 2) → I2 b = (iNote F I (a + 51) (w 13) 2 (w 17) (sEnt w 79)) b) → w 0 - (r : Int) < (mm : Int) → xG E mX8_endJob (xR d 0 0) X 147 [some (.ref a), some (J (oL w)), some (J ((cK w (oL w) (sEnt w 79) (wN w)) : Nat)), some (J (r : Int)), none] [] (z, T, F2, I2, P1, Y2) 0 0 := by
            intro mm
            induction mm with
            | zero => intro r F2 I2 hr1 hF2 hI2 hm; exfalso; omega
            | succ mm ih3 =>
              intro r F2 I2 hr1 hF2 hI2 hm
              have hFa2 : F2 a 1 = w 0 := by rw [hF2 a (fun j _ _ => by omega)]; exact hFa
              refine xg_iloadn 148 dX8_endJob_147 rfl rfl rfl ?_
              refine xg_aloadn 149 dX8_endJob_148 rfl rfl rfl ?_
              refine xg_getI 152 kf_RX8_70 dX8_endJob_149 rfl (by assumption) ?_
              refine xg_icge 176 155 dX8_endJob_152 rfl rfl (by omega) (fun hb152 => ?_) (fun hb152 => ?_)
              · skip
                refine xg_aloadn 177 dX8_endJob_176 rfl rfl rfl ?_
                refine xg_iloadn 178 dX8_endJob_177 rfl rfl rfl ?_
                refine xg_putI 181 kf_RX8_70 dX8_endJob_178 rfl (by assumption) ?_
                refine xg_aloadn 182 dX8_endJob_181 rfl rfl rfl ?_
                refine xg_getP 185 kf_RX8_22 dX8_endJob_182 rfl (by assumption) (by assumption) ?_
                refine xg_callV 188 6 [] _ kv_X6_wipe ⟨_, _, rfl⟩ kl_RX8_220 dX8_endJob_185 rfl (by assumption) (by omega) rfl rfl (Nat.le_of_ble_eq_true rfl) (by omega) ⟨Nat.le_refl _, Nat.le_refl _⟩ (ct_X6_wipe (hrw _ hq13)) rfl ?_
                refine xg_aloadn 189 dX8_endJob_188 rfl rfl rfl ?_
                refine xg_callV 192 8 [] _ kv_X8_clearJob ⟨_, _, rfl⟩ kl_RX8_223 dX8_endJob_189 rfl (by assumption) (by omega) rfl rfl (Nat.le_of_ble_eq_true rfl) (by omega) ⟨Nat.le_refl _, Nat.le_refl _⟩ (ct_X8_clearJob s0 q4 s5) rfl ?_
                have hro : ∀ s : Nat, s < wN w → kK w (oL w) (sEnt w 79) s = true → ∀ j : Nat, (cK w (oL w) (sEnt w 79) (wN w)) ≤ j → j < wN w → (pOut π (oL w) (sEnt w 79)) s ≠ ρ j := fun s h1 h2 j h3 h4 e => by
                  have h6 := cK_lt h1 h2
                  have h7 := hkc s h1 h2
                  rw [← h7] at e
                  have := hk5 _ _ (by omega) (by omega) e
                  omega
                have ho13 : ρ 13 = (pOut π (oL w) (sEnt w 79)) 13 := hkr2 13 (by omega) (by omega)
                have ho12 : ρ 12 = π 12 := (hkr2 12 (by omega) (by omega)).trans (by rw [pOut_s (by omega) (by omega), if_neg (by omega)])
                have hx13 : ∀ j : Nat, (cK w (oL w) (sEnt w 79) (wN w)) ≤ j → j < wN w → (pOut π (oL w) (sEnt w 79)) 13 ≠ ρ j := fun j h3 h4 e => by rw [← ho13] at e; have := hk5 _ _ (by omega) (by omega) e; omega
                have hx12 : ∀ j : Nat, (cK w (oL w) (sEnt w 79) (wN w)) ≤ j → j < wN w → π 12 ≠ ρ j := fun j h3 h4 e => by rw [← ho12] at e; have := hk5 _ _ (by omega) (by omega) e; omega
                have hs13 : ∀ s : Nat, s < wN w → (pOut π (oL w) (sEnt w 79)) s ≠ (pOut π (oL w) (sEnt w 79)) 13 := fun s h1 e => by have := hok.2 s 13 (by omega) (by omega) e; omega
                have h1213 : π 12 ≠ (pOut π (oL w) (sEnt w 79)) 13 := fun e => by
                  have : (pOut π (oL w) (sEnt w 79)) 12 = π 12 := by rw [pOut_s (by omega) (by omega), if_neg (by omega)]
                  rw [← this] at e
                  have := hok.2 12 13 (by omega) (by omega) e; omega
                have h12b := p5 12 13 (by omega) (by omega)
                have hq12 := p4 12 (by omega)
                have hp13 := p4 13 (by omega)
                have hfar : ∀ b : Nat, b < a + 2 ∨ a + 44 ≤ b → F2 b = fNote F (a + 51) b := fun b hb => by rw [hF2 b (fun j h3 h4 => by have := hk4 j (by omega); omega), hFn b (by omega)]
                have hfai : ∀ b : Nat, b < a + 2 ∨ a + 44 ≤ b → I2 b = (iNote F I (a + 51) (w 13) 2 (w 17) (sEnt w 79)) b := fun b hb => hI2 b (fun j h3 h4 => by have := hk4 j (by omega); omega)
                have hB5 := hB.ends (F' := fClr (fWipe (upF F2 a 1 ((cK w (oL w) (sEnt w 79) (wN w)) : Nat)) (a + 2 + 3 * (pOut π (oL w) (sEnt w 79)) 13)) (a + 44)) (I' := iWipe I2 (a + 2 + 3 * (pOut π (oL w) (sEnt w 79)) 13) 60) (P' := P1) (Y' := Y2) (π0 := (pOut π (oL w) (sEnt w 79))) (π1 := ρ) hO hr (fun s hs => pOut_s (by omega) (by omega)) ho12 ho13 hk4 hk5 hkc hy1 hP1 hP2 hP3
                  (by rw [fClr_na (by omega), fWipe_na (by omega), upF_at]) (fun k hk => by rw [fClr_na (by omega), fWipe_na (by omega), upF_nk _ _ _ _ hk, hfar a (by omega), fNote_na (by omega)]) (fun k hk => fClr_at (by omega)) (by rw [fClr_na (by omega), fWipe_na (by omega), upF_na _ _ _ _ (by omega), hfar _ (by omega), fNote_na (by omega)]) (by rw [fClr_na (by omega), fWipe_na (by omega), upF_na _ _ _ _ (by omega), hfar _ (by omega)]) (fun c hc => by rw [iWipe_na (by omega), hfai _ (by omega)])
                  ⟨by rw [fClr_na (by omega), fWipe_na (by omega), upF_na _ _ _ _ (by omega), hF2 _ (fun j h3 h4 => by have := hx12 j h3 h4; omega), hFn _ (by omega), fNote_na (by omega)], by rw [iWipe_na (by omega), hI2 _ (fun j h3 h4 => by have := hx12 j h3 h4; omega), iNote_na (by omega)], by rw [iWipe_na (by omega), hI2 _ (fun j h3 h4 => by have := hx12 j h3 h4; omega), iNote_na (by omega)]⟩
                  ⟨by rw [fClr_na (by omega)]; exact fWipe_at.1, by rw [fClr_na (by omega)]; exact fWipe_at.2.2, iWipe_at.1⟩
                  (fun s h1 h2 => by
                    have h3 := hro s h1 h2
                    have h4 := hok.1 s (by omega)
                    have h5 := hs13 s h1
                    have hf : ∀ k : Nat, fClr (fWipe (upF F2 a 1 ((cK w (oL w) (sEnt w 79) (wN w)) : Nat)) (a + 2 + 3 * (pOut π (oL w) (sEnt w 79)) 13)) (a + 44) (a + 2 + 3 * (pOut π (oL w) (sEnt w 79)) s) k = F1 (a + 2 + 3 * (pOut π (oL w) (sEnt w 79)) s) k := fun k => by rw [fClr_na (by omega), fWipe_na (by omega), upF_na _ _ _ _ (by omega), hF2 _ (fun j g1 g2 => by have := h3 j g1 g2; omega)]
                    refine ⟨fun k hk => by rw [hf, hF1, if_neg (fun x => hk x.2.2), fNote_na (by omega)], ?_, by rw [iWipe_na (by omega), hI2 _ (fun j g1 g2 => by have := h3 j g1 g2; omega), iNote_na (by omega)], by rw [iWipe_na (by omega), hI2 _ (fun j g1 g2 => by have := h3 j g1 g2; omega), iNote_na (by omega)]⟩
                    rw [hf, hF1, fNote_na (by omega), pOut_s (by omega) (by omega)]
                    by_cases q : (s : Int) = oL w ∧ 0 < sEnt w 79
                    · rw [if_pos q, if_pos q, if_pos ⟨q.2, rfl, rfl⟩]
                    · have h6 : π s ≠ π 13 := fun e => by have := p5 s 13 (by omega) (by omega) e; omega
                      rw [if_neg q, if_neg q, if_neg (fun x => by omega)])
                have hF5 : SF a F I P Y (fClr (fWipe (upF F2 a 1 ((cK w (oL w) (sEnt w 79) (wN w)) : Nat)) (a + 2 + 3 * (pOut π (oL w) (sEnt w 79)) 13)) (a + 44)) (iWipe I2 (a + 2 + 3 * (pOut π (oL w) (sEnt w 79)) 13) 60) P1 Y2 :=
                  ⟨fun b hb => ⟨by rw [fClr_na (by omega), fWipe_na (by omega), upF_na _ _ _ _ (by omega), hfar b (by omega), fNote_na (by omega)], hP1 b (by omega), hy2 b (by omega), fun _ => by rw [iWipe_na (by omega), hfai b (by omega), iNote_na (by omega)]⟩, fun k k2 k3 => hP2 k k3⟩
                have hO5 := wOk_ends hO
                have hr5 := wRn_ends hr hO
                refine xg_aloadn 193 dX8_endJob_192 rfl rfl rfl ?_
                refine xg_getP 196 kf_RX8_35 dX8_endJob_193 rfl (by assumption) (by assumption) ?_
                refine xg_aloadn 197 dX8_endJob_196 rfl rfl rfl ?_
                refine xg_callV 200 5 [_] _ kv_X5_recount ⟨_, _, rfl⟩ kl_RX8_180 dX8_endJob_197 rfl (by assumption) (by omega) rfl rfl (Nat.le_of_ble_eq_true rfl) (by omega) ⟨Nat.le_refl _, Nat.le_refl _⟩ (ct_X5_recount hB5 hO5 hr5.lv hlv5) rfl ?_
                subst hX
                exact xg_return dX8_endJob_200 rfl ⟨Nat.le_refl _, Nat.le_refl _⟩ ⟨rfl, _, _, _, _, rfl, SR.rec (hGd.mv hO5 (wHi_ends hO)) (hLw.sf hF5 (wHi_ends hO)) hB5 (by show fClr (fWipe (upF F2 a 1 ((cK w (oL w) (sEnt w 79) (wN w)) : Nat)) (a + 2 + 3 * (pOut π (oL w) (sEnt w 79)) 13)) (a + 44) (a + 44) 3 = _; rw [fClr_at (by omega), sLeft_0 (fun q hq => by have := (hr5.2 sEnds_16).1 q hq; omega) hO5.2.1.1]), hF5.tr SF.rec⟩
              · skip
                refine xg_iloadn 156 dX8_endJob_155 rfl rfl rfl ?_
                refine xg_bipush 158 dX8_endJob_156 rfl (by decide) ?_
                refine xg_icge 176 161 dX8_endJob_158 rfl rfl (by omega) (fun hb158 => ?_) (fun hb158 => ?_)
                · exfalso; omega
                · skip
                  refine xg_aloadn 162 dX8_endJob_161 rfl rfl rfl ?_
                  refine xg_getP 165 kf_RX8_11 dX8_endJob_162 rfl (by assumption) (by assumption) ?_
                  refine xg_iloadn 166 dX8_endJob_165 rfl rfl rfl ?_
                  have hr12 : r < 12 := by omega
                  have hq := hk4 r (by omega)
                  have hb := hrw (ρ r) hq
                  have hb0 := hb.1
                  refine xg_rald 167 dX8_endJob_166 rfl (by assumption) (by omega) (hy1 r (by omega)) ?_
                  refine xg_callV 170 6 [] _ kv_X6_wipe ⟨_, _, rfl⟩ kl_RX8_220 dX8_endJob_167 rfl (by assumption) (by omega) rfl rfl (Nat.le_of_ble_eq_true rfl) (by omega) ⟨Nat.le_refl _, Nat.le_refl _⟩ (ct_X6_wipe hb) rfl ?_
                  refine xg_iinc 173 _ dX8_endJob_170 rfl rfl rfl rfl (by decide) (Or.inr rfl) ?_
                  refine xg_goto 147 dX8_endJob_173 rfl ?_
                  exact xg_weak _ (xle_s rfl (xle_s rfl (xle_s rfl (xle_s rfl (xle_n xle_0))))) (ih3 (r + 1) _ _ (by omega) (fun b hb => by have := hb r (by omega) (by omega); exact (fWipe_na (F := F2) this).trans (hF2 b hb)) (fun b hb => by have := hb r (by omega) (by omega); rw [iWipe_na this]; exact hI2 b hb) (by omega))
          exact xg_weak _ (xle_s rfl (xle_s rfl (xle_s rfl (xle_s rfl (xle_n xle_0))))) (loop147 14 (cK w (oL w) (sEnt w 79) (wN w)) F1 _ (by omega) (fun _ _ => rfl) (fun _ _ => rfl) (by omega))
        · skip
          refine xg_iloadn 95 dX8_endJob_94 rfl rfl rfl ?_
          refine xg_bipush 97 dX8_endJob_95 rfl (by decide) ?_
          refine xg_icge 145 100 dX8_endJob_97 rfl rfl (by omega) (fun hb97 => ?_) (fun hb97 => ?_)
          · exfalso; omega
          · skip
            refine xg_aloadn 101 dX8_endJob_100 rfl rfl rfl ?_
            refine xg_getP 104 kf_RX8_11 dX8_endJob_101 rfl (by assumption) (by assumption) ?_
            refine xg_iloadn 105 dX8_endJob_104 rfl rfl rfl ?_
            have hr12 : r < 12 := by omega
            have hρ : ρ r = (pOut π (oL w) (sEnt w 79)) r := hkr r (Nat.le_refl _) (by omega)
            have hq := hk4 r (by omega)
            have hb := hrw (ρ r) hq
            have hb0 := hb.1
            have hfl : F1 (a + 2 + 3 * ρ r) 4 = if kK w (oL w) (sEnt w 79) r = true then 0 else 1 := by
              have hrn := hRn r (by omega)
              have h01 := hr.i01 r (by omega)
              have hne := p5 r 13 (by omega) (by omega)
              rw [hρ, pOut_s (by omega) (by omega)]
              by_cases q : (r : Int) = oL w ∧ 0 < sEnt w 79
              · have hk1 : kK w (oL w) (sEnt w 79) r = true := by unfold kK; rw [decide_eq_true q]; exact Bool.or_true _
                rw [if_pos q, if_pos hk1, hF1, if_neg (fun x => by omega), fNote_na (by omega)]; exact hOt.1
              · rw [if_neg q]
                have hqr := p4 r (by omega)
                have hq3 := p4 13 (by omega)
                have hne2 : π r ≠ π 13 := fun e => by have := hne e; omega
                rw [hFn _ (by omega), fNote_na (by omega), hrn.2.1]
                rcases h01 with h01 | h01
                · rw [if_pos (by unfold kK; rw [show wInp w r = false from decide_eq_false (by omega)]; rfl)]; exact h01
                · rw [if_neg (by unfold kK; rw [show wInp w r = true from decide_eq_true h01, decide_eq_false q]; decide)]; exact h01
            refine xg_rald 106 dX8_endJob_105 rfl (by assumption) (by omega) (hy1 r (by omega)) ?_
            refine xg_astore 108 _ dX8_endJob_106 rfl rfl (by decide) (Or.inr rfl) ?_
            refine xg_aload 110 dX8_endJob_108 rfl rfl ?_
            refine xg_getI 113 kf_RX8_110 dX8_endJob_110 rfl (by assumption) ?_
            rw [hfl]
            refine xg_ifne 139 116 dX8_endJob_113 rfl rfl (by omega) (fun hb113 => ?_) (fun hb113 => ?_)
            · have hkk : kK w (oL w) (sEnt w 79) r = false := by cases hq9 : kK w (oL w) (sEnt w 79) r; rfl; rw [hq9] at hb113; exact absurd rfl hb113
              refine xg_iinc 142 _ dX8_endJob_139 rfl rfl rfl rfl (by decide) (Or.inr rfl) ?_
              refine xg_goto 86 dX8_endJob_142 rfl ?_
              exact xg_weak _ (xle_s rfl (xle_s rfl (xle_s (by rw [cK, hkk]; rfl) (xle_s rfl (xle_n xle_0))))) (ih (r + 1) Y2 ρ (by omega) hy1 hy2 hk4 hk5 (fun s hs hks => by
                by_cases e : s = r
                · subst e; rw [hkk] at hks; cases hks
                · exact hkc s (by omega) hks) (fun k h1 h2 => hkr k (by omega) h2) (by omega))
            · have hkk : kK w (oL w) (sEnt w 79) r = true := by cases hq9 : kK w (oL w) (sEnt w 79) r; (rw [hq9] at hb113; cases hb113); rfl
              refine xg_aloadn 117 dX8_endJob_116 rfl rfl rfl ?_
              refine xg_getP 120 kf_RX8_11 dX8_endJob_117 rfl (by assumption) (by assumption) ?_
              refine xg_iloadn 121 dX8_endJob_120 rfl rfl rfl ?_
              refine xg_aloadn 122 dX8_endJob_121 rfl rfl rfl ?_
              refine xg_getP 125 kf_RX8_11 dX8_endJob_122 rfl (by assumption) (by assumption) ?_
              refine xg_iloadn 126 dX8_endJob_125 rfl rfl rfl ?_
              have hqc := hk4 (cK w (oL w) (sEnt w 79) r) (by omega)
              have hbc := (hrw _ hqc).1
              refine xg_rald 127 dX8_endJob_126 rfl (by assumption) (by omega) (hy1 (cK w (oL w) (sEnt w 79) r) (by omega)) ?_
              refine xg_rast 128 dX8_endJob_127 rfl (by assumption) (by assumption) (by omega) ?_
              refine xg_aloadn 129 dX8_endJob_128 rfl rfl rfl ?_
              refine xg_getP 132 kf_RX8_11 dX8_endJob_129 rfl (by assumption) (by assumption) ?_
              refine xg_iloadn 133 dX8_endJob_132 rfl rfl rfl ?_
              refine xg_aload 135 dX8_endJob_133 rfl rfl ?_
              refine xg_rast 136 dX8_endJob_135 rfl (by assumption) (by assumption) (by omega) ?_
              refine xg_iinc 139 _ dX8_endJob_136 rfl rfl rfl rfl (by decide) (Or.inr rfl) ?_
              refine xg_iinc 142 _ dX8_endJob_139 rfl rfl rfl rfl (by decide) (Or.inr rfl) ?_
              refine xg_goto 86 dX8_endJob_142 rfl ?_
              have hsw := pSw_ok (π := ρ) (i := (cK w (oL w) (sEnt w 79) r)) (j := r) (by omega) (by omega) hk4 hk5
              exact xg_weak _ (xle_s rfl (xle_s rfl (xle_s (by rw [cK, if_pos hkk]; rfl) (xle_s rfl (xle_n xle_0))))) (ih (r + 1) _ (pSw ρ (cK w (oL w) (sEnt w 79) r) r) (by omega) (fun j hj => by
                unfold upY pSw
                by_cases q : j = (cK w (oL w) (sEnt w 79) r)
                · rw [if_pos ⟨rfl, by omega⟩, if_pos q]
                · rw [if_neg (fun x => q (by omega)), if_neg q]
                  by_cases q2 : j = r
                  · rw [if_pos ⟨rfl, by omega⟩, if_pos q2]
                  · rw [if_neg (fun x => q2 (by omega)), if_neg q2]; exact hy1 j hj) (fun b hb => by rw [upY_na _ _ _ _ hb, upY_na _ _ _ _ hb]; exact hy2 b hb) hsw.1 hsw.2 (fun s hs hks => by
                by_cases e : s = r
                · subst e; unfold pSw; rw [if_pos rfl]; exact hkr s (Nat.le_refl _) (by omega)
                · have hlt := cK_lt (show s < r by omega) hks
                  unfold pSw; rw [if_neg (by omega), if_neg (by omega)]; exact hkc s (by omega) hks) (fun k h1 h2 => by unfold pSw; rw [if_neg (by omega), if_neg (by omega)]; exact hkr k (by omega) h2) (by omega))
    exact xg_weak _ (xle_s rfl (xle_s rfl (xle_s rfl (xle_s rfl (xle_n xle_0))))) (loop86 14 0 Y1 (pOut π (oL w) (sEnt w 79)) (by omega) hY1 hY2 hok.1 hok.2 (fun s hs => absurd hs (Nat.not_lt_zero _)) (fun _ _ _ => rfl) (by omega))
  refine xg_aloadn 27 dX8_endJob_26 rfl rfl rfl ?_
  refine xg_getP 30 kf_RX8_22 dX8_endJob_27 rfl (by assumption) (by assumption) ?_
  refine xg_getI 33 kf_RX8_117 dX8_endJob_30 rfl (by assumption) ?_
  rw [fNote_na (show a + 2 + 3 * π 13 ≠ a + 51 by omega), hte]
  refine xg_ifle 82 36 dX8_endJob_33 rfl rfl (by omega) (fun hb33 => ?_) (fun hb33 => ?_)
  · skip
    exact xg_weak _ (xle_s rfl (xle_s rfl (xle_n (xle_n (xle_n xle_0))))) (join82 _ P Y (fun b k => by rw [if_neg (fun q => by omega)]) (fun _ _ => rfl) (fun _ _ => rfl) (by unfold pOut; rw [if_neg (by omega)]; exact p3) (fun j hj => by unfold pOut; rw [if_neg (by omega)]; exact p1 j hj) (fun _ _ => rfl))
  · skip
    refine xg_aloadn 37 dX8_endJob_36 rfl rfl rfl ?_
    refine xg_iloadn 38 dX8_endJob_37 rfl rfl rfl ?_
    refine xg_callV 41 8 [_] _ kv_X8_hasRun ⟨_, _, rfl⟩ kl_RX8_103 dX8_endJob_38 rfl (by assumption) (by omega) rfl rfl (Nat.le_of_ble_eq_true rfl) (by omega) ⟨Nat.le_refl _, Nat.le_refl _⟩ (ct_X8_hasRun s0 (by rw [fNote_na (show a ≠ a + 51 by omega)]; omega) (by omega)) rfl ?_
    refine xg_deq 82 44 dX8_endJob_41 rfl rfl (fun hb41 => ?_) (fun hb41 => ?_)
    · exfalso; rw [fNote_na (show a ≠ a + 51 by omega)] at hb41; omega
    · skip
      refine xg_aloadn 45 dX8_endJob_44 rfl rfl rfl ?_
      refine xg_getP 48 kf_RX8_11 dX8_endJob_45 rfl (by assumption) (by assumption) ?_
      refine xg_iloadn 49 dX8_endJob_48 rfl rfl rfl ?_
      have hqo := sR (π o) (p4 o (by omega))
      have hqo0 := hqo.1
      have hqo2 := p4 o (by omega)
      refine xg_rald 50 dX8_endJob_49 rfl (by assumption) (by omega) (show Y (a + 1) (oL w) = some (a + 2 + 3 * π o) from by rw [← hoN]; exact p1 o (by omega)) ?_
      refine xg_astoren 51 _ dX8_endJob_50 rfl rfl rfl (by decide) (Or.inr rfl) ?_
      refine xg_aloadn 52 dX8_endJob_51 rfl rfl rfl ?_
      refine xg_getP 55 kf_RX8_11 dX8_endJob_52 rfl (by assumption) (by assumption) ?_
      refine xg_iloadn 56 dX8_endJob_55 rfl rfl rfl ?_
      refine xg_aloadn 57 dX8_endJob_56 rfl rfl rfl ?_
      refine xg_getP 60 kf_RX8_22 dX8_endJob_57 rfl (by assumption) (by assumption) ?_
      refine xg_rast 61 dX8_endJob_60 rfl (by assumption) (by assumption) (by omega) ?_
      refine xg_aloadn 62 dX8_endJob_61 rfl rfl rfl ?_
      refine xg_getP 65 kf_RX8_11 dX8_endJob_62 rfl (by assumption) (by assumption) ?_
      refine xg_iloadn 66 dX8_endJob_65 rfl rfl rfl ?_
      skip
      refine xg_rald 67 dX8_endJob_66 rfl (by assumption) (by omega) ((if_pos ⟨rfl, rfl⟩)) ?_
      refine xg_aloadn 68 dX8_endJob_67 rfl rfl rfl ?_
      refine xg_getP 71 kf_RX8_28 dX8_endJob_68 rfl (by assumption) (by assumption) ?_
      refine xg_getI 74 kf_RX8_133 dX8_endJob_71 rfl (by assumption) ?_
      rw [fNote_na (show a + 44 ≠ a + 51 by omega), j1, show sGoal w = w 17 by unfold sGoal; rw [if_pos hby]]
      refine xg_putI 77 kf_RX8_167 dX8_endJob_74 rfl (by assumption) ?_
      refine xg_aloadn 78 dX8_endJob_77 rfl rfl rfl ?_
      refine xg_aloadn 79 dX8_endJob_78 rfl rfl rfl ?_
      refine xg_putO 82 kf_RX8_22 dX8_endJob_79 rfl (by assumption) (show _ = va_rf (some (a + 2 + 3 * π o)) from rfl) ?_
      have hn9 : 0 < sEnt w 79 := by omega
      have ho9 : o = (oL w).toNat := by omega
      have e9 : ∀ j : Nat, j < 12 → (pOut π (oL w) (sEnt w 79)) j = if j = (oL w).toNat then π 13 else π j := fun j hj => by
        unfold pOut pSw; rw [if_pos hn9]
        by_cases q : j = (oL w).toNat
        · rw [if_pos q, if_pos q]
        · rw [if_neg q, if_neg q, if_neg (by omega)]
      have e13 : (pOut π (oL w) (sEnt w 79)) 13 = π o := by unfold pOut pSw; rw [if_pos hn9, if_neg (by omega), if_pos rfl, ← ho9]
      exact xg_weak _ (xle_s rfl (xle_s rfl (xle_n (xle_n (xle_n xle_0))))) (join82 (upF (fNote F (a + 51)) (a + 2 + 3 * π 13) 3 (w 17)) (upP P a 3 (some (a + 2 + 3 * π o))) (upY Y (a + 1) (oL w) (some (a + 2 + 3 * π 13))) (fun b k => by
        unfold upF
        by_cases q : b = a + 2 + 3 * π 13 ∧ k = 3
        · rw [if_pos q, if_pos ⟨hn9, q⟩]
        · rw [if_neg q, if_neg (fun x => q x.2)]) (fun b hb => upP_na _ _ _ _ hb) (fun k hk => upP_nk _ _ _ _ hk) (by rw [upP_at, e13]) (fun j hj => by
        rw [e9 j hj]
        unfold upY
        by_cases q : j = (oL w).toNat
        · rw [if_pos ⟨rfl, by omega⟩, if_pos q]
        · rw [if_neg (fun x => q (by omega)), if_neg q]; exact p1 j hj) (fun b hb => upY_na _ _ _ _ hb))

