theorem dX8_beginJob_0 : decode cX8_beginJob 0 = .ok (.aload_n 0, 1) := by decide +kernel
theorem dX8_beginJob_1 : decode cX8_beginJob 1 = .ok (.getfield 28, 3) := by decide +kernel
theorem dX8_beginJob_4 : decode cX8_beginJob 4 = .ok (.getfield 143, 3) := by decide +kernel
theorem dX8_beginJob_7 : decode cX8_beginJob 7 = .ok (.ifCond .ne 13, 3) := by decide +kernel
theorem dX8_beginJob_10 : decode cX8_beginJob 10 = .ok (.aload_n 0, 1) := by decide +kernel
theorem dX8_beginJob_11 : decode cX8_beginJob 11 = .ok (.getfield 35, 3) := by decide +kernel
theorem dX8_beginJob_14 : decode cX8_beginJob 14 = .ok (.getfield 161, 3) := by decide +kernel
theorem dX8_beginJob_17 : decode cX8_beginJob 17 = .ok (.ifCond .ne 4, 3) := by decide +kernel
theorem dX8_beginJob_20 : decode cX8_beginJob 20 = .ok (.return_, 1) := by decide +kernel
theorem dX8_beginJob_21 : decode cX8_beginJob 21 = .ok (.aload_n 0, 1) := by decide +kernel
theorem dX8_beginJob_22 : decode cX8_beginJob 22 = .ok (.invokevirtual 164, 3) := by decide +kernel
theorem dX8_beginJob_25 : decode cX8_beginJob 25 = .ok (.istore_n 1, 1) := by decide +kernel
theorem dX8_beginJob_26 : decode cX8_beginJob 26 = .ok (.aload_n 0, 1) := by decide +kernel
theorem dX8_beginJob_27 : decode cX8_beginJob 27 = .ok (.getfield 89, 3) := by decide +kernel
theorem dX8_beginJob_30 : decode cX8_beginJob 30 = .ok (.ifCond .eq 12, 3) := by decide +kernel
theorem dX8_beginJob_33 : decode cX8_beginJob 33 = .ok (.iload_n 1, 1) := by decide +kernel
theorem dX8_beginJob_34 : decode cX8_beginJob 34 = .ok (.iconst 3, 1) := by decide +kernel
theorem dX8_beginJob_35 : decode cX8_beginJob 35 = .ok (.if_icmp .ge 7, 3) := by decide +kernel
theorem dX8_beginJob_38 : decode cX8_beginJob 38 = .ok (.iconst 1, 1) := by decide +kernel
theorem dX8_beginJob_39 : decode cX8_beginJob 39 = .ok (.goto 4, 3) := by decide +kernel
theorem dX8_beginJob_42 : decode cX8_beginJob 42 = .ok (.iconst 0, 1) := by decide +kernel
theorem dX8_beginJob_43 : decode cX8_beginJob 43 = .ok (.istore_n 2, 1) := by decide +kernel
theorem dX8_beginJob_44 : decode cX8_beginJob 44 = .ok (.iconst 0, 1) := by decide +kernel
theorem dX8_beginJob_45 : decode cX8_beginJob 45 = .ok (.istore_n 3, 1) := by decide +kernel
theorem dX8_beginJob_46 : decode cX8_beginJob 46 = .ok (.iconst 0, 1) := by decide +kernel
theorem dX8_beginJob_47 : decode cX8_beginJob 47 = .ok (.istore 4, 2) := by decide +kernel
theorem dX8_beginJob_49 : decode cX8_beginJob 49 = .ok (.iload 4, 2) := by decide +kernel
theorem dX8_beginJob_51 : decode cX8_beginJob 51 = .ok (.aload_n 0, 1) := by decide +kernel
theorem dX8_beginJob_52 : decode cX8_beginJob 52 = .ok (.getfield 70, 3) := by decide +kernel
theorem dX8_beginJob_55 : decode cX8_beginJob 55 = .ok (.if_icmp .ge 79, 3) := by decide +kernel
theorem dX8_beginJob_58 : decode cX8_beginJob 58 = .ok (.iload 4, 2) := by decide +kernel
theorem dX8_beginJob_60 : decode cX8_beginJob 60 = .ok (.bipush 12, 2) := by decide +kernel
theorem dX8_beginJob_62 : decode cX8_beginJob 62 = .ok (.if_icmp .ge 72, 3) := by decide +kernel
theorem dX8_beginJob_65 : decode cX8_beginJob 65 = .ok (.aload_n 0, 1) := by decide +kernel
theorem dX8_beginJob_66 : decode cX8_beginJob 66 = .ok (.getfield 11, 3) := by decide +kernel
theorem dX8_beginJob_69 : decode cX8_beginJob 69 = .ok (.iload 4, 2) := by decide +kernel
theorem dX8_beginJob_71 : decode cX8_beginJob 71 = .ok (.aaload, 1) := by decide +kernel
theorem dX8_beginJob_72 : decode cX8_beginJob 72 = .ok (.astore 5, 2) := by decide +kernel
theorem dX8_beginJob_74 : decode cX8_beginJob 74 = .ok (.aload 5, 2) := by decide +kernel
theorem dX8_beginJob_76 : decode cX8_beginJob 76 = .ok (.aload 5, 2) := by decide +kernel
theorem dX8_beginJob_78 : decode cX8_beginJob 78 = .ok (.getfield 167, 3) := by decide +kernel
theorem dX8_beginJob_81 : decode cX8_beginJob 81 = .ok (.iload_n 1, 1) := by decide +kernel
theorem dX8_beginJob_82 : decode cX8_beginJob 82 = .ok (.if_icmp .eq 18, 3) := by decide +kernel
theorem dX8_beginJob_85 : decode cX8_beginJob 85 = .ok (.iload_n 2, 1) := by decide +kernel
theorem dX8_beginJob_86 : decode cX8_beginJob 86 = .ok (.ifCond .eq 18, 3) := by decide +kernel
theorem dX8_beginJob_89 : decode cX8_beginJob 89 = .ok (.aload 5, 2) := by decide +kernel
theorem dX8_beginJob_91 : decode cX8_beginJob 91 = .ok (.getfield 167, 3) := by decide +kernel
theorem dX8_beginJob_94 : decode cX8_beginJob 94 = .ok (.iload_n 1, 1) := by decide +kernel
theorem dX8_beginJob_95 : decode cX8_beginJob 95 = .ok (.iconst 1, 1) := by decide +kernel
theorem dX8_beginJob_96 : decode cX8_beginJob 96 = .ok (.iadd, 1) := by decide +kernel
theorem dX8_beginJob_97 : decode cX8_beginJob 97 = .ok (.if_icmp .ne 7, 3) := by decide +kernel
theorem dX8_beginJob_100 : decode cX8_beginJob 100 = .ok (.iconst 1, 1) := by decide +kernel
theorem dX8_beginJob_101 : decode cX8_beginJob 101 = .ok (.goto 4, 3) := by decide +kernel
theorem dX8_beginJob_104 : decode cX8_beginJob 104 = .ok (.iconst 0, 1) := by decide +kernel
theorem dX8_beginJob_105 : decode cX8_beginJob 105 = .ok (.putfield 110, 3) := by decide +kernel
theorem dX8_beginJob_108 : decode cX8_beginJob 108 = .ok (.iload_n 3, 1) := by decide +kernel
theorem dX8_beginJob_109 : decode cX8_beginJob 109 = .ok (.aload 5, 2) := by decide +kernel
theorem dX8_beginJob_111 : decode cX8_beginJob 111 = .ok (.getfield 110, 3) := by decide +kernel
theorem dX8_beginJob_114 : decode cX8_beginJob 114 = .ok (.ifCond .eq 11, 3) := by decide +kernel
theorem dX8_beginJob_117 : decode cX8_beginJob 117 = .ok (.aload 5, 2) := by decide +kernel
theorem dX8_beginJob_119 : decode cX8_beginJob 119 = .ok (.getfield 117, 3) := by decide +kernel
theorem dX8_beginJob_122 : decode cX8_beginJob 122 = .ok (.goto 4, 3) := by decide +kernel
theorem dX8_beginJob_125 : decode cX8_beginJob 125 = .ok (.iconst 0, 1) := by decide +kernel
theorem dX8_beginJob_126 : decode cX8_beginJob 126 = .ok (.iadd, 1) := by decide +kernel
theorem dX8_beginJob_127 : decode cX8_beginJob 127 = .ok (.istore_n 3, 1) := by decide +kernel
theorem dX8_beginJob_128 : decode cX8_beginJob 128 = .ok (.iinc 4 1, 3) := by decide +kernel
theorem dX8_beginJob_131 : decode cX8_beginJob 131 = .ok (.goto (-82), 3) := by decide +kernel
theorem dX8_beginJob_134 : decode cX8_beginJob 134 = .ok (.aload_n 0, 1) := by decide +kernel
theorem dX8_beginJob_135 : decode cX8_beginJob 135 = .ok (.getfield 28, 3) := by decide +kernel
theorem dX8_beginJob_138 : decode cX8_beginJob 138 = .ok (.iconst 1, 1) := by decide +kernel
theorem dX8_beginJob_139 : decode cX8_beginJob 139 = .ok (.putfield 143, 3) := by decide +kernel
theorem dX8_beginJob_142 : decode cX8_beginJob 142 = .ok (.aload_n 0, 1) := by decide +kernel
theorem dX8_beginJob_143 : decode cX8_beginJob 143 = .ok (.getfield 28, 3) := by decide +kernel
theorem dX8_beginJob_146 : decode cX8_beginJob 146 = .ok (.iconst 3, 1) := by decide +kernel
theorem dX8_beginJob_147 : decode cX8_beginJob 147 = .ok (.iload_n 1, 1) := by decide +kernel
theorem dX8_beginJob_148 : decode cX8_beginJob 148 = .ok (.iconst 1, 1) := by decide +kernel
theorem dX8_beginJob_149 : decode cX8_beginJob 149 = .ok (.iadd, 1) := by decide +kernel
theorem dX8_beginJob_150 : decode cX8_beginJob 150 = .ok (.invokestatic 168, 3) := by decide +kernel
theorem dX8_beginJob_153 : decode cX8_beginJob 153 = .ok (.putfield 133, 3) := by decide +kernel
theorem dX8_beginJob_156 : decode cX8_beginJob 156 = .ok (.aload_n 0, 1) := by decide +kernel
theorem dX8_beginJob_157 : decode cX8_beginJob 157 = .ok (.getfield 28, 3) := by decide +kernel
theorem dX8_beginJob_160 : decode cX8_beginJob 160 = .ok (.iconst 0, 1) := by decide +kernel
theorem dX8_beginJob_161 : decode cX8_beginJob 161 = .ok (.putfield 173, 3) := by decide +kernel
theorem dX8_beginJob_164 : decode cX8_beginJob 164 = .ok (.aload_n 0, 1) := by decide +kernel
theorem dX8_beginJob_165 : decode cX8_beginJob 165 = .ok (.getfield 28, 3) := by decide +kernel
theorem dX8_beginJob_168 : decode cX8_beginJob 168 = .ok (.iload_n 3, 1) := by decide +kernel
theorem dX8_beginJob_169 : decode cX8_beginJob 169 = .ok (.putfield 123, 3) := by decide +kernel
theorem dX8_beginJob_172 : decode cX8_beginJob 172 = .ok (.aload_n 0, 1) := by decide +kernel
theorem dX8_beginJob_173 : decode cX8_beginJob 173 = .ok (.getfield 49, 3) := by decide +kernel
theorem dX8_beginJob_176 : decode cX8_beginJob 176 = .ok (.aload_n 0, 1) := by decide +kernel
theorem dX8_beginJob_177 : decode cX8_beginJob 177 = .ok (.getfield 93, 3) := by decide +kernel
theorem dX8_beginJob_180 : decode cX8_beginJob 180 = .ok (.iconst 1, 1) := by decide +kernel
theorem dX8_beginJob_181 : decode cX8_beginJob 181 = .ok (.aload_n 0, 1) := by decide +kernel
theorem dX8_beginJob_182 : decode cX8_beginJob 182 = .ok (.getfield 28, 3) := by decide +kernel
theorem dX8_beginJob_185 : decode cX8_beginJob 185 = .ok (.getfield 133, 3) := by decide +kernel
theorem dX8_beginJob_188 : decode cX8_beginJob 188 = .ok (.iload_n 3, 1) := by decide +kernel
theorem dX8_beginJob_189 : decode cX8_beginJob 189 = .ok (.invokevirtual 176, 3) := by decide +kernel
theorem dX8_beginJob_192 : decode cX8_beginJob 192 = .ok (.aload_n 0, 1) := by decide +kernel
theorem dX8_beginJob_193 : decode cX8_beginJob 193 = .ok (.getfield 35, 3) := by decide +kernel
theorem dX8_beginJob_196 : decode cX8_beginJob 196 = .ok (.aload_n 0, 1) := by decide +kernel
theorem dX8_beginJob_197 : decode cX8_beginJob 197 = .ok (.invokevirtual 180, 3) := by decide +kernel
theorem dX8_beginJob_200 : decode cX8_beginJob 200 = .ok (.return_, 1) := by decide +kernel
set_option maxHeartbeats 4000000 in
set_option maxRecDepth 100000 in
theorem ct_X8_beginJob {E : xE} {z : Nat} {T : Nat → Nat × Int} {F : Nat → Nat → Int} {I : Nat → Int → Int} {P : Nat → Nat → Option Nat} {Y : Nat → Int → Option Nat} {a : Nat} {w : Int → Int} (hS : SR T F I P Y a w) (hr : wRn w) : Ct E 3 mX8_beginJob 0 0 [.ref a] (z, T, F, I, P, Y) (xQ a none z T F I P Y (sBeg w)) := by
  obtain ⟨⟨hO, hL, hTy⟩, hLw, ⟨π, hB⟩, hV, hLf⟩ := id hS
  obtain ⟨⟨⟨⟨s0, s1, s2, s3⟩, sR, ⟨s4, s5⟩, ⟨s6, sLv⟩, ⟨s7, s8⟩, ⟨s9, sJo⟩, s10, s11, s12⟩, p1, p2, p3, p4, p5⟩, ⟨⟨c1, c9, c10, c11, c12, c13, c14, c15⟩, hTl, j0, j1, j2⟩, hRn, hTb, hOt, hJo⟩ := id hB
  obtain ⟨hR, o0, o1, o2, o3, o4, o5, o6, oc, o13, o14, o16, o17, o18, ov⟩ := id hO
  have hN := wN_i o0.1
  have hdl := sDueN_lt w
  have hl9 := sLv.1
  have hl8 := hV.2.1
  have hdm := sDueN_0 w
  refine Ct.of [some (.ref a), none, none, none, none, none] kt_X8_beginJob rfl (Nat.le_of_ble_eq_true rfl) rfl (fun d hd => ?_)
  generalize hX : xN E _ _ _ = X
  refine xg_aloadn 1 dX8_beginJob_0 rfl rfl rfl ?_
  refine xg_getP 4 kf_RX8_28 dX8_beginJob_1 rfl (by assumption) (by assumption) ?_
  refine xg_getI 7 kf_RX8_143 dX8_beginJob_4 rfl (by assumption) ?_
  refine xg_ifne 20 10 dX8_beginJob_7 rfl rfl (by omega) (fun hb7 => ?_) (fun hb7 => ?_)
  · skip
    subst hX
    exact xg_return dX8_beginJob_20 rfl ⟨Nat.le_refl _, Nat.le_refl _⟩ ⟨rfl, F, I, P, Y, rfl, by unfold sBeg; rw [if_pos (by omega)]; exact hS, SF.rf⟩
  · skip
    refine xg_aloadn 11 dX8_beginJob_10 rfl rfl rfl ?_
    refine xg_getP 14 kf_RX8_35 dX8_beginJob_11 rfl (by assumption) (by assumption) ?_
    refine xg_getI 17 kf_RX8_161 dX8_beginJob_14 rfl (by assumption) ?_
    refine xg_ifne 21 20 dX8_beginJob_17 rfl rfl (by omega) (fun hb17 => ?_) (fun hb17 => ?_)
    · skip
      refine xg_aloadn 22 dX8_beginJob_21 rfl rfl rfl ?_
      refine xg_callVq 25 8 [] _ kv_X8_dearestLevel ⟨_, _, rfl⟩ kl_RX8_164 dX8_beginJob_22 rfl (by assumption) (by omega) rfl rfl (Nat.le_of_ble_eq_true rfl) (by omega) ⟨Nat.le_refl _, Nat.le_refl _⟩ (ct_X8_dearestLevel hS hr (by omega)) rfl (fun F1 I1 P1 Y1 hS1 hF1 => ?_)
      have hdmb := sDM_bd w 4
      have hdm0 : sDM w 4 ≠ -1 := by omega
      clear hB hV hLf hRn hTb hOt hJo hTl p1 p2 p3 p4 p5 hLw
      clear π
      obtain ⟨⟨hO, hL, hTy⟩, hLw, ⟨π, hB⟩, hV, hLf⟩ := id hS1
      obtain ⟨⟨⟨⟨s0, s1, s2, s3⟩, sR, ⟨s4, s5⟩, ⟨s6, sLv⟩, ⟨s7, s8⟩, ⟨s9, sJo⟩, s10, s11, s12⟩, p1, p2, p3, p4, p5⟩, ⟨⟨c1, c9, c10, c11, c12, c13, c14, c15⟩, hTl, j0, j1, j2⟩, hRn, hTb, hOt, hJo⟩ := id hB
      obtain ⟨hR, o0, o1, o2, o3, o4, o5, o6, oc, o13, o14, o16, o17, o18, ov⟩ := id hO
      have hN := wN_i o0.1
      obtain ⟨b, hb9⟩ : ∃ b : Nat, (b : Int) = sDM w 4 := ⟨(sDM w 4).toNat, by omega⟩
      rw [← hb9]
      have hj9 := sJo.1
      have hl7 := sLv.1
      refine xg_istoren 26 _ dX8_beginJob_25 rfl rfl rfl (by decide) (Or.inr rfl) ?_
      have join43 : ∀ (x : Int), (x = if w 3 = 1 ∧ (b : Int) < 3 then 1 else 0) → xG E mX8_beginJob (xR d 0 0) X 43 [some (.ref a), some (J (b : Int)), none, none, none, none] [J x] (z, T, F1, I1, P1, Y1) 0 0 := by
        intro x hx
        refine xg_istoren 44 _ dX8_beginJob_43 rfl rfl rfl (by decide) (Or.inr rfl) ?_
        refine xg_iconst 45 dX8_beginJob_44 rfl ?_
        refine xg_istoren 46 _ dX8_beginJob_45 rfl rfl rfl (by decide) (Or.inr rfl) ?_
        refine xg_iconst 47 dX8_beginJob_46 rfl ?_
        refine xg_istore 49 _ dX8_beginJob_47 rfl rfl (by decide) (Or.inr rfl) ?_
        have loop49 : ∀ (mm : Nat) (r : Nat) (F2 : Nat → Nat → Int), ((r : Int) ≤ w 0) → RB T F2 I1 P1 Y1 a π (wInS w (sBegS w (b : Int)) (r : Int)) → (∀ b : Nat, b < a + 2 ∨ a + 44 ≤ b → F2 b = F1 b) → w 0 - (r : Int) < (mm : Int) → xG E mX8_beginJob (xR d 0 0) X 49 [some (.ref a), some (J (b : Int)), some (J (if w 3 = 1 ∧ (b : Int) < 3 then 1 else 0)), some (J (pSum (fun r => if (sBegS w (b : Int)).testBit r.toNat = true then sEnt w (201 + 122 * r) else 0) r)), some (J ((r : Nat) : Int)), none] [] (z, T, F2, I1, P1, Y1) 0 0 := by
          intro mm
          induction mm with
          | zero => intro r F2 hr1 hB9 hF9 hm; exfalso; omega
          | succ mm ih =>
            intro r F2 hr1 hB9 hF9 hm
            have hq1 : F2 a 1 = w 0 := by rw [hF9 a (by omega)]; exact c1
            refine xg_iload 51 dX8_beginJob_49 rfl rfl ?_
            refine xg_aloadn 52 dX8_beginJob_51 rfl rfl rfl ?_
            refine xg_getI 55 kf_RX8_70 dX8_beginJob_52 rfl (by assumption) ?_
            refine xg_icge 134 58 dX8_beginJob_55 rfl rfl (by omega) (fun hb55 => ?_) (fun hb55 => ?_)
            · skip
              have hrw : r = wN w := by omega
              subst hrw
              have hnb : (pSum (fun r => if (sBegS w (b : Int)).testBit r.toNat = true then sEnt w (201 + 122 * r) else 0) (wN w)) ≤ 720 ∧ 0 ≤ (pSum (fun r => if (sBegS w (b : Int)).testBit r.toNat = true then sEnt w (201 + 122 * r) else 0) (wN w)) := by
                have := pEI_bd w (sBegS w (b : Int)) (wN w)
                omega
              generalize hsm : (pSum (fun r => if (sBegS w (b : Int)).testBit r.toNat = true then sEnt w (201 + 122 * r) else 0) (wN w)) = sm at hnb
              refine xg_aloadn 135 dX8_beginJob_134 rfl rfl rfl ?_
              refine xg_getP 138 kf_RX8_28 dX8_beginJob_135 rfl (by assumption) (by assumption) ?_
              refine xg_iconst 139 dX8_beginJob_138 rfl ?_
              refine xg_putZ 142 kf_RX8_143 dX8_beginJob_139 rfl (by assumption) (Or.inr rfl) ?_
              refine xg_aloadn 143 dX8_beginJob_142 rfl rfl rfl ?_
              refine xg_getP 146 kf_RX8_28 dX8_beginJob_143 rfl (by assumption) (by assumption) ?_
              refine xg_iconst 147 dX8_beginJob_146 rfl ?_
              refine xg_iloadn 148 dX8_beginJob_147 rfl rfl rfl ?_
              refine xg_iconst 149 dX8_beginJob_148 rfl ?_
              refine xg_iadd 150 dX8_beginJob_149 rfl ?_
              refine xg_mmin 153 kl_RX8_168 dX8_beginJob_150 rfl (by omega) (Nat.le_of_ble_eq_true rfl) (by omega) ⟨Nat.le_refl _, Nat.le_refl _⟩ ?_
              refine xg_putI 156 kf_RX8_133 dX8_beginJob_153 rfl (by assumption) ?_
              refine xg_aloadn 157 dX8_beginJob_156 rfl rfl rfl ?_
              refine xg_getP 160 kf_RX8_28 dX8_beginJob_157 rfl (by assumption) (by assumption) ?_
              refine xg_iconst 161 dX8_beginJob_160 rfl ?_
              refine xg_putI 164 kf_RX8_173 dX8_beginJob_161 rfl (by assumption) ?_
              refine xg_aloadn 165 dX8_beginJob_164 rfl rfl rfl ?_
              refine xg_getP 168 kf_RX8_28 dX8_beginJob_165 rfl (by assumption) (by assumption) ?_
              refine xg_iloadn 169 dX8_beginJob_168 rfl rfl rfl ?_
              refine xg_putI 172 kf_RX8_123 dX8_beginJob_169 rfl (by assumption) ?_
              have e18 : wInS w (sBegS w (b : Int)) (w 0) 0 = w 0 := wInS_ne (fun _ _ => by omega)
              have e14 : wInS w (sBegS w (b : Int)) (w 0) 14 = w 14 := wInS_ne (fun _ _ => by omega)
              rw [hN] at hB9
              have hB7 := hB9.jset (g := min 3 ((b : Int) + 1)) (m := sm) (by omega) (by omega)
              rw [show upF (upF (upF (upF F2 (a + 44) 0 1) (a + 44) 1 (min 3 ((b : Int) + 1))) (a + 44) 2 0) (a + 44) 3 sm = fJob F2 (a + 44) 1 (min 3 ((b : Int) + 1)) 0 sm from rfl]
              refine xg_aloadn 173 dX8_beginJob_172 rfl rfl rfl ?_
              refine xg_getP 176 kf_RX8_49 dX8_beginJob_173 rfl (by assumption) (by assumption) ?_
              refine xg_aloadn 177 dX8_beginJob_176 rfl rfl rfl ?_
              refine xg_getI 180 kf_RX8_93 dX8_beginJob_177 rfl (by assumption) ?_
              rw [fJob_na (show a ≠ a + 44 by omega), hF9 a (by omega), c13]
              refine xg_iconst 181 dX8_beginJob_180 rfl ?_
              refine xg_aloadn 182 dX8_beginJob_181 rfl rfl rfl ?_
              refine xg_getP 185 kf_RX8_28 dX8_beginJob_182 rfl (by assumption) (by assumption) ?_
              refine xg_getI 188 kf_RX8_133 dX8_beginJob_185 rfl (by assumption) ?_
              rw [fJob_at.2.1]
              refine xg_iloadn 189 dX8_beginJob_188 rfl rfl rfl ?_
              refine xg_callV 192 2 [_, _, _, _] _ kv_X2_note ⟨_, _, rfl⟩ kl_RX8_176 dX8_beginJob_189 rfl (by assumption) (by omega) rfl rfl (Nat.le_of_ble_eq_true rfl) (by omega) ⟨Nat.le_refl _, Nat.le_refl _⟩ (ct_X2_note sJo (by rw [fJob_na (show a + 51 ≠ a + 44 by omega), hF9 _ (by omega)]; exact hJo.2.1) (by rw [fJob_na (show a + 51 ≠ a + 44 by omega), hF9 _ (by omega), hJo.1]; exact o14)) rfl ?_
              have eW : sBeg w = sTold (wS (wS (wS (wInS w (sBegS w (b : Int)) (w 0)) 16 1) 17 (min 3 ((b : Int) + 1))) 18 0) 1 (min 3 ((b : Int) + 1)) sm := by
                have hbz : wE (wInS w (sBegS w (b : Int)) (w 0)) 79 60 = wInS w (sBegS w (b : Int)) (w 0) := wE_id (fun k k0 k1 => (wInS_ne (fun _ _ => by omega)).trans ((hr.2 (by omega)).2 k k0 k1))
                have e1 : sBegW w (b : Int) = (wS (wS (wS (wInS w (sBegS w (b : Int)) (w 0)) 16 1) 17 (min 3 ((b : Int) + 1))) 18 0) := by unfold sBegW; rw [hbz]
                have e2 : sBegW w (b : Int) 17 = min 3 ((b : Int) + 1) := by rw [e1, wS_ne _ _ _ (by omega), wS_at]
                have e3 : sEntIn (sBegW w (b : Int)) (sBegS w (b : Int)) = sm := by
                  rw [← hsm]
                  have e0 : sBegW w (b : Int) 0 = w 0 := by rw [e1, wS_ne _ _ _ (by omega), wS_ne _ _ _ (by omega), wS_ne _ _ _ (by omega)]; exact e18
                  unfold sEntIn
                  rw [show wN (sBegW w (b : Int)) = wN w by unfold wN; rw [e0]]
                  refine pSum_congr (fun r hr => ?_)
                  rw [show sEnt (sBegW w (b : Int)) (201 + 122 * (r : Int)) = sEnt w (201 + 122 * (r : Int)) from pCnt_congr (fun k _ _ => by rw [e1, wS_ne _ _ _ (by omega), wS_ne _ _ _ (by omega), wS_ne _ _ _ (by omega)]; exact wInS_ne (fun _ _ => by omega))]
                unfold sBeg
                rw [if_neg (by omega), if_neg hdm0, ← hb9]
                unfold sBeg1
                rw [e2, e3, e1]
              have hO5 := wOk_beg hO
              have hlv5 := (wRn_beg hr hO).lv
              have hOW : wOk (wS (wS (wS (wInS w (sBegS w (b : Int)) (w 0)) 16 1) 17 (min 3 ((b : Int) + 1))) 18 0) := by
                have := wOk_begW hO (l := (b : Int)) (by omega)
                unfold sBegW at this
                rw [wE_id (fun k k0 k1 => (wInS_ne (fun _ _ => by omega)).trans ((hr.2 (by omega)).2 k k0 k1))] at this
                exact this
              have hB5 := hB7.told (x := 1) (y := min 3 ((b : Int) + 1)) (v := sm) hOW
              rw [show (wS (wS (wS (wInS w (sBegS w (b : Int)) (w 0)) 16 1) 17 (min 3 ((b : Int) + 1))) 18 0) 13 = w 13 by rw [wS_ne _ _ _ (by omega), wS_ne _ _ _ (by omega), wS_ne _ _ _ (by omega)]; exact wInS_ne (fun _ _ => by omega), ← eW] at hB5
              have hF5 : SF a F1 I1 P1 Y1 (fNote (fJob F2 (a + 44) 1 (min 3 ((b : Int) + 1)) 0 sm) (a + 51)) (iNote (fJob F2 (a + 44) 1 (min 3 ((b : Int) + 1)) 0 sm) I1 (a + 51) (w 13) 1 (min 3 ((b : Int) + 1)) sm) P1 Y1 := by
                refine SF.of (fun b hb => ?_) (fun b hb _ => iNote_na (by omega))
                rw [fNote_na (by omega), fJob_na (by omega), hF9 b (by omega)]
              refine xg_aloadn 193 dX8_beginJob_192 rfl rfl rfl ?_
              refine xg_getP 196 kf_RX8_35 dX8_beginJob_193 rfl (by assumption) (by assumption) ?_
              refine xg_aloadn 197 dX8_beginJob_196 rfl rfl rfl ?_
              refine xg_callV 200 5 [_] _ kv_X5_recount ⟨_, _, rfl⟩ kl_RX8_180 dX8_beginJob_197 rfl (by assumption) (by omega) rfl rfl (Nat.le_of_ble_eq_true rfl) (by omega) ⟨Nat.le_refl _, Nat.le_refl _⟩ (ct_X5_recount hB5 hO5 hlv5 sLv) rfl ?_
              subst hX
              exact xg_return dX8_beginJob_200 rfl ⟨Nat.le_refl _, Nat.le_refl _⟩ ⟨rfl, _, _, P1, Y1, rfl, SR.rec (hS1.1.mv hO5 (wHi_beg hO)) (hLw.sf hF5 (wHi_beg hO)) hB5 (by rw [fNote_na (by omega), fJob_at.2.2.2, ← hsm, ← sBeg_left hO]; unfold sBeg; rw [if_neg (by omega), if_neg hdm0, ← hb9]), (hF1.tr hF5).tr SF.rec⟩
            · skip
              refine xg_iload 60 dX8_beginJob_58 rfl rfl ?_
              refine xg_bipush 62 dX8_beginJob_60 rfl (by decide) ?_
              refine xg_icge 134 65 dX8_beginJob_62 rfl rfl (by omega) (fun hb62 => ?_) (fun hb62 => ?_)
              · exfalso; omega
              · skip
                refine xg_aloadn 66 dX8_beginJob_65 rfl rfl rfl ?_
                refine xg_getP 69 kf_RX8_11 dX8_beginJob_66 rfl (by assumption) (by assumption) ?_
                refine xg_iload 71 dX8_beginJob_69 rfl rfl ?_
                refine xg_rald 72 dX8_beginJob_71 rfl (by assumption) (by omega) (p1 r (by omega)) ?_
                have hr12 : r < 12 := by omega
                have hq := p4 r (by omega)
                have hb := sR (π r) hq
                have hb0 := hb.1
                have hwr0 : wInS w (sBegS w (b : Int)) (r : Int) 0 = w 0 := wInS_ne (fun _ _ => by omega)
                have hrn := hB9.2.2.1 r (by omega)
                have hd3 : F2 (a + 2 + 3 * π r) 3 = w (199 + 122 * (r : Int)) := hrn.1.trans (wInS_ne (fun _ _ => by omega))
                have hrl := (hr.1 r (by omega)).1
                have hbt := sBegS_bit (w := w) (l := b) o0.2 (show r < wN w by omega)
                refine xg_astore 74 _ dX8_beginJob_72 rfl rfl (by decide) (Or.inr rfl) ?_
                have join105 : ∀ (y : Int), (y = bI ((sBegS w (b : Int)).testBit r)) → xG E mX8_beginJob (xR d 0 0) X 105 [some (.ref a), some (J (b : Int)), some (J (if w 3 = 1 ∧ (b : Int) < 3 then 1 else 0)), some (J (pSum (fun r => if (sBegS w (b : Int)).testBit r.toNat = true then sEnt w (201 + 122 * r) else 0) r)), some (J ((r : Nat) : Int)), some (.ref (a + 2 + 3 * π r))] [J y, .ref (a + 2 + 3 * π r)] (z, T, F2, I1, P1, Y1) 0 0 := by
                  intro y hy
                  subst hy
                  refine xg_putZ 108 kf_RX8_110 dX8_beginJob_105 rfl (by assumption) (bI_01 _) ?_
                  have hB8 : RB T (upF F2 (a + 2 + 3 * π r) 4 (bI ((sBegS w (b : Int)).testBit r))) I1 P1 Y1 a π (wInS w (sBegS w (b : Int)) ((r + 1 : Nat) : Int)) := by
                    have h9 := hB9.inp (r := r) (v := bI ((sBegS w (b : Int)).testBit r)) (by omega) (by omega) (by rw [wInS_ne (fun _ _ => by omega)]; omega)
                    rw [show 200 + 122 * (r : Int) = 199 + 122 * (r : Int) + 1 by omega, wInS_s] at h9
                    exact h9
                  refine xg_iloadn 109 dX8_beginJob_108 rfl rfl rfl ?_
                  refine xg_aload 111 dX8_beginJob_109 rfl rfl ?_
                  refine xg_getI 114 kf_RX8_110 dX8_beginJob_111 rfl (by assumption) ?_
                  rw [upF_at]
                  have hb01 := bI_01 ((sBegS w (b : Int)).testBit r)
                  refine xg_ifeq 125 117 dX8_beginJob_114 rfl rfl (by omega) (fun hb114 => ?_) (fun hb114 => ?_)
                  · have hby : (sBegS w (b : Int)).testBit r = false := by cases hq9 : (sBegS w (b : Int)).testBit r; rfl; rw [hq9] at hb114; cases hb114
                    skip
                    refine xg_iconst 126 dX8_beginJob_125 rfl ?_
                    refine xg_iadd 127 dX8_beginJob_126 rfl ?_
                    refine xg_istoren 128 _ dX8_beginJob_127 rfl rfl rfl (by decide) (Or.inr rfl) ?_
                    refine xg_iinc 131 _ dX8_beginJob_128 rfl rfl rfl rfl (by decide) (Or.inr rfl) ?_
                    refine xg_goto 49 dX8_beginJob_131 rfl ?_
                    exact xg_weak _ (xle_s rfl (xle_s rfl (xle_s rfl (xle_s (by rw [pSum_s, Int.toNat_natCast, if_neg (by rw [hby]; decide), Int.add_zero]) (xle_s rfl (xle_n xle_0)))))) (ih (r + 1) _ (by omega) hB8 (fun b hb => by rw [upF_na _ _ _ _ (by omega)]; exact hF9 b hb) (by omega))
                  · have hby : (sBegS w (b : Int)).testBit r = true := by cases hq9 : (sBegS w (b : Int)).testBit r; (rw [hq9] at hb114; exact absurd rfl hb114); rfl
                    refine xg_aload 119 dX8_beginJob_117 rfl rfl ?_
                    refine xg_getI 122 kf_RX8_117 dX8_beginJob_119 rfl (by assumption) ?_
                    rw [upF_nk _ _ _ _ (by omega), hrn.n, show sEnt (wInS w (sBegS w (b : Int)) (r : Int)) (201 + 122 * (r : Int)) = sEnt w (201 + 122 * (r : Int)) from pCnt_congr (fun k _ _ => wInS_ne (fun _ _ => by omega))]
                    refine xg_goto 126 dX8_beginJob_122 rfl ?_
                    refine xg_iadd 127 dX8_beginJob_126 rfl ?_
                    refine xg_istoren 128 _ dX8_beginJob_127 rfl rfl rfl (by decide) (Or.inr rfl) ?_
                    refine xg_iinc 131 _ dX8_beginJob_128 rfl rfl rfl rfl (by decide) (Or.inr rfl) ?_
                    refine xg_goto 49 dX8_beginJob_131 rfl ?_
                    exact xg_weak _ (xle_s rfl (xle_s rfl (xle_s rfl (xle_s (by rw [pSum_s, Int.toNat_natCast, if_pos hby]) (xle_s rfl (xle_n xle_0)))))) (ih (r + 1) _ (by omega) hB8 (fun b hb => by rw [upF_na _ _ _ _ (by omega)]; exact hF9 b hb) (by omega))
                refine xg_aload 76 dX8_beginJob_74 rfl rfl ?_
                refine xg_aload 78 dX8_beginJob_76 rfl rfl ?_
                refine xg_getI 81 kf_RX8_167 dX8_beginJob_78 rfl (by assumption) ?_
                refine xg_iloadn 82 dX8_beginJob_81 rfl rfl rfl ?_
                refine xg_iceq 100 85 dX8_beginJob_82 rfl rfl (by omega) (fun hb82 => ?_) (fun hb82 => ?_)
                · skip
                  refine xg_iconst 101 dX8_beginJob_100 rfl ?_
                  refine xg_goto 105 dX8_beginJob_101 rfl ?_
                  refine join105 _ ?_
                  rw [hbt]
                  first | exact (bI_t (by omega)).symm | exact (bI_f (by omega)).symm
                · skip
                  refine xg_iloadn 86 dX8_beginJob_85 rfl rfl rfl ?_
                  refine xg_ifeq 104 89 dX8_beginJob_86 rfl rfl (by omega) (fun hb86 => ?_) (fun hb86 => ?_)
                  · skip
                    refine xg_iconst 105 dX8_beginJob_104 rfl ?_
                    refine join105 _ ?_
                    rw [hbt]
                    first | exact (bI_t (by omega)).symm | exact (bI_f (by omega)).symm
                  · skip
                    refine xg_aload 91 dX8_beginJob_89 rfl rfl ?_
                    refine xg_getI 94 kf_RX8_167 dX8_beginJob_91 rfl (by assumption) ?_
                    refine xg_iloadn 95 dX8_beginJob_94 rfl rfl rfl ?_
                    refine xg_iconst 96 dX8_beginJob_95 rfl ?_
                    refine xg_iadd 97 dX8_beginJob_96 rfl ?_
                    refine xg_icne 104 100 dX8_beginJob_97 rfl rfl (by omega) (fun hb97 => ?_) (fun hb97 => ?_)
                    · skip
                      refine xg_iconst 105 dX8_beginJob_104 rfl ?_
                      refine join105 _ ?_
                      rw [hbt]
                      first | exact (bI_t (by omega)).symm | exact (bI_f (by omega)).symm
                    · skip
                      refine xg_iconst 101 dX8_beginJob_100 rfl ?_
                      refine xg_goto 105 dX8_beginJob_101 rfl ?_
                      refine join105 _ ?_
                      rw [hbt]
                      first | exact (bI_t (by omega)).symm | exact (bI_f (by omega)).symm
        subst hx
        exact xg_weak _ (xle_s rfl (xle_s rfl (xle_s rfl (xle_s rfl (xle_s rfl (xle_n xle_0)))))) (loop49 14 0 F1 (by omega) (by rw [show ((0 : Nat) : Int) = 0 from rfl, wInS_0]; exact hB) (fun _ _ => rfl) (by omega))
      skip
      refine xg_aloadn 27 dX8_beginJob_26 rfl rfl rfl ?_
      refine xg_getI 30 kf_RX8_89 dX8_beginJob_27 rfl (by assumption) ?_
      refine xg_ifeq 42 33 dX8_beginJob_30 rfl rfl (by omega) (fun hb30 => ?_) (fun hb30 => ?_)
      · skip
        refine xg_iconst 43 dX8_beginJob_42 rfl ?_
        refine join43 _ ?_
        first | (rw [if_pos (by omega)]) | (rw [if_neg (by omega)])
      · skip
        refine xg_iloadn 34 dX8_beginJob_33 rfl rfl rfl ?_
        refine xg_iconst 35 dX8_beginJob_34 rfl ?_
        refine xg_icge 42 38 dX8_beginJob_35 rfl rfl (by omega) (fun hb35 => ?_) (fun hb35 => ?_)
        · skip
          refine xg_iconst 43 dX8_beginJob_42 rfl ?_
          refine join43 _ ?_
          first | (rw [if_pos (by omega)]) | (rw [if_neg (by omega)])
        · skip
          refine xg_iconst 39 dX8_beginJob_38 rfl ?_
          refine xg_goto 43 dX8_beginJob_39 rfl ?_
          refine join43 _ ?_
          first | (rw [if_pos (by omega)]) | (rw [if_neg (by omega)])
    · skip
      subst hX
      exact xg_return dX8_beginJob_20 rfl ⟨Nat.le_refl _, Nat.le_refl _⟩ ⟨rfl, F, I, P, Y, rfl, by unfold sBeg; rw [if_neg (by omega), if_pos (by omega)]; exact hS, SF.rf⟩

