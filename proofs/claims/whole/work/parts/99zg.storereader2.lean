/-! the store's reader: lines -/
/-- nothing but the store, the scan's place and the reader's rows differs -/
def dFr (a s r : Nat) (F : Nat → Nat → Int) (I : Nat → Int → Int) (P : Nat → Nat → Option Nat) (Y : Nat → Int → Option Nat) (F' : Nat → Nat → Int) (I' : Nat → Int → Int) (P' : Nat → Nat → Option Nat) (Y' : Nat → Int → Option Nat) : Prop :=
  (∀ b : Nat, (b < a ∨ a + 57 ≤ b) → b ≠ s → b ≠ r → F' b = F b) ∧ (∀ b : Nat, (b < a ∨ a + 57 ≤ b) → P' b = P b ∧ Y' b = Y b) ∧ (∀ b : Nat, (b < a ∨ a + 57 ≤ b) → b ≠ r + 1 → b ≠ r + 2 → (∀ l, P a 16 = some l → b ≠ l + 5) → I' b = I b) ∧ ∀ k : Nat, k ≠ 2 → k ≠ 3 → P' a k = P a k
/-- the store lies apart from the scan and the reader -/
def cFar (a s r : Nat) (P : Nat → Nat → Option Nat) : Prop := (s + 4 ≤ a ∨ a + 57 ≤ s) ∧ (r + 3 ≤ a ∨ a + 57 ≤ r) ∧ ∀ l, P a 16 = some l → (l + 6 ≤ s ∨ s + 4 ≤ l) ∧ (l + 6 ≤ r ∨ r + 3 ≤ l)
section CFR
variable {T : Nat → Nat × Int} {F F1 F' : Nat → Nat → Int} {I I1 I' : Nat → Int → Int} {P P1 P' : Nat → Nat → Option Nat} {Y Y1 Y' : Nat → Int → Option Nat} {a s r N i : Nat} {w : Int → Int} {t : Int → Int} {e q : Int}
theorem upF_self (F : Nat → Nat → Int) (a k : Nat) : upF F a k (F a k) = F := by
  funext b j; unfold upF
  by_cases h : b = a ∧ j = k
  · rw [if_pos h, h.1, h.2]
  · rw [if_neg h]
theorem dFr.rf : dFr a s r F I P Y F I P Y := ⟨fun _ _ _ _ => rfl, fun _ _ => ⟨rfl, rfl⟩, fun _ _ _ _ _ => rfl, fun _ _ _ => rfl⟩
theorem dFr.tr (h1 : dFr a s r F I P Y F1 I1 P1 Y1) (h2 : dFr a s r F1 I1 P1 Y1 F' I' P' Y') : dFr a s r F I P Y F' I' P' Y' := by
  refine ⟨fun b b0 b1 b2 => (h2.1 b b0 b1 b2).trans (h1.1 b b0 b1 b2), fun b b0 => ⟨(h2.2.1 b b0).1.trans (h1.2.1 b b0).1, (h2.2.1 b b0).2.trans (h1.2.1 b b0).2⟩, fun b b0 b1 b2 hl => ?_, fun k k0 k1 => (h2.2.2.2 k k0 k1).trans (h1.2.2.2 k k0 k1)⟩
  exact (h2.2.2.1 b b0 b1 b2 (fun l h => hl l (by rw [← h1.2.2.2 16 (by decide) (by decide)]; exact h))).trans (h1.2.2.1 b b0 b1 b2 hl)
theorem SF.c (h : SF a F I P Y F' I' P' Y') : dFr a s r F I P Y F' I' P' Y' := ⟨fun b b0 _ _ => (h.1 b b0).1, fun b b0 => ⟨(h.1 b b0).2.1, (h.1 b b0).2.2.1⟩, fun b b0 _ _ hl => (h.1 b b0).2.2.2 hl, h.2⟩
theorem dFr.of (hF : ∀ b : Nat, b ≠ s → b ≠ r → F' b = F b) (hI : ∀ b : Nat, b ≠ r + 1 → b ≠ r + 2 → I' b = I b) : dFr a s r F I P Y F' I' P Y := ⟨fun b _ b1 b2 => hF b b1 b2, fun _ _ => ⟨rfl, rfl⟩, fun b _ b1 b2 _ => hI b b1 b2, fun _ _ _ => rfl⟩
theorem cFar.mv (h : cFar a s r P) (hP : P' a 16 = P a 16) : cFar a s r P' := ⟨h.1, h.2.1, fun l hl => h.2.2 l (by rw [← hP]; exact hl)⟩
theorem cFar.f (h : cFar a s r P) (hf : dFr a s r F I P Y F' I' P' Y') : cFar a s r P' := h.mv (hf.2.2.2 16 (by decide) (by decide))
theorem SR.cf (h : SR T F I P Y a w) (hD : cFar a s r P) (hF : ∀ b : Nat, b ≠ s → b ≠ r → F' b = F b) (hI : ∀ b : Nat, b ≠ r + 1 → b ≠ r + 2 → I' b = I b) : SR T F' I' P Y a w := by
  obtain ⟨d1, d2, d3⟩ := hD
  refine h.fr ⟨fun b b0 b1 => ⟨rfl, hF b (by omega) (by omega), hI b (by omega) (by omega), rfl, rfl⟩, fun l hl b b0 b1 => ?_⟩
  have := d3 l hl
  exact ⟨rfl, hF b (by omega) (by omega), fun _ => hI b (by omega) (by omega), rfl⟩
theorem cAt.sf (h : cAt t e F I s N i q) (hf : SF a F I P Y F' I' P' Y') (hD : cFar a s r P) : cAt t e F' I' s N i q := by
  obtain ⟨d1, d2, d3⟩ := hD
  exact h.fr (hf.1 s (by omega)).1 (fun b b0 b1 => (hf.1 b (by omega)).2.2.2 (fun l hl => by have := d3 l hl; omega))
theorem SF.r1 (hf : SF a F I P Y F' I' P' Y') (hD : cFar a s r P) : I' (r + 1) = I (r + 1) := by
  obtain ⟨d1, d2, d3⟩ := hD
  exact (hf.1 (r + 1) (by omega)).2.2.2 (fun l hl => by have := d3 l hl; omega)
theorem SF.r2 (hf : SF a F I P Y F' I' P' Y') (hD : cFar a s r P) : I' (r + 2) = I (r + 2) := by
  obtain ⟨d1, d2, d3⟩ := hD
  exact (hf.1 (r + 2) (by omega)).2.2.2 (fun l hl => by have := d3 l hl; omega)
theorem SF.r0 (hf : SF a F I P Y F' I' P' Y') (hD : cFar a s r P) : F' r = F r := (hf.1 r (by have := hD.2.1; omega)).1
theorem sAdd_cg {k1 v1 k2 v2 : Int → Int} {lv : Int} {n : Nat} (h : ∀ i : Nat, i < n → k1 (i : Int) = k2 (i : Int) ∧ v1 (i : Int) = v2 (i : Int)) : sAdd w lv k1 v1 n = sAdd w lv k2 v2 n := by unfold sAdd; rw [sPut_cg n h]
end CFR
def cSt (z : Nat) (T : Nat → Nat × Int) (F : Nat → Nat → Int) (I : Nat → Int → Int) (P : Nat → Nat → Option Nat) (Y : Nat → Int → Option Nat) (t : Int → Int) (e : Int) (a s r N : Nat) (w : Int → Int) : gSz → Option Value → xH → Prop
  | .inl f => fun v h' => v = some (J 0) ∧ ∃ (F' : Nat → Nat → Int) (I' : Nat → Int → Int) (P' : Nat → Nat → Option Nat) (Y' : Nat → Int → Option Nat), F' s 5 = f ∧ pRg I' r ∧ SR T F' I' P' Y' a w ∧ dFr a s r F I P Y F' I' P' Y' ∧ h' = (z, T, F', I', P', Y')
  | .inr (w', q') => fun v h' => v = some (J 1) ∧ ∃ (F' : Nat → Nat → Int) (I' : Nat → Int → Int) (P' : Nat → Nat → Option Nat) (Y' : Nat → Int → Option Nat) (i' : Nat), cAt t e F' I' s N i' q' ∧ pRg I' r ∧ F' r 4 = F r 4 ∧ SR T F' I' P' Y' a w' ∧ dFr a s r F I P Y F' I' P' Y' ∧ h' = (z, T, F', I', P', Y')
theorem cSt.cg {E : xE} {z kk : Nat} {T : Nat → Nat × Int} {F : Nat → Nat → Int} {I : Nat → Int → Int} {P : Nat → Nat → Option Nat} {Y : Nat → Int → Option Nat} {t : Int → Int} {e : Int} {a s r N : Nat} {w : Int → Int} {M : xM} {As : List Value} {hh : xH} {x y : gSz} (h : x = y) (ct : Ct E kk M 0 0 As hh (cSt z T F I P Y t e a s r N w x)) : Ct E kk M 0 0 As hh (cSt z T F I P Y t e a s r N w y) := h ▸ ct

theorem c0_fail2 {E : xE} {z : Nat} {T : Nat → Nat × Int} {F : Nat → Nat → Int} {I : Nat → Int → Int} {P : Nat → Nat → Option Nat} {Y : Nat → Int → Option Nat} {s N : Nat} {t : Int → Int} {e : Int} (hs : wScn T P s) (ht4 : ∀ j : Int, 0 ≤ j → j < 400 → 0 ≤ t j ∧ t j ≤ 255) (he : 0 ≤ e ∧ e ≤ 400) {i : Nat} {q : Int} (hA : cAt t e F I s N i q) : Ct E 0 mX7_fail 0 0 [.ref s] (z, T, upF F s 5 q, I, P, Y) (xd (some (J 0)) (z, T, upF F s 5 q, I, P, Y)) := by
  have hq := hA.q0 he.1
  obtain ⟨h1, h2, h3, h4, h5⟩ := hA
  have h := ct_X7_fail (E := E) (z := z) (T := T) (P := P) (Y := Y) (F := fZ F s (s + 4) i q (F (s + 4) 6)) (I := upA I (s + 4 + 4) (I (s + 4 + 4))) hs (h1.ok ht4 he h4 (by omega) (Nat.le_refl (s + 4)))
  unfold zFl at h
  rw [if_neg (by rw [fZ_5]; omega), fZ_self5 h2 h3, upA_id] at h
  exact h
theorem dX9_readSetting_0 : decode cX9_readSetting 0 = .ok (.iconst (-1), 1) := by decide +kernel
theorem dX9_readSetting_1 : decode cX9_readSetting 1 = .ok (.istore_n 2, 1) := by decide +kernel
theorem dX9_readSetting_2 : decode cX9_readSetting 2 = .ok (.aload_n 0, 1) := by decide +kernel
theorem dX9_readSetting_3 : decode cX9_readSetting 3 = .ok (.getfield 9, 3) := by decide +kernel
theorem dX9_readSetting_6 : decode cX9_readSetting 6 = .ok (.bipush 15, 2) := by decide +kernel
theorem dX9_readSetting_8 : decode cX9_readSetting 8 = .ok (.invokevirtual 52, 3) := by decide +kernel
theorem dX9_readSetting_11 : decode cX9_readSetting 11 = .ok (.ifCond .eq 27, 3) := by decide +kernel
theorem dX9_readSetting_14 : decode cX9_readSetting 14 = .ok (.aload_n 0, 1) := by decide +kernel
theorem dX9_readSetting_15 : decode cX9_readSetting 15 = .ok (.getfield 9, 3) := by decide +kernel
theorem dX9_readSetting_18 : decode cX9_readSetting 18 = .ok (.iconst 2, 1) := by decide +kernel
theorem dX9_readSetting_19 : decode cX9_readSetting 19 = .ok (.bipush 6, 2) := by decide +kernel
theorem dX9_readSetting_21 : decode cX9_readSetting 21 = .ok (.invokevirtual 69, 3) := by decide +kernel
theorem dX9_readSetting_24 : decode cX9_readSetting 24 = .ok (.istore_n 2, 1) := by decide +kernel
theorem dX9_readSetting_25 : decode cX9_readSetting 25 = .ok (.iload_n 2, 1) := by decide +kernel
theorem dX9_readSetting_26 : decode cX9_readSetting 26 = .ok (.iconst (-1), 1) := by decide +kernel
theorem dX9_readSetting_27 : decode cX9_readSetting 27 = .ok (.if_icmp .eq 129, 3) := by decide +kernel
theorem dX9_readSetting_30 : decode cX9_readSetting 30 = .ok (.aload_n 1, 1) := by decide +kernel
theorem dX9_readSetting_31 : decode cX9_readSetting 31 = .ok (.iload_n 2, 1) := by decide +kernel
theorem dX9_readSetting_32 : decode cX9_readSetting 32 = .ok (.invokevirtual 72, 3) := by decide +kernel
theorem dX9_readSetting_35 : decode cX9_readSetting 35 = .ok (.goto 121, 3) := by decide +kernel
theorem dX9_readSetting_38 : decode cX9_readSetting 38 = .ok (.aload_n 0, 1) := by decide +kernel
theorem dX9_readSetting_39 : decode cX9_readSetting 39 = .ok (.getfield 9, 3) := by decide +kernel
theorem dX9_readSetting_42 : decode cX9_readSetting 42 = .ok (.iconst 5, 1) := by decide +kernel
theorem dX9_readSetting_43 : decode cX9_readSetting 43 = .ok (.invokevirtual 52, 3) := by decide +kernel
theorem dX9_readSetting_46 : decode cX9_readSetting 46 = .ok (.ifCond .eq 26, 3) := by decide +kernel
theorem dX9_readSetting_49 : decode cX9_readSetting 49 = .ok (.aload_n 0, 1) := by decide +kernel
theorem dX9_readSetting_50 : decode cX9_readSetting 50 = .ok (.getfield 9, 3) := by decide +kernel
theorem dX9_readSetting_53 : decode cX9_readSetting 53 = .ok (.iconst 2, 1) := by decide +kernel
theorem dX9_readSetting_54 : decode cX9_readSetting 54 = .ok (.iconst 4, 1) := by decide +kernel
theorem dX9_readSetting_55 : decode cX9_readSetting 55 = .ok (.invokevirtual 69, 3) := by decide +kernel
theorem dX9_readSetting_58 : decode cX9_readSetting 58 = .ok (.istore_n 2, 1) := by decide +kernel
theorem dX9_readSetting_59 : decode cX9_readSetting 59 = .ok (.iload_n 2, 1) := by decide +kernel
theorem dX9_readSetting_60 : decode cX9_readSetting 60 = .ok (.iconst (-1), 1) := by decide +kernel
theorem dX9_readSetting_61 : decode cX9_readSetting 61 = .ok (.if_icmp .eq 95, 3) := by decide +kernel
theorem dX9_readSetting_64 : decode cX9_readSetting 64 = .ok (.aload_n 1, 1) := by decide +kernel
theorem dX9_readSetting_65 : decode cX9_readSetting 65 = .ok (.iload_n 2, 1) := by decide +kernel
theorem dX9_readSetting_66 : decode cX9_readSetting 66 = .ok (.invokevirtual 76, 3) := by decide +kernel
theorem dX9_readSetting_69 : decode cX9_readSetting 69 = .ok (.goto 87, 3) := by decide +kernel
theorem dX9_readSetting_72 : decode cX9_readSetting 72 = .ok (.aload_n 0, 1) := by decide +kernel
theorem dX9_readSetting_73 : decode cX9_readSetting 73 = .ok (.getfield 9, 3) := by decide +kernel
theorem dX9_readSetting_76 : decode cX9_readSetting 76 = .ok (.bipush 10, 2) := by decide +kernel
theorem dX9_readSetting_78 : decode cX9_readSetting 78 = .ok (.invokevirtual 52, 3) := by decide +kernel
theorem dX9_readSetting_81 : decode cX9_readSetting 81 = .ok (.ifCond .eq 34, 3) := by decide +kernel
theorem dX9_readSetting_84 : decode cX9_readSetting 84 = .ok (.aload_n 0, 1) := by decide +kernel
theorem dX9_readSetting_85 : decode cX9_readSetting 85 = .ok (.getfield 9, 3) := by decide +kernel
theorem dX9_readSetting_88 : decode cX9_readSetting 88 = .ok (.iconst 0, 1) := by decide +kernel
theorem dX9_readSetting_89 : decode cX9_readSetting 89 = .ok (.bipush 9, 2) := by decide +kernel
theorem dX9_readSetting_91 : decode cX9_readSetting 91 = .ok (.invokevirtual 69, 3) := by decide +kernel
theorem dX9_readSetting_94 : decode cX9_readSetting 94 = .ok (.istore_n 2, 1) := by decide +kernel
theorem dX9_readSetting_95 : decode cX9_readSetting 95 = .ok (.aload_n 1, 1) := by decide +kernel
theorem dX9_readSetting_96 : decode cX9_readSetting 96 = .ok (.iload_n 2, 1) := by decide +kernel
theorem dX9_readSetting_97 : decode cX9_readSetting 97 = .ok (.iconst (-1), 1) := by decide +kernel
theorem dX9_readSetting_98 : decode cX9_readSetting 98 = .ok (.if_icmp .ne 10, 3) := by decide +kernel
theorem dX9_readSetting_101 : decode cX9_readSetting 101 = .ok (.aload_n 1, 1) := by decide +kernel
theorem dX9_readSetting_102 : decode cX9_readSetting 102 = .ok (.getfield 79, 3) := by decide +kernel
theorem dX9_readSetting_105 : decode cX9_readSetting 105 = .ok (.goto 4, 3) := by decide +kernel
theorem dX9_readSetting_108 : decode cX9_readSetting 108 = .ok (.iload_n 2, 1) := by decide +kernel
theorem dX9_readSetting_109 : decode cX9_readSetting 109 = .ok (.putfield 79, 3) := by decide +kernel
theorem dX9_readSetting_112 : decode cX9_readSetting 112 = .ok (.goto 44, 3) := by decide +kernel
theorem dX9_readSetting_115 : decode cX9_readSetting 115 = .ok (.aload_n 0, 1) := by decide +kernel
theorem dX9_readSetting_116 : decode cX9_readSetting 116 = .ok (.getfield 9, 3) := by decide +kernel
theorem dX9_readSetting_119 : decode cX9_readSetting 119 = .ok (.bipush 6, 2) := by decide +kernel
theorem dX9_readSetting_121 : decode cX9_readSetting 121 = .ok (.invokevirtual 52, 3) := by decide +kernel
theorem dX9_readSetting_124 : decode cX9_readSetting 124 = .ok (.ifCond .eq 32, 3) := by decide +kernel
theorem dX9_readSetting_127 : decode cX9_readSetting 127 = .ok (.aload_n 0, 1) := by decide +kernel
theorem dX9_readSetting_128 : decode cX9_readSetting 128 = .ok (.getfield 9, 3) := by decide +kernel
theorem dX9_readSetting_131 : decode cX9_readSetting 131 = .ok (.iconst 0, 1) := by decide +kernel
theorem dX9_readSetting_132 : decode cX9_readSetting 132 = .ok (.sipush 999, 3) := by decide +kernel
theorem dX9_readSetting_135 : decode cX9_readSetting 135 = .ok (.invokevirtual 69, 3) := by decide +kernel
theorem dX9_readSetting_138 : decode cX9_readSetting 138 = .ok (.istore_n 2, 1) := by decide +kernel
theorem dX9_readSetting_139 : decode cX9_readSetting 139 = .ok (.aload_n 1, 1) := by decide +kernel
theorem dX9_readSetting_140 : decode cX9_readSetting 140 = .ok (.iload_n 2, 1) := by decide +kernel
theorem dX9_readSetting_141 : decode cX9_readSetting 141 = .ok (.iconst (-1), 1) := by decide +kernel
theorem dX9_readSetting_142 : decode cX9_readSetting 142 = .ok (.if_icmp .ne 10, 3) := by decide +kernel
theorem dX9_readSetting_145 : decode cX9_readSetting 145 = .ok (.aload_n 1, 1) := by decide +kernel
theorem dX9_readSetting_146 : decode cX9_readSetting 146 = .ok (.getfield 82, 3) := by decide +kernel
theorem dX9_readSetting_149 : decode cX9_readSetting 149 = .ok (.goto 4, 3) := by decide +kernel
theorem dX9_readSetting_152 : decode cX9_readSetting 152 = .ok (.iload_n 2, 1) := by decide +kernel
theorem dX9_readSetting_153 : decode cX9_readSetting 153 = .ok (.putfield 82, 3) := by decide +kernel
theorem dX9_readSetting_156 : decode cX9_readSetting 156 = .ok (.iload_n 2, 1) := by decide +kernel
theorem dX9_readSetting_157 : decode cX9_readSetting 157 = .ok (.iconst (-1), 1) := by decide +kernel
theorem dX9_readSetting_158 : decode cX9_readSetting 158 = .ok (.if_icmp .ne 13, 3) := by decide +kernel
theorem dX9_readSetting_161 : decode cX9_readSetting 161 = .ok (.aload_n 0, 1) := by decide +kernel
theorem dX9_readSetting_162 : decode cX9_readSetting 162 = .ok (.getfield 9, 3) := by decide +kernel
theorem dX9_readSetting_165 : decode cX9_readSetting 165 = .ok (.invokevirtual 45, 3) := by decide +kernel
theorem dX9_readSetting_168 : decode cX9_readSetting 168 = .ok (.ifCond .eq 7, 3) := by decide +kernel
theorem dX9_readSetting_171 : decode cX9_readSetting 171 = .ok (.iconst 1, 1) := by decide +kernel
theorem dX9_readSetting_172 : decode cX9_readSetting 172 = .ok (.goto 4, 3) := by decide +kernel
theorem dX9_readSetting_175 : decode cX9_readSetting 175 = .ok (.iconst 0, 1) := by decide +kernel
theorem dX9_readSetting_176 : decode cX9_readSetting 176 = .ok (.ireturn, 1) := by decide +kernel
theorem dX9_readRun_0 : decode cX9_readRun 0 = .ok (.aload_n 1, 1) := by decide +kernel
theorem dX9_readRun_1 : decode cX9_readRun 1 = .ok (.getfield 85, 3) := by decide +kernel
theorem dX9_readRun_4 : decode cX9_readRun 4 = .ok (.bipush 12, 2) := by decide +kernel
theorem dX9_readRun_6 : decode cX9_readRun 6 = .ok (.if_icmp .lt 11, 3) := by decide +kernel
theorem dX9_readRun_9 : decode cX9_readRun 9 = .ok (.aload_n 0, 1) := by decide +kernel
theorem dX9_readRun_10 : decode cX9_readRun 10 = .ok (.getfield 9, 3) := by decide +kernel
theorem dX9_readRun_13 : decode cX9_readRun 13 = .ok (.invokevirtual 45, 3) := by decide +kernel
theorem dX9_readRun_16 : decode cX9_readRun 16 = .ok (.ireturn, 1) := by decide +kernel
theorem dX9_readRun_17 : decode cX9_readRun 17 = .ok (.aload_n 0, 1) := by decide +kernel
theorem dX9_readRun_18 : decode cX9_readRun 18 = .ok (.getfield 9, 3) := by decide +kernel
theorem dX9_readRun_21 : decode cX9_readRun 21 = .ok (.bipush 13, 2) := by decide +kernel
theorem dX9_readRun_23 : decode cX9_readRun 23 = .ok (.invokevirtual 52, 3) := by decide +kernel
theorem dX9_readRun_26 : decode cX9_readRun 26 = .ok (.pop, 1) := by decide +kernel
theorem dX9_readRun_27 : decode cX9_readRun 27 = .ok (.aload_n 0, 1) := by decide +kernel
theorem dX9_readRun_28 : decode cX9_readRun 28 = .ok (.getfield 9, 3) := by decide +kernel
theorem dX9_readRun_31 : decode cX9_readRun 31 = .ok (.iconst 0, 1) := by decide +kernel
theorem dX9_readRun_32 : decode cX9_readRun 32 = .ok (.invokevirtual 42, 3) := by decide +kernel
theorem dX9_readRun_35 : decode cX9_readRun 35 = .ok (.ifCond .ne 5, 3) := by decide +kernel
theorem dX9_readRun_38 : decode cX9_readRun 38 = .ok (.iconst 0, 1) := by decide +kernel
theorem dX9_readRun_39 : decode cX9_readRun 39 = .ok (.ireturn, 1) := by decide +kernel
theorem dX9_readRun_40 : decode cX9_readRun 40 = .ok (.aload_n 0, 1) := by decide +kernel
theorem dX9_readRun_41 : decode cX9_readRun 41 = .ok (.getfield 9, 3) := by decide +kernel
theorem dX9_readRun_44 : decode cX9_readRun 44 = .ok (.aload_n 1, 1) := by decide +kernel
theorem dX9_readRun_45 : decode cX9_readRun 45 = .ok (.invokevirtual 88, 3) := by decide +kernel
theorem dX9_readRun_48 : decode cX9_readRun 48 = .ok (.iconst 3, 1) := by decide +kernel
theorem dX9_readRun_49 : decode cX9_readRun 49 = .ok (.invokevirtual 69, 3) := by decide +kernel
theorem dX9_readRun_52 : decode cX9_readRun 52 = .ok (.istore_n 2, 1) := by decide +kernel
theorem dX9_readRun_53 : decode cX9_readRun 53 = .ok (.iload_n 2, 1) := by decide +kernel
theorem dX9_readRun_54 : decode cX9_readRun 54 = .ok (.iconst (-1), 1) := by decide +kernel
theorem dX9_readRun_55 : decode cX9_readRun 55 = .ok (.if_icmp .eq 25, 3) := by decide +kernel
theorem dX9_readRun_58 : decode cX9_readRun 58 = .ok (.aload_n 0, 1) := by decide +kernel
theorem dX9_readRun_59 : decode cX9_readRun 59 = .ok (.getfield 9, 3) := by decide +kernel
theorem dX9_readRun_62 : decode cX9_readRun 62 = .ok (.bipush 14, 2) := by decide +kernel
theorem dX9_readRun_64 : decode cX9_readRun 64 = .ok (.invokevirtual 42, 3) := by decide +kernel
theorem dX9_readRun_67 : decode cX9_readRun 67 = .ok (.ifCond .eq 13, 3) := by decide +kernel
theorem dX9_readRun_70 : decode cX9_readRun 70 = .ok (.aload_n 0, 1) := by decide +kernel
theorem dX9_readRun_71 : decode cX9_readRun 71 = .ok (.bipush 20, 2) := by decide +kernel
theorem dX9_readRun_73 : decode cX9_readRun 73 = .ok (.iconst 1, 1) := by decide +kernel
theorem dX9_readRun_74 : decode cX9_readRun 74 = .ok (.invokevirtual 55, 3) := by decide +kernel
theorem dX9_readRun_77 : decode cX9_readRun 77 = .ok (.ifCond .ne 5, 3) := by decide +kernel
theorem dX9_readRun_80 : decode cX9_readRun 80 = .ok (.iconst 0, 1) := by decide +kernel
theorem dX9_readRun_81 : decode cX9_readRun 81 = .ok (.ireturn, 1) := by decide +kernel
theorem dX9_readRun_82 : decode cX9_readRun 82 = .ok (.aload_n 1, 1) := by decide +kernel
theorem dX9_readRun_83 : decode cX9_readRun 83 = .ok (.iload_n 2, 1) := by decide +kernel
theorem dX9_readRun_84 : decode cX9_readRun 84 = .ok (.aload_n 0, 1) := by decide +kernel
theorem dX9_readRun_85 : decode cX9_readRun 85 = .ok (.getfield 15, 3) := by decide +kernel
theorem dX9_readRun_88 : decode cX9_readRun 88 = .ok (.aload_n 0, 1) := by decide +kernel
theorem dX9_readRun_89 : decode cX9_readRun 89 = .ok (.getfield 19, 3) := by decide +kernel
theorem dX9_readRun_92 : decode cX9_readRun 92 = .ok (.aload_n 0, 1) := by decide +kernel
theorem dX9_readRun_93 : decode cX9_readRun 93 = .ok (.getfield 59, 3) := by decide +kernel
theorem dX9_readRun_96 : decode cX9_readRun 96 = .ok (.invokevirtual 92, 3) := by decide +kernel
theorem dX9_readRun_99 : decode cX9_readRun 99 = .ok (.iconst 1, 1) := by decide +kernel
theorem dX9_readRun_100 : decode cX9_readRun 100 = .ok (.ireturn, 1) := by decide +kernel
set_option maxHeartbeats 4000000 in
set_option maxRecDepth 100000 in
theorem ct_X9_readSetting {E : xE} {z : Nat} {T : Nat → Nat × Int} {F : Nat → Nat → Int} {I : Nat → Int → Int} {P : Nat → Nat → Option Nat} {Y : Nat → Int → Option Nat} {s N : Nat} {t : Int → Int} {e : Int} (hs : wScn T P s) (ht4 : ∀ j : Int, 0 ≤ j → j < 400 → 0 ≤ t j ∧ t j ≤ 255) (he : 0 ≤ e ∧ e ≤ 400) {i : Nat} {q : Int} (hA : cAt t e F I s N i q) {r : Nat} (hr : wSrd T P r s) (hsr : s + 4 ≤ r) (hrg : pRg I r) {a : Nat} {w : Int → Int} (hS : SR T F I P Y a w) (hI : wI2 w) (hD : cFar a s r P) (hk : zK t e q ≠ 13 ∧ zK t e q ≠ 4 ∧ zK t e q ≠ 8 ∧ zK t e q ≠ 16) : Ct E 3 mX9_readSetting 0 0 [.ref r, .ref a] (z, T, F, I, P, Y) (cSt z T F I P Y t e a s r N w (gSLn t e q w)) := by
  obtain ⟨r0, r1, ⟨ra1, ra2, ra3⟩, rb1, rb2, rb3⟩ := id hr
  have s0 := hs.1
  have hq0 := hA.q0 he.1
  obtain ⟨d1, d2, d3⟩ := id hD
  obtain ⟨g1, g2, ⟨π, g3⟩, g4, g5⟩ := id hS
  have st0 := g3.1.1.1.1
  have hw0 : F a 1 = w 0 := g3.2.1.1.1
  have o0 := g1.1.2.1
  refine Ct.of [some (.ref r), some (.ref a), none] kt_X9_readSetting rfl (Nat.le_of_ble_eq_true rfl) rfl (fun d hd => ?_)
  generalize hX : xN E _ _ _ = X
  refine xg_iconst 1 dX9_readSetting_0 rfl ?_
  refine xg_istoren 2 _ dX9_readSetting_1 rfl rfl rfl (by decide) (Or.inr rfl) ?_
  refine xg_aloadn 3 dX9_readSetting_2 rfl rfl rfl ?_
  refine xg_getP 6 kf_RX9_9 dX9_readSetting_3 rfl r0 r1 ?_
  refine xg_bipush 8 dX9_readSetting_6 rfl (by decide) ?_
  refine xg_callV 11 7 [_] _ kv_X7_takes ⟨_, _, rfl⟩ kl_RX9_52 dX9_readSetting_8 rfl (by assumption) (by omega) rfl rfl (Nat.le_of_ble_eq_true rfl) (by omega) ⟨Nat.le_refl _, Nat.le_refl _⟩ (c0_takes hs ht4 he hA (k := 15) (by omega)) rfl ?_
  refine xg_deq 38 14 dX9_readSetting_11 rfl rfl (fun hb11 => ?_) (fun hb11 => ?_)
  · rw [if_neg hb11]
    refine xg_aloadn 39 dX9_readSetting_38 rfl rfl rfl ?_
    refine xg_getP 42 kf_RX9_9 dX9_readSetting_39 rfl r0 r1 ?_
    refine xg_iconst 43 dX9_readSetting_42 rfl ?_
    refine xg_callV 46 7 [_] _ kv_X7_takes ⟨_, _, rfl⟩ kl_RX9_52 dX9_readSetting_43 rfl (by assumption) (by omega) rfl rfl (Nat.le_of_ble_eq_true rfl) (by omega) ⟨Nat.le_refl _, Nat.le_refl _⟩ (c0_takes hs ht4 he hA (k := 5) (by omega)) rfl ?_
    refine xg_deq 72 49 dX9_readSetting_46 rfl rfl (fun hb46 => ?_) (fun hb46 => ?_)
    · rw [if_neg hb46]
      refine xg_aloadn 73 dX9_readSetting_72 rfl rfl rfl ?_
      refine xg_getP 76 kf_RX9_9 dX9_readSetting_73 rfl r0 r1 ?_
      refine xg_bipush 78 dX9_readSetting_76 rfl (by decide) ?_
      refine xg_callV 81 7 [_] _ kv_X7_takes ⟨_, _, rfl⟩ kl_RX9_52 dX9_readSetting_78 rfl (by assumption) (by omega) rfl rfl (Nat.le_of_ble_eq_true rfl) (by omega) ⟨Nat.le_refl _, Nat.le_refl _⟩ (c0_takes hs ht4 he hA (k := 10) (by omega)) rfl ?_
      refine xg_deq 115 84 dX9_readSetting_81 rfl rfl (fun hb81 => ?_) (fun hb81 => ?_)
      · rw [if_neg hb81]
        refine xg_aloadn 116 dX9_readSetting_115 rfl rfl rfl ?_
        refine xg_getP 119 kf_RX9_9 dX9_readSetting_116 rfl r0 r1 ?_
        refine xg_bipush 121 dX9_readSetting_119 rfl (by decide) ?_
        refine xg_callV 124 7 [_] _ kv_X7_takes ⟨_, _, rfl⟩ kl_RX9_52 dX9_readSetting_121 rfl (by assumption) (by omega) rfl rfl (Nat.le_of_ble_eq_true rfl) (by omega) ⟨Nat.le_refl _, Nat.le_refl _⟩ (c0_takes hs ht4 he hA (k := 6) (by omega)) rfl ?_
        refine xg_deq 156 127 dX9_readSetting_124 rfl rfl (fun hb124 => ?_) (fun hb124 => ?_)
        · rw [if_neg hb124]
          skip
          refine xg_iloadn 157 dX9_readSetting_156 rfl rfl rfl ?_
          refine xg_iconst 158 dX9_readSetting_157 rfl ?_
          refine xg_icne 171 161 dX9_readSetting_158 rfl rfl (by omega) (fun hb158 => ?_) (fun hb158 => ?_)
          · exfalso; omega
          · skip
            refine xg_aloadn 162 dX9_readSetting_161 rfl rfl rfl ?_
            refine xg_getP 165 kf_RX9_9 dX9_readSetting_162 rfl r0 r1 ?_
            refine xg_callV 168 7 [] _ kv_X7_fail ⟨_, _, rfl⟩ kl_RX9_45 dX9_readSetting_165 rfl (by assumption) (by omega) rfl rfl (Nat.le_of_ble_eq_true rfl) (by omega) ⟨Nat.le_refl _, Nat.le_refl _⟩ (c0_fail hs ht4 he hA) rfl ?_
            refine xg_ifeq 175 171 dX9_readSetting_168 rfl rfl (by omega) (fun hb168 => ?_) (fun hb168 => ?_)
            · skip
              refine xg_iconst 176 dX9_readSetting_175 rfl ?_
              subst hX
              refine xg_zreturn dX9_readSetting_176 rfl (by first | exact bI_01 _ | omega) ⟨Nat.le_refl _, Nat.le_refl _⟩ ?_
              rw [show gSLn t e q w = .inl q from by unfold gSLn; rw [if_neg (by omega), if_neg (by omega), if_neg (by omega), if_neg (by omega), if_neg (by omega), if_neg (by omega), if_neg (by omega), if_neg (by omega)]]
              exact ⟨rfl, _, _, _, _, upF_at _ _ _ _, hrg, hS.cf hD (fun b b1 b2 => upF_na _ _ _ _ b1) (fun _ _ _ => rfl), dFr.of (fun b b1 b2 => upF_na _ _ _ _ b1) (fun _ _ _ => rfl), rfl⟩
            · exfalso; omega
        · rw [if_pos hb124]
          have hx1 := zX_b (t := t) (zK_lt (t := t) (e := e) (q := q) (by omega))
          have hA1 := hA.nx (by omega)
          have hS1 : SR T (upF (upF F s 4 ((i + 1 : Nat) : Int)) s 4 ((i + 1 + 1 : Nat) : Int)) I P Y a w := hS.cf hD (fun b b1 b2 => by rw [upF_na _ _ _ _ b1, upF_na _ _ _ _ b1]) (fun _ _ _ => rfl)
          have hSB : SR T (upF (upF F s 4 ((i + 1 : Nat) : Int)) s 5 (zX t e q)) I P Y a w := hS.cf hD (fun b b1 b2 => by rw [upF_na _ _ _ _ b1, upF_na _ _ _ _ b1]) (fun _ _ _ => rfl)
          have hC2 : dFr a s r F I P Y (upF (upF F s 4 ((i + 1 : Nat) : Int)) s 4 ((i + 1 + 1 : Nat) : Int)) I P Y := dFr.of (fun b b1 b2 => by rw [upF_na _ _ _ _ b1, upF_na _ _ _ _ b1]) (fun _ _ _ => rfl)
          have hCB : dFr a s r F I P Y (upF (upF F s 4 ((i + 1 : Nat) : Int)) s 5 (zX t e q)) I P Y := dFr.of (fun b b1 b2 => by rw [upF_na _ _ _ _ b1, upF_na _ _ _ _ b1]) (fun _ _ _ => rfl)
          refine xg_aloadn 128 dX9_readSetting_127 rfl rfl rfl ?_
          refine xg_getP 131 kf_RX9_9 dX9_readSetting_128 rfl r0 r1 ?_
          refine xg_iconst 132 dX9_readSetting_131 rfl ?_
          refine xg_sipush 135 dX9_readSetting_132 rfl (by decide) ?_
          by_cases h5 : zK t e (zX t e q) = 51 ∧ 0 ≤ zNm t e (zX t e q) ∧ zNm t e (zX t e q) ≤ 999
          · have hx5 := zX_b (t := t) (zK_lt (t := t) (e := e) (q := zX t e q) (by omega))
            have hA2 := hA1.nx (by omega)
            refine xg_callV 138 7 [_, _] _ kv_X7_needsNumber ⟨_, _, rfl⟩ kl_RX9_69 dX9_readSetting_135 rfl (by assumption) (by omega) rfl rfl (Nat.le_of_ble_eq_true rfl) (by omega) ⟨Nat.le_refl _, Nat.le_refl _⟩ (c0_needsNumber hs ht4 he hA1 (lo := 0) (hi9 := 999) (by omega)) rfl ?_
            rw [if_pos h5, show zNb0 t e (zX t e q) 0 999 = zNm t e (zX t e q) from if_pos h5]
            refine xg_istoren 139 _ dX9_readSetting_138 rfl rfl rfl (by decide) (Or.inr rfl) ?_
            refine xg_aloadn 140 dX9_readSetting_139 rfl rfl rfl ?_
            refine xg_iloadn 141 dX9_readSetting_140 rfl rfl rfl ?_
            refine xg_iconst 142 dX9_readSetting_141 rfl ?_
            refine xg_icne 152 145 dX9_readSetting_142 rfl rfl (by omega) (fun hb142 => ?_) (fun hb142 => ?_)
            · skip
              refine xg_iloadn 153 dX9_readSetting_152 rfl rfl rfl ?_
              refine xg_putI 156 kf_RX9_82 dX9_readSetting_153 rfl st0 ?_
              skip
              refine xg_iloadn 157 dX9_readSetting_156 rfl rfl rfl ?_
              refine xg_iconst 158 dX9_readSetting_157 rfl ?_
              refine xg_icne 171 161 dX9_readSetting_158 rfl rfl (by omega) (fun hb158 => ?_) (fun hb158 => ?_)
              · skip
                refine xg_iconst 172 dX9_readSetting_171 rfl ?_
                refine xg_goto 176 dX9_readSetting_172 rfl ?_
                subst hX
                refine xg_zreturn dX9_readSetting_176 rfl (by first | exact bI_01 _ | omega) ⟨Nat.le_refl _, Nat.le_refl _⟩ ?_
                rw [show gSLn t e q w = .inr (wS w 13 (zNm t e (zX t e q)), zX t e (zX t e q)) from by unfold gSLn; rw [if_neg (by omega), if_neg (by omega), if_neg (by omega), if_neg (by omega), if_neg (by omega), if_neg (by omega), if_neg (by omega), if_pos (by omega)]; exact if_pos h5]
                exact ⟨rfl, _, _, _, _, _, hA2.fr (upF_na _ _ _ _ (by omega)) (fun _ _ _ => rfl), hrg, by rw [upF_na _ _ _ _ (by omega), upF_na _ _ _ _ (by omega), upF_na _ _ _ _ (by omega)], hS1.sc (k := 13) (i := 13) (by omega) (by unfold wCell; omega), hC2.tr ⟨fun b b0 _ _ => upF_na _ _ _ _ (by omega), fun _ _ => ⟨rfl, rfl⟩, fun _ _ _ _ _ => rfl, fun _ _ _ => rfl⟩, rfl⟩
              · exfalso; omega
            · exfalso; omega
          · skip
            refine xg_callV 138 7 [_, _] _ kv_X7_needsNumber ⟨_, _, rfl⟩ kl_RX9_69 dX9_readSetting_135 rfl (by assumption) (by omega) rfl rfl (Nat.le_of_ble_eq_true rfl) (by omega) ⟨Nat.le_refl _, Nat.le_refl _⟩ (c0_needsNumber hs ht4 he hA1 (lo := 0) (hi9 := 999) (by omega)) rfl ?_
            rw [if_neg h5, show zNb0 t e (zX t e q) 0 999 = -1 from if_neg h5]
            refine xg_istoren 139 _ dX9_readSetting_138 rfl rfl rfl (by decide) (Or.inr rfl) ?_
            refine xg_aloadn 140 dX9_readSetting_139 rfl rfl rfl ?_
            refine xg_iloadn 141 dX9_readSetting_140 rfl rfl rfl ?_
            refine xg_iconst 142 dX9_readSetting_141 rfl ?_
            refine xg_icne 152 145 dX9_readSetting_142 rfl rfl (by omega) (fun hb142 => ?_) (fun hb142 => ?_)
            · exfalso; omega
            · skip
              refine xg_aloadn 146 dX9_readSetting_145 rfl rfl rfl ?_
              refine xg_getI 149 kf_RX9_82 dX9_readSetting_146 rfl st0 ?_
              refine xg_goto 153 dX9_readSetting_149 rfl ?_
              refine xg_putI 156 kf_RX9_82 dX9_readSetting_153 rfl st0 ?_
              rw [upF_self]
              refine xg_iloadn 157 dX9_readSetting_156 rfl rfl rfl ?_
              refine xg_iconst 158 dX9_readSetting_157 rfl ?_
              refine xg_icne 171 161 dX9_readSetting_158 rfl rfl (by omega) (fun hb158 => ?_) (fun hb158 => ?_)
              · exfalso; omega
              · skip
                refine xg_aloadn 162 dX9_readSetting_161 rfl rfl rfl ?_
                refine xg_getP 165 kf_RX9_9 dX9_readSetting_162 rfl r0 r1 ?_
                refine xg_callV 168 7 [] _ kv_X7_fail ⟨_, _, rfl⟩ kl_RX9_45 dX9_readSetting_165 rfl (by assumption) (by omega) rfl rfl (Nat.le_of_ble_eq_true rfl) (by omega) ⟨Nat.le_refl _, Nat.le_refl _⟩ (c0_fail2 hs ht4 he hA1) rfl ?_
                refine xg_ifeq 175 171 dX9_readSetting_168 rfl rfl (by omega) (fun hb168 => ?_) (fun hb168 => ?_)
                · skip
                  refine xg_iconst 176 dX9_readSetting_175 rfl ?_
                  subst hX
                  refine xg_zreturn dX9_readSetting_176 rfl (by first | exact bI_01 _ | omega) ⟨Nat.le_refl _, Nat.le_refl _⟩ ?_
                  rw [show gSLn t e q w = .inl (zX t e q) from by unfold gSLn; rw [if_neg (by omega), if_neg (by omega), if_neg (by omega), if_neg (by omega), if_neg (by omega), if_neg (by omega), if_neg (by omega), if_pos (by omega)]; exact if_neg h5]
                  exact ⟨rfl, _, _, _, _, upF_at _ _ _ _, hrg, hSB, hCB, rfl⟩
                · exfalso; omega
      · rw [if_pos hb81]
        have hx1 := zX_b (t := t) (zK_lt (t := t) (e := e) (q := q) (by omega))
        have hA1 := hA.nx (by omega)
        have hS1 : SR T (upF (upF F s 4 ((i + 1 : Nat) : Int)) s 4 ((i + 1 + 1 : Nat) : Int)) I P Y a w := hS.cf hD (fun b b1 b2 => by rw [upF_na _ _ _ _ b1, upF_na _ _ _ _ b1]) (fun _ _ _ => rfl)
        have hSB : SR T (upF (upF F s 4 ((i + 1 : Nat) : Int)) s 5 (zX t e q)) I P Y a w := hS.cf hD (fun b b1 b2 => by rw [upF_na _ _ _ _ b1, upF_na _ _ _ _ b1]) (fun _ _ _ => rfl)
        have hC2 : dFr a s r F I P Y (upF (upF F s 4 ((i + 1 : Nat) : Int)) s 4 ((i + 1 + 1 : Nat) : Int)) I P Y := dFr.of (fun b b1 b2 => by rw [upF_na _ _ _ _ b1, upF_na _ _ _ _ b1]) (fun _ _ _ => rfl)
        have hCB : dFr a s r F I P Y (upF (upF F s 4 ((i + 1 : Nat) : Int)) s 5 (zX t e q)) I P Y := dFr.of (fun b b1 b2 => by rw [upF_na _ _ _ _ b1, upF_na _ _ _ _ b1]) (fun _ _ _ => rfl)
        refine xg_aloadn 85 dX9_readSetting_84 rfl rfl rfl ?_
        refine xg_getP 88 kf_RX9_9 dX9_readSetting_85 rfl r0 r1 ?_
        refine xg_iconst 89 dX9_readSetting_88 rfl ?_
        refine xg_bipush 91 dX9_readSetting_89 rfl (by decide) ?_
        by_cases h5 : zK t e (zX t e q) = 51 ∧ 0 ≤ zNm t e (zX t e q) ∧ zNm t e (zX t e q) ≤ 9
        · have hx5 := zX_b (t := t) (zK_lt (t := t) (e := e) (q := zX t e q) (by omega))
          have hA2 := hA1.nx (by omega)
          refine xg_callV 94 7 [_, _] _ kv_X7_needsNumber ⟨_, _, rfl⟩ kl_RX9_69 dX9_readSetting_91 rfl (by assumption) (by omega) rfl rfl (Nat.le_of_ble_eq_true rfl) (by omega) ⟨Nat.le_refl _, Nat.le_refl _⟩ (c0_needsNumber hs ht4 he hA1 (lo := 0) (hi9 := 9) (by omega)) rfl ?_
          rw [if_pos h5, show zNb0 t e (zX t e q) 0 9 = zNm t e (zX t e q) from if_pos h5]
          refine xg_istoren 95 _ dX9_readSetting_94 rfl rfl rfl (by decide) (Or.inr rfl) ?_
          refine xg_aloadn 96 dX9_readSetting_95 rfl rfl rfl ?_
          refine xg_iloadn 97 dX9_readSetting_96 rfl rfl rfl ?_
          refine xg_iconst 98 dX9_readSetting_97 rfl ?_
          refine xg_icne 108 101 dX9_readSetting_98 rfl rfl (by omega) (fun hb98 => ?_) (fun hb98 => ?_)
          · skip
            refine xg_iloadn 109 dX9_readSetting_108 rfl rfl rfl ?_
            refine xg_putI 112 kf_RX9_79 dX9_readSetting_109 rfl st0 ?_
            skip
            refine xg_goto 156 dX9_readSetting_112 rfl ?_
            skip
            refine xg_iloadn 157 dX9_readSetting_156 rfl rfl rfl ?_
            refine xg_iconst 158 dX9_readSetting_157 rfl ?_
            refine xg_icne 171 161 dX9_readSetting_158 rfl rfl (by omega) (fun hb158 => ?_) (fun hb158 => ?_)
            · skip
              refine xg_iconst 172 dX9_readSetting_171 rfl ?_
              refine xg_goto 176 dX9_readSetting_172 rfl ?_
              subst hX
              refine xg_zreturn dX9_readSetting_176 rfl (by first | exact bI_01 _ | omega) ⟨Nat.le_refl _, Nat.le_refl _⟩ ?_
              rw [show gSLn t e q w = .inr (wS w 6 (zNm t e (zX t e q)), zX t e (zX t e q)) from by unfold gSLn; rw [if_neg (by omega), if_neg (by omega), if_neg (by omega), if_neg (by omega), if_pos (by omega)]; exact if_pos h5]
              exact ⟨rfl, _, _, _, _, _, hA2.fr (upF_na _ _ _ _ (by omega)) (fun _ _ _ => rfl), hrg, by rw [upF_na _ _ _ _ (by omega), upF_na _ _ _ _ (by omega), upF_na _ _ _ _ (by omega)], hS1.sc (k := 12) (i := 6) (by omega) (by unfold wCell; omega), hC2.tr ⟨fun b b0 _ _ => upF_na _ _ _ _ (by omega), fun _ _ => ⟨rfl, rfl⟩, fun _ _ _ _ _ => rfl, fun _ _ _ => rfl⟩, rfl⟩
            · exfalso; omega
          · exfalso; omega
        · skip
          refine xg_callV 94 7 [_, _] _ kv_X7_needsNumber ⟨_, _, rfl⟩ kl_RX9_69 dX9_readSetting_91 rfl (by assumption) (by omega) rfl rfl (Nat.le_of_ble_eq_true rfl) (by omega) ⟨Nat.le_refl _, Nat.le_refl _⟩ (c0_needsNumber hs ht4 he hA1 (lo := 0) (hi9 := 9) (by omega)) rfl ?_
          rw [if_neg h5, show zNb0 t e (zX t e q) 0 9 = -1 from if_neg h5]
          refine xg_istoren 95 _ dX9_readSetting_94 rfl rfl rfl (by decide) (Or.inr rfl) ?_
          refine xg_aloadn 96 dX9_readSetting_95 rfl rfl rfl ?_
          refine xg_iloadn 97 dX9_readSetting_96 rfl rfl rfl ?_
          refine xg_iconst 98 dX9_readSetting_97 rfl ?_
          refine xg_icne 108 101 dX9_readSetting_98 rfl rfl (by omega) (fun hb98 => ?_) (fun hb98 => ?_)
          · exfalso; omega
          · skip
            refine xg_aloadn 102 dX9_readSetting_101 rfl rfl rfl ?_
            refine xg_getI 105 kf_RX9_79 dX9_readSetting_102 rfl st0 ?_
            refine xg_goto 109 dX9_readSetting_105 rfl ?_
            refine xg_putI 112 kf_RX9_79 dX9_readSetting_109 rfl st0 ?_
            rw [upF_self]
            refine xg_goto 156 dX9_readSetting_112 rfl ?_
            skip
            refine xg_iloadn 157 dX9_readSetting_156 rfl rfl rfl ?_
            refine xg_iconst 158 dX9_readSetting_157 rfl ?_
            refine xg_icne 171 161 dX9_readSetting_158 rfl rfl (by omega) (fun hb158 => ?_) (fun hb158 => ?_)
            · exfalso; omega
            · skip
              refine xg_aloadn 162 dX9_readSetting_161 rfl rfl rfl ?_
              refine xg_getP 165 kf_RX9_9 dX9_readSetting_162 rfl r0 r1 ?_
              refine xg_callV 168 7 [] _ kv_X7_fail ⟨_, _, rfl⟩ kl_RX9_45 dX9_readSetting_165 rfl (by assumption) (by omega) rfl rfl (Nat.le_of_ble_eq_true rfl) (by omega) ⟨Nat.le_refl _, Nat.le_refl _⟩ (c0_fail2 hs ht4 he hA1) rfl ?_
              refine xg_ifeq 175 171 dX9_readSetting_168 rfl rfl (by omega) (fun hb168 => ?_) (fun hb168 => ?_)
              · skip
                refine xg_iconst 176 dX9_readSetting_175 rfl ?_
                subst hX
                refine xg_zreturn dX9_readSetting_176 rfl (by first | exact bI_01 _ | omega) ⟨Nat.le_refl _, Nat.le_refl _⟩ ?_
                rw [show gSLn t e q w = .inl (zX t e q) from by unfold gSLn; rw [if_neg (by omega), if_neg (by omega), if_neg (by omega), if_neg (by omega), if_pos (by omega)]; exact if_neg h5]
                exact ⟨rfl, _, _, _, _, upF_at _ _ _ _, hrg, hSB, hCB, rfl⟩
              · exfalso; omega
    · rw [if_pos hb46]
      have hx1 := zX_b (t := t) (zK_lt (t := t) (e := e) (q := q) (by omega))
      have hA1 := hA.nx (by omega)
      have hS1 : SR T (upF (upF F s 4 ((i + 1 : Nat) : Int)) s 4 ((i + 1 + 1 : Nat) : Int)) I P Y a w := hS.cf hD (fun b b1 b2 => by rw [upF_na _ _ _ _ b1, upF_na _ _ _ _ b1]) (fun _ _ _ => rfl)
      have hSB : SR T (upF (upF F s 4 ((i + 1 : Nat) : Int)) s 5 (zX t e q)) I P Y a w := hS.cf hD (fun b b1 b2 => by rw [upF_na _ _ _ _ b1, upF_na _ _ _ _ b1]) (fun _ _ _ => rfl)
      have hC2 : dFr a s r F I P Y (upF (upF F s 4 ((i + 1 : Nat) : Int)) s 4 ((i + 1 + 1 : Nat) : Int)) I P Y := dFr.of (fun b b1 b2 => by rw [upF_na _ _ _ _ b1, upF_na _ _ _ _ b1]) (fun _ _ _ => rfl)
      have hCB : dFr a s r F I P Y (upF (upF F s 4 ((i + 1 : Nat) : Int)) s 5 (zX t e q)) I P Y := dFr.of (fun b b1 b2 => by rw [upF_na _ _ _ _ b1, upF_na _ _ _ _ b1]) (fun _ _ _ => rfl)
      refine xg_aloadn 50 dX9_readSetting_49 rfl rfl rfl ?_
      refine xg_getP 53 kf_RX9_9 dX9_readSetting_50 rfl r0 r1 ?_
      refine xg_iconst 54 dX9_readSetting_53 rfl ?_
      refine xg_iconst 55 dX9_readSetting_54 rfl ?_
      by_cases h5 : zK t e (zX t e q) = 51 ∧ 2 ≤ zNm t e (zX t e q) ∧ zNm t e (zX t e q) ≤ 4
      · have hx5 := zX_b (t := t) (zK_lt (t := t) (e := e) (q := zX t e q) (by omega))
        have hA2 := hA1.nx (by omega)
        refine xg_callV 58 7 [_, _] _ kv_X7_needsNumber ⟨_, _, rfl⟩ kl_RX9_69 dX9_readSetting_55 rfl (by assumption) (by omega) rfl rfl (Nat.le_of_ble_eq_true rfl) (by omega) ⟨Nat.le_refl _, Nat.le_refl _⟩ (c0_needsNumber hs ht4 he hA1 (lo := 2) (hi9 := 4) (by omega)) rfl ?_
        rw [if_pos h5, show zNb0 t e (zX t e q) 2 4 = zNm t e (zX t e q) from if_pos h5]
        refine xg_istoren 59 _ dX9_readSetting_58 rfl rfl rfl (by decide) (Or.inr rfl) ?_
        refine xg_iloadn 60 dX9_readSetting_59 rfl rfl rfl ?_
        refine xg_iconst 61 dX9_readSetting_60 rfl ?_
        refine xg_iceq 156 64 dX9_readSetting_61 rfl rfl (by omega) (fun hb61 => ?_) (fun hb61 => ?_)
        · exfalso; omega
        · skip
          refine xg_aloadn 65 dX9_readSetting_64 rfl rfl rfl ?_
          refine xg_iloadn 66 dX9_readSetting_65 rfl rfl rfl ?_
          refine xg_callVq 69 8 [_] _ kv_X8_tellFan ⟨_, _, rfl⟩ kl_RX9_76 dX9_readSetting_66 rfl (by assumption) (by omega) rfl rfl (Nat.le_of_ble_eq_true rfl) (by omega) ⟨Nat.le_refl _, Nat.le_refl _⟩ (ct_X8_tellFan hS1 hI.1 (v := zNm t e (zX t e q)) (by omega)) rfl (fun Fk2 Ik2 Pk2 Yk2 hSk2 hFk2 => ?_)
          refine xg_goto 156 dX9_readSetting_69 rfl ?_
          skip
          refine xg_iloadn 157 dX9_readSetting_156 rfl rfl rfl ?_
          refine xg_iconst 158 dX9_readSetting_157 rfl ?_
          refine xg_icne 171 161 dX9_readSetting_158 rfl rfl (by omega) (fun hb158 => ?_) (fun hb158 => ?_)
          · skip
            refine xg_iconst 172 dX9_readSetting_171 rfl ?_
            refine xg_goto 176 dX9_readSetting_172 rfl ?_
            subst hX
            refine xg_zreturn dX9_readSetting_176 rfl (by first | exact bI_01 _ | omega) ⟨Nat.le_refl _, Nat.le_refl _⟩ ?_
            rw [show gSLn t e q w = .inr (wS (sHalt w) 4 (zNm t e (zX t e q)), zX t e (zX t e q)) from by unfold gSLn; rw [if_neg (by omega), if_neg (by omega), if_neg (by omega), if_pos (by omega)]; exact if_pos h5]
            exact ⟨rfl, _, _, _, _, _, hA2.sf hFk2 hD, hrg.fr (hFk2.r1 hD) (hFk2.r2 hD), by rw [hFk2.r0 hD, upF_na _ _ _ _ (by omega), upF_na _ _ _ _ (by omega)], hSk2, hC2.tr hFk2.c, rfl⟩
          · exfalso; omega
      · skip
        refine xg_callV 58 7 [_, _] _ kv_X7_needsNumber ⟨_, _, rfl⟩ kl_RX9_69 dX9_readSetting_55 rfl (by assumption) (by omega) rfl rfl (Nat.le_of_ble_eq_true rfl) (by omega) ⟨Nat.le_refl _, Nat.le_refl _⟩ (c0_needsNumber hs ht4 he hA1 (lo := 2) (hi9 := 4) (by omega)) rfl ?_
        rw [if_neg h5, show zNb0 t e (zX t e q) 2 4 = -1 from if_neg h5]
        refine xg_istoren 59 _ dX9_readSetting_58 rfl rfl rfl (by decide) (Or.inr rfl) ?_
        refine xg_iloadn 60 dX9_readSetting_59 rfl rfl rfl ?_
        refine xg_iconst 61 dX9_readSetting_60 rfl ?_
        refine xg_iceq 156 64 dX9_readSetting_61 rfl rfl (by omega) (fun hb61 => ?_) (fun hb61 => ?_)
        · skip
          skip
          refine xg_iloadn 157 dX9_readSetting_156 rfl rfl rfl ?_
          refine xg_iconst 158 dX9_readSetting_157 rfl ?_
          refine xg_icne 171 161 dX9_readSetting_158 rfl rfl (by omega) (fun hb158 => ?_) (fun hb158 => ?_)
          · exfalso; omega
          · skip
            refine xg_aloadn 162 dX9_readSetting_161 rfl rfl rfl ?_
            refine xg_getP 165 kf_RX9_9 dX9_readSetting_162 rfl r0 r1 ?_
            refine xg_callV 168 7 [] _ kv_X7_fail ⟨_, _, rfl⟩ kl_RX9_45 dX9_readSetting_165 rfl (by assumption) (by omega) rfl rfl (Nat.le_of_ble_eq_true rfl) (by omega) ⟨Nat.le_refl _, Nat.le_refl _⟩ (c0_fail2 hs ht4 he hA1) rfl ?_
            refine xg_ifeq 175 171 dX9_readSetting_168 rfl rfl (by omega) (fun hb168 => ?_) (fun hb168 => ?_)
            · skip
              refine xg_iconst 176 dX9_readSetting_175 rfl ?_
              subst hX
              refine xg_zreturn dX9_readSetting_176 rfl (by first | exact bI_01 _ | omega) ⟨Nat.le_refl _, Nat.le_refl _⟩ ?_
              rw [show gSLn t e q w = .inl (zX t e q) from by unfold gSLn; rw [if_neg (by omega), if_neg (by omega), if_neg (by omega), if_pos (by omega)]; exact if_neg h5]
              exact ⟨rfl, _, _, _, _, upF_at _ _ _ _, hrg, hSB, hCB, rfl⟩
            · exfalso; omega
        · exfalso; omega
  · rw [if_pos hb11]
    have hx1 := zX_b (t := t) (zK_lt (t := t) (e := e) (q := q) (by omega))
    have hA1 := hA.nx (by omega)
    have hS1 : SR T (upF (upF F s 4 ((i + 1 : Nat) : Int)) s 4 ((i + 1 + 1 : Nat) : Int)) I P Y a w := hS.cf hD (fun b b1 b2 => by rw [upF_na _ _ _ _ b1, upF_na _ _ _ _ b1]) (fun _ _ _ => rfl)
    have hSB : SR T (upF (upF F s 4 ((i + 1 : Nat) : Int)) s 5 (zX t e q)) I P Y a w := hS.cf hD (fun b b1 b2 => by rw [upF_na _ _ _ _ b1, upF_na _ _ _ _ b1]) (fun _ _ _ => rfl)
    have hC2 : dFr a s r F I P Y (upF (upF F s 4 ((i + 1 : Nat) : Int)) s 4 ((i + 1 + 1 : Nat) : Int)) I P Y := dFr.of (fun b b1 b2 => by rw [upF_na _ _ _ _ b1, upF_na _ _ _ _ b1]) (fun _ _ _ => rfl)
    have hCB : dFr a s r F I P Y (upF (upF F s 4 ((i + 1 : Nat) : Int)) s 5 (zX t e q)) I P Y := dFr.of (fun b b1 b2 => by rw [upF_na _ _ _ _ b1, upF_na _ _ _ _ b1]) (fun _ _ _ => rfl)
    refine xg_aloadn 15 dX9_readSetting_14 rfl rfl rfl ?_
    refine xg_getP 18 kf_RX9_9 dX9_readSetting_15 rfl r0 r1 ?_
    refine xg_iconst 19 dX9_readSetting_18 rfl ?_
    refine xg_bipush 21 dX9_readSetting_19 rfl (by decide) ?_
    by_cases h5 : zK t e (zX t e q) = 51 ∧ 2 ≤ zNm t e (zX t e q) ∧ zNm t e (zX t e q) ≤ 6
    · have hx5 := zX_b (t := t) (zK_lt (t := t) (e := e) (q := zX t e q) (by omega))
      have hA2 := hA1.nx (by omega)
      refine xg_callV 24 7 [_, _] _ kv_X7_needsNumber ⟨_, _, rfl⟩ kl_RX9_69 dX9_readSetting_21 rfl (by assumption) (by omega) rfl rfl (Nat.le_of_ble_eq_true rfl) (by omega) ⟨Nat.le_refl _, Nat.le_refl _⟩ (c0_needsNumber hs ht4 he hA1 (lo := 2) (hi9 := 6) (by omega)) rfl ?_
      rw [if_pos h5, show zNb0 t e (zX t e q) 2 6 = zNm t e (zX t e q) from if_pos h5]
      refine xg_istoren 25 _ dX9_readSetting_24 rfl rfl rfl (by decide) (Or.inr rfl) ?_
      refine xg_iloadn 26 dX9_readSetting_25 rfl rfl rfl ?_
      refine xg_iconst 27 dX9_readSetting_26 rfl ?_
      refine xg_iceq 156 30 dX9_readSetting_27 rfl rfl (by omega) (fun hb27 => ?_) (fun hb27 => ?_)
      · exfalso; omega
      · skip
        refine xg_aloadn 31 dX9_readSetting_30 rfl rfl rfl ?_
        refine xg_iloadn 32 dX9_readSetting_31 rfl rfl rfl ?_
        refine xg_callVq 35 8 [_] _ kv_X8_tellSize ⟨_, _, rfl⟩ kl_RX9_72 dX9_readSetting_32 rfl (by assumption) (by omega) rfl rfl (Nat.le_of_ble_eq_true rfl) (by omega) ⟨Nat.le_refl _, Nat.le_refl _⟩ (ct_X8_tellSize hS1 hI.1 (v := zNm t e (zX t e q)) (by omega)) rfl (fun Fk1 Ik1 Pk1 Yk1 hSk1 hFk1 => ?_)
        refine xg_goto 156 dX9_readSetting_35 rfl ?_
        skip
        refine xg_iloadn 157 dX9_readSetting_156 rfl rfl rfl ?_
        refine xg_iconst 158 dX9_readSetting_157 rfl ?_
        refine xg_icne 171 161 dX9_readSetting_158 rfl rfl (by omega) (fun hb158 => ?_) (fun hb158 => ?_)
        · skip
          refine xg_iconst 172 dX9_readSetting_171 rfl ?_
          refine xg_goto 176 dX9_readSetting_172 rfl ?_
          subst hX
          refine xg_zreturn dX9_readSetting_176 rfl (by first | exact bI_01 _ | omega) ⟨Nat.le_refl _, Nat.le_refl _⟩ ?_
          rw [show gSLn t e q w = .inr (wS (sHalt w) 5 (zNm t e (zX t e q)), zX t e (zX t e q)) from by unfold gSLn; rw [if_neg (by omega), if_neg (by omega), if_pos (by omega)]; exact if_pos h5]
          exact ⟨rfl, _, _, _, _, _, hA2.sf hFk1 hD, hrg.fr (hFk1.r1 hD) (hFk1.r2 hD), by rw [hFk1.r0 hD, upF_na _ _ _ _ (by omega), upF_na _ _ _ _ (by omega)], hSk1, hC2.tr hFk1.c, rfl⟩
        · exfalso; omega
    · skip
      refine xg_callV 24 7 [_, _] _ kv_X7_needsNumber ⟨_, _, rfl⟩ kl_RX9_69 dX9_readSetting_21 rfl (by assumption) (by omega) rfl rfl (Nat.le_of_ble_eq_true rfl) (by omega) ⟨Nat.le_refl _, Nat.le_refl _⟩ (c0_needsNumber hs ht4 he hA1 (lo := 2) (hi9 := 6) (by omega)) rfl ?_
      rw [if_neg h5, show zNb0 t e (zX t e q) 2 6 = -1 from if_neg h5]
      refine xg_istoren 25 _ dX9_readSetting_24 rfl rfl rfl (by decide) (Or.inr rfl) ?_
      refine xg_iloadn 26 dX9_readSetting_25 rfl rfl rfl ?_
      refine xg_iconst 27 dX9_readSetting_26 rfl ?_
      refine xg_iceq 156 30 dX9_readSetting_27 rfl rfl (by omega) (fun hb27 => ?_) (fun hb27 => ?_)
      · skip
        skip
        refine xg_iloadn 157 dX9_readSetting_156 rfl rfl rfl ?_
        refine xg_iconst 158 dX9_readSetting_157 rfl ?_
        refine xg_icne 171 161 dX9_readSetting_158 rfl rfl (by omega) (fun hb158 => ?_) (fun hb158 => ?_)
        · exfalso; omega
        · skip
          refine xg_aloadn 162 dX9_readSetting_161 rfl rfl rfl ?_
          refine xg_getP 165 kf_RX9_9 dX9_readSetting_162 rfl r0 r1 ?_
          refine xg_callV 168 7 [] _ kv_X7_fail ⟨_, _, rfl⟩ kl_RX9_45 dX9_readSetting_165 rfl (by assumption) (by omega) rfl rfl (Nat.le_of_ble_eq_true rfl) (by omega) ⟨Nat.le_refl _, Nat.le_refl _⟩ (c0_fail2 hs ht4 he hA1) rfl ?_
          refine xg_ifeq 175 171 dX9_readSetting_168 rfl rfl (by omega) (fun hb168 => ?_) (fun hb168 => ?_)
          · skip
            refine xg_iconst 176 dX9_readSetting_175 rfl ?_
            subst hX
            refine xg_zreturn dX9_readSetting_176 rfl (by first | exact bI_01 _ | omega) ⟨Nat.le_refl _, Nat.le_refl _⟩ ?_
            rw [show gSLn t e q w = .inl (zX t e q) from by unfold gSLn; rw [if_neg (by omega), if_neg (by omega), if_pos (by omega)]; exact if_neg h5]
            exact ⟨rfl, _, _, _, _, upF_at _ _ _ _, hrg, hSB, hCB, rfl⟩
          · exfalso; omega
      · exfalso; omega

