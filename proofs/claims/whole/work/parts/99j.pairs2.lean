section PR2
variable {w : Int → Int}
theorem nDel_b8 : ∀ s : Fin 256, ∀ r q : Fin 8, s.val.testBit q.val = false → (nDel s.val r.val).testBit q.val = false := by decide +kernel
theorem nDel_z {s r q : Nat} (hs : s < 256) (hr : r < 8) (hq : q < 8) (h : s.testBit q = false) : (nDel s r).testBit q = false := nDel_b8 ⟨s, hs⟩ ⟨r, hr⟩ ⟨q, hq⟩ h
theorem nDel_0 {s r : Nat} (hs : s < 256) (hr : r < 8) : (nDel s r).testBit r = false := by
  by_cases h : s.testBit r = true
  · exact (nDel_l0 ⟨s, hs⟩ ⟨r, hr⟩ h).2
  · have h2 : s.testBit r = false := by cases e : s.testBit r <;> simp_all
    exact nDel_z hs hr hr h2
/-- what is left behind the first and its partner -/
def sNx (w : Int → Int) (s : Nat) : Nat := (if sPp w s = 0 then nDel s (nF s) else nDel (nDel s (nF s)) (sPp w s - 1))
theorem sNx_p {s f : Nat} (hs : 0 < s ∧ s < 2 ^ nP w) (hf : f = nF s) : sNx w s < s ∧ (∀ r, r < f + 1 → (∀ q, q < f → s.testBit q = false) → (sNx w s).testBit r = false) ∧ ∀ r, r < 8 → r ≠ f → sPp w s ≠ r + 1 → (sNx w s).testBit r = s.testBit r := by
  subst hf
  obtain ⟨hn, hn2, -⟩ := nP_8 w
  have hs8 : 0 < s ∧ s < 256 := by omega
  obtain ⟨f1, f2, f3, f4⟩ := nF_e hs8
  have h1 := sPp_lt hs
  have h2 := nDel_le (nDel s (nF s)) (sPp w s - 1)
  unfold sNx
  split
  · rename_i e
    refine ⟨f4, fun r hr hq => ?_, fun r hr hrf _ => nDel_b hs8.2 f2 hr (fun e => hrf e.symm)⟩
    by_cases e : r = nF s
    · subst e; exact nDel_0 hs8.2 f2
    · exact nDel_z hs8.2 f2 (by omega) (hq r (by omega))
  · rename_i e
    refine ⟨by omega, fun r hr hq => nDel_z (by omega) (by omega) (by omega) ?_, fun r hr hrf hrp => ?_⟩
    · by_cases e : r = nF s
      · subst e; exact nDel_0 hs8.2 f2
      · exact nDel_z hs8.2 f2 (by omega) (hq r (by omega))
    · rw [nDel_b (by omega) (by omega) hr (by omega)]
      exact nDel_b hs8.2 f2 hr (fun e => hrf e.symm)
end PR2
set_option maxHeartbeats 4000000 in
set_option maxRecDepth 100000 in
theorem ct_X0_partnerIn {E : xE} {z : Nat} {T : Nat → Nat × Int} {F : Nat → Nat → Int} {I : Nat → Int → Int} {P : Nat → Nat → Option Nat} {Y : Nat → Int → Option Nat} {c : Nat} {w : Int → Int} (hC : wCho T P Y c) (hsh : pSh w I c (nP w) 0 (nP w)) (hp : pPr w (I (c + 37)) (nP w) (2 ^ nP w)) {r : Nat} (hr : r < nP w) : Ct E 1 mX0_partnerIn 0 0 [.ref c, J ((2 ^ nP w - 1 : Nat) : Int), J ((nP w : Nat) : Int), J (r : Int)] (z, T, F, I, P, Y) (xd (some (J (sPar w r (2 ^ nP w) (2 ^ nP w - 1)))) (z, T, F, I, P, Y)) := by
  obtain ⟨hn, hn2, hn3⟩ := nP_8 w
  have k0 := hC.1
  refine Ct.of [some (.ref c), some (J ((2 ^ nP w - 1 : Nat) : Int)), some (J ((nP w : Nat) : Int)), some (J (r : Int)), none, none, none] kt_X0_partnerIn rfl (Nat.le_of_ble_eq_true rfl) rfl (fun d hd => ?_)
  generalize hX : xN E _ _ _ = X
  refine xg_iloadn 1 dX0_partnerIn_0 rfl rfl rfl ?_
  refine xg_istore 3 _ dX0_partnerIn_1 rfl rfl (by decide) (Or.inr rfl) ?_
  refine xg_iconst 4 dX0_partnerIn_3 rfl ?_
  refine xg_istore 6 _ dX0_partnerIn_4 rfl rfl (by decide) (Or.inr rfl) ?_
  have loop6 : ∀ (mm : Nat) (f s : Nat) (k : Nat), (f ≤ nP w ∧ s < 2 ^ nP w) → (∀ q : Nat, q < f → s.testBit q = false) → s < k → s.testBit r = true → sPar w r (2 ^ nP w) (2 ^ nP w - 1) = sPar w r k s → 20 - (f : Int) < (mm : Int) → xG E mX0_partnerIn (xR d 0 0) X 6 [some (.ref c), some (J ((2 ^ nP w - 1 : Nat) : Int)), some (J ((nP w : Nat) : Int)), some (J (r : Int)), some (J (s : Int)), some (J (f : Int)), none] [] (z, T, F, I, P, Y) 0 0 := by
    intro mm
    induction mm with
    | zero => intro f s k hfs hlo hk hrb hres hm; exfalso; omega
    | succ mm ih =>
      intro f s k hfs hlo hk hrb hres hm
      refine xg_iload 8 dX0_partnerIn_6 rfl rfl ?_
      refine xg_iloadn 9 dX0_partnerIn_8 rfl rfl rfl ?_
      refine xg_icge 93 12 dX0_partnerIn_9 rfl rfl (by omega) (fun hb9 => ?_) (fun hb9 => ?_)
      · skip
        refine xg_iconst 94 dX0_partnerIn_93 rfl ?_
        subst hX
        refine xg_ireturn dX0_partnerIn_94 rfl ⟨Nat.le_refl _, Nat.le_refl _⟩ ?_
        exfalso
        have h9 := nZ hn hfs.2 (fun q hq => hlo q (by omega))
        subst h9
        rw [Nat.zero_testBit] at hrb; cases hrb
      · skip
        refine xg_iload 14 dX0_partnerIn_12 rfl rfl ?_
        refine xg_iload 16 dX0_partnerIn_14 rfl rfl ?_
        refine xg_ishr 17 dX0_partnerIn_16 rfl ?_
        refine xg_iconst 18 dX0_partnerIn_17 rfl ?_
        refine xg_iand 19 dX0_partnerIn_18 rfl ?_
        rw [xbit (by omega) (by omega)]
        refine xg_beq 87 22 dX0_partnerIn_19 rfl rfl (fun hb19 => ?_) (fun hb19 => ?_)
        · skip
          refine xg_iinc 90 _ dX0_partnerIn_87 rfl rfl rfl rfl (by decide) (Or.inr rfl) ?_
          refine xg_goto 6 dX0_partnerIn_90 rfl ?_
          have hlo9 : ∀ q : Nat, q < f + 1 → s.testBit q = false := fun q hq => by
            by_cases e : q = f
            · subst e; exact hb19
            · exact hlo q (by omega)
          exact xg_weak _ (xle_s rfl (xle_s rfl (xle_s rfl (xle_s rfl (xle_s rfl (xle_s rfl (xle_n xle_0))))))) (ih (f + 1) s k (by omega) hlo9 hk hrb hres (by omega))
        · skip
          have hfn := nF_f (by omega) (by omega) hlo hb19
          have hs0 := tb_pos hb19
          have hpl := sPp_lt ⟨hs0, hfs.2⟩
          have hnx := sNx_p (w := w) ⟨hs0, hfs.2⟩ hfn.symm
          subst hfn
          refine xg_aloadn 23 dX0_partnerIn_22 rfl rfl rfl ?_
          refine xg_iload 25 dX0_partnerIn_23 rfl rfl ?_
          refine xg_iload 27 dX0_partnerIn_25 rfl rfl ?_
          refine xg_iloadn 28 dX0_partnerIn_27 rfl rfl rfl ?_
          refine xg_callV 31 0 [_, _, _] _ kv_X0_firstPartner ⟨_, _, rfl⟩ kl_RX0_76 dX0_partnerIn_28 rfl (by assumption) (by omega) rfl rfl (Nat.le_of_ble_eq_true rfl) (by omega) ⟨Nat.le_refl _, Nat.le_refl _⟩ (ct_X0_firstPartner hC ⟨hs0, hfs.2⟩ hsh hp) rfl ?_
          refine xg_istore 33 _ dX0_partnerIn_31 rfl rfl (by decide) (Or.inr rfl) ?_
          refine xg_iload 35 dX0_partnerIn_33 rfl rfl ?_
          refine xg_iloadn 36 dX0_partnerIn_35 rfl rfl rfl ?_
          refine xg_iceq 45 39 dX0_partnerIn_36 rfl rfl (by omega) (fun hb36 => ?_) (fun hb36 => ?_)
          · skip
            refine xg_iload 47 dX0_partnerIn_45 rfl rfl ?_
            refine xg_iloadn 48 dX0_partnerIn_47 rfl rfl rfl ?_
            refine xg_icne 56 51 dX0_partnerIn_48 rfl rfl (by omega) (fun hb48 => ?_) (fun hb48 => ?_)
            · skip
              refine xg_iload 58 dX0_partnerIn_56 rfl rfl ?_
              subst hX
              refine xg_ireturn dX0_partnerIn_58 rfl ⟨Nat.le_refl _, Nat.le_refl _⟩ ?_
              exfalso; omega
            · skip
              refine xg_iload 53 dX0_partnerIn_51 rfl rfl ?_
              refine xg_goto 58 dX0_partnerIn_53 rfl ?_
              subst hX
              refine xg_ireturn dX0_partnerIn_58 rfl ⟨Nat.le_refl _, Nat.le_refl _⟩ ?_
              refine ⟨?_, rfl⟩
              obtain ⟨k, rfl⟩ : ∃ k2, k = k2 + 1 := ⟨k - 1, by omega⟩
              rw [hres, sPar, if_pos (by omega)]
          · skip
            refine xg_iload 41 dX0_partnerIn_39 rfl rfl ?_
            refine xg_iloadn 42 dX0_partnerIn_41 rfl rfl rfl ?_
            refine xg_icne 59 45 dX0_partnerIn_42 rfl rfl (by omega) (fun hb42 => ?_) (fun hb42 => ?_)
            · skip
              refine xg_iload 61 dX0_partnerIn_59 rfl rfl ?_
              refine xg_iconst 62 dX0_partnerIn_61 rfl ?_
              refine xg_iload 64 dX0_partnerIn_62 rfl rfl ?_
              refine xg_ishl 65 dX0_partnerIn_64 rfl ?_
              refine xg_iconst 66 dX0_partnerIn_65 rfl ?_
              refine xg_ixor 67 dX0_partnerIn_66 rfl ?_
              refine xg_iand 68 dX0_partnerIn_67 rfl ?_
              rw [nDel_e (by omega) (by omega)]
              refine xg_istore 70 _ dX0_partnerIn_68 rfl rfl (by decide) (Or.inr rfl) ?_
              refine xg_iload 72 dX0_partnerIn_70 rfl rfl ?_
              refine xg_iconst 73 dX0_partnerIn_72 rfl ?_
              refine xg_iceq 87 76 dX0_partnerIn_73 rfl rfl (by omega) (fun hb73 => ?_) (fun hb73 => ?_)
              · skip
                refine xg_iinc 90 _ dX0_partnerIn_87 rfl rfl rfl rfl (by decide) (Or.inr rfl) ?_
                refine xg_goto 6 dX0_partnerIn_90 rfl ?_
                obtain ⟨k, rfl⟩ : ∃ k2, k = k2 + 1 := ⟨k - 1, by omega⟩
                have hs9 := hfs.2
                exact xg_weak _ (xle_s rfl (xle_s rfl (xle_s rfl (xle_s rfl (xle_s (by rw [show nDel s (nF s) = sNx w s from by unfold sNx; rw [if_pos (by omega)]]) (xle_s (by rw [show ((nF s + 1 : Nat) : Int) = ((nF s : Nat) : Int) + 1 by omega]) (xle_n xle_0))))))) (ih (nF s + 1) (sNx w s) k (by omega) (fun q hq => hnx.2.1 q hq hlo) (by omega) (by rw [hnx.2.2 r (by omega) (by omega) (by omega)]; exact hrb) (by rw [hres, sPar, if_neg (by omega), if_neg (by omega)]; rfl) (by omega))
              · skip
                refine xg_iload 78 dX0_partnerIn_76 rfl rfl ?_
                refine xg_iconst 79 dX0_partnerIn_78 rfl ?_
                refine xg_iload 81 dX0_partnerIn_79 rfl rfl ?_
                refine xg_ishl 82 dX0_partnerIn_81 rfl ?_
                refine xg_iconst 83 dX0_partnerIn_82 rfl ?_
                refine xg_ixor 84 dX0_partnerIn_83 rfl ?_
                refine xg_iand 85 dX0_partnerIn_84 rfl ?_
                rw [show (sPp w s : Int) - 1 = ((sPp w s - 1 : Nat) : Int) by omega, nDel_e (by have := nDel_le s (nF s); omega) (by omega)]
                refine xg_istore 87 _ dX0_partnerIn_85 rfl rfl (by decide) (Or.inr rfl) ?_
                refine xg_iinc 90 _ dX0_partnerIn_87 rfl rfl rfl rfl (by decide) (Or.inr rfl) ?_
                refine xg_goto 6 dX0_partnerIn_90 rfl ?_
                obtain ⟨k, rfl⟩ : ∃ k2, k = k2 + 1 := ⟨k - 1, by omega⟩
                have hs9 := hfs.2
                exact xg_weak _ (xle_s rfl (xle_s rfl (xle_s rfl (xle_s rfl (xle_s (by rw [show nDel (nDel s (nF s)) (sPp w s - 1) = sNx w s from by unfold sNx; rw [if_neg (by omega)]]) (xle_s (by rw [show ((nF s + 1 : Nat) : Int) = ((nF s : Nat) : Int) + 1 by omega]) (xle_n xle_0))))))) (ih (nF s + 1) (sNx w s) k (by omega) (fun q hq => hnx.2.1 q hq hlo) (by omega) (by rw [hnx.2.2 r (by omega) (by omega) (by omega)]; exact hrb) (by rw [hres, sPar, if_neg (by omega), if_neg (by omega)]; rfl) (by omega))
            · skip
              refine xg_iload 47 dX0_partnerIn_45 rfl rfl ?_
              refine xg_iloadn 48 dX0_partnerIn_47 rfl rfl rfl ?_
              refine xg_icne 56 51 dX0_partnerIn_48 rfl rfl (by omega) (fun hb48 => ?_) (fun hb48 => ?_)
              · skip
                refine xg_iload 58 dX0_partnerIn_56 rfl rfl ?_
                subst hX
                refine xg_ireturn dX0_partnerIn_58 rfl ⟨Nat.le_refl _, Nat.le_refl _⟩ ?_
                refine ⟨?_, rfl⟩
                obtain ⟨k, rfl⟩ : ∃ k2, k = k2 + 1 := ⟨k - 1, by omega⟩
                rw [hres, sPar, if_neg (by omega), if_pos (by omega)]
              · skip
                refine xg_iload 53 dX0_partnerIn_51 rfl rfl ?_
                refine xg_goto 58 dX0_partnerIn_53 rfl ?_
                subst hX
                refine xg_ireturn dX0_partnerIn_58 rfl ⟨Nat.le_refl _, Nat.le_refl _⟩ ?_
                exfalso; omega
  exact xg_weak _ (xle_s rfl (xle_s rfl (xle_s rfl (xle_s rfl (xle_s rfl (xle_s rfl (xle_n xle_0))))))) (loop6 30 0 (2 ^ nP w - 1) (2 ^ nP w) (by omega) (fun q hq => by omega) (by omega) (n2_tb hr) rfl (by omega))

set_option maxHeartbeats 4000000 in
set_option maxRecDepth 100000 in
theorem ct_X0_partnerIn_far {E : xE} {z : Nat} {T : Nat → Nat × Int} {F : Nat → Nat → Int} {I : Nat → Int → Int} {P : Nat → Nat → Option Nat} {Y : Nat → Int → Option Nat} {c : Nat} {w : Int → Int} (hC : wCho T P Y c) (hsh : pSh w I c (nP w) 0 (nP w)) (hp : pPr w (I (c + 37)) (nP w) (2 ^ nP w)) {v : Int} (hv : 8 ≤ v ∧ v ≤ 100) : Ct E 1 mX0_partnerIn 0 0 [.ref c, J ((2 ^ nP w - 1 : Nat) : Int), J ((nP w : Nat) : Int), J v] (z, T, F, I, P, Y) (xd (some (J (-1))) (z, T, F, I, P, Y)) := by
  obtain ⟨hn, hn2, hn3⟩ := nP_8 w
  have k0 := hC.1
  refine Ct.of [some (.ref c), some (J ((2 ^ nP w - 1 : Nat) : Int)), some (J ((nP w : Nat) : Int)), some (J v), none, none, none] kt_X0_partnerIn rfl (Nat.le_of_ble_eq_true rfl) rfl (fun d hd => ?_)
  generalize hX : xN E _ _ _ = X
  refine xg_iloadn 1 dX0_partnerIn_0 rfl rfl rfl ?_
  refine xg_istore 3 _ dX0_partnerIn_1 rfl rfl (by decide) (Or.inr rfl) ?_
  refine xg_iconst 4 dX0_partnerIn_3 rfl ?_
  refine xg_istore 6 _ dX0_partnerIn_4 rfl rfl (by decide) (Or.inr rfl) ?_
  have loop6 : ∀ (mm : Nat) (f s : Nat), (f ≤ nP w ∧ s < 2 ^ nP w) → (∀ q : Nat, q < f → s.testBit q = false) → 20 - (f : Int) < (mm : Int) → xG E mX0_partnerIn (xR d 0 0) X 6 [some (.ref c), some (J ((2 ^ nP w - 1 : Nat) : Int)), some (J ((nP w : Nat) : Int)), some (J v), some (J (s : Int)), some (J (f : Int)), none] [] (z, T, F, I, P, Y) 0 0 := by
    intro mm
    induction mm with
    | zero => intro f s hfs hlo hm; exfalso; omega
    | succ mm ih =>
      intro f s hfs hlo hm
      refine xg_iload 8 dX0_partnerIn_6 rfl rfl ?_
      refine xg_iloadn 9 dX0_partnerIn_8 rfl rfl rfl ?_
      refine xg_icge 93 12 dX0_partnerIn_9 rfl rfl (by omega) (fun hb9 => ?_) (fun hb9 => ?_)
      · skip
        refine xg_iconst 94 dX0_partnerIn_93 rfl ?_
        subst hX
        exact xg_ireturn dX0_partnerIn_94 rfl ⟨Nat.le_refl _, Nat.le_refl _⟩ ⟨rfl, rfl⟩
      · skip
        refine xg_iload 14 dX0_partnerIn_12 rfl rfl ?_
        refine xg_iload 16 dX0_partnerIn_14 rfl rfl ?_
        refine xg_ishr 17 dX0_partnerIn_16 rfl ?_
        refine xg_iconst 18 dX0_partnerIn_17 rfl ?_
        refine xg_iand 19 dX0_partnerIn_18 rfl ?_
        rw [xbit (by omega) (by omega)]
        refine xg_beq 87 22 dX0_partnerIn_19 rfl rfl (fun hb19 => ?_) (fun hb19 => ?_)
        · skip
          refine xg_iinc 90 _ dX0_partnerIn_87 rfl rfl rfl rfl (by decide) (Or.inr rfl) ?_
          refine xg_goto 6 dX0_partnerIn_90 rfl ?_
          have hlo9 : ∀ q : Nat, q < f + 1 → s.testBit q = false := fun q hq => by
            by_cases e : q = f
            · subst e; exact hb19
            · exact hlo q (by omega)
          exact xg_weak _ (xle_s rfl (xle_s rfl (xle_s rfl (xle_s rfl (xle_s rfl (xle_s rfl (xle_n xle_0))))))) (ih (f + 1) s (by omega) hlo9 (by omega))
        · skip
          have hfn := nF_f (by omega) (by omega) hlo hb19
          have hs0 := tb_pos hb19
          have hpl := sPp_lt ⟨hs0, hfs.2⟩
          have hnx := sNx_p (w := w) ⟨hs0, hfs.2⟩ hfn.symm
          subst hfn
          refine xg_aloadn 23 dX0_partnerIn_22 rfl rfl rfl ?_
          refine xg_iload 25 dX0_partnerIn_23 rfl rfl ?_
          refine xg_iload 27 dX0_partnerIn_25 rfl rfl ?_
          refine xg_iloadn 28 dX0_partnerIn_27 rfl rfl rfl ?_
          refine xg_callV 31 0 [_, _, _] _ kv_X0_firstPartner ⟨_, _, rfl⟩ kl_RX0_76 dX0_partnerIn_28 rfl (by assumption) (by omega) rfl rfl (Nat.le_of_ble_eq_true rfl) (by omega) ⟨Nat.le_refl _, Nat.le_refl _⟩ (ct_X0_firstPartner hC ⟨hs0, hfs.2⟩ hsh hp) rfl ?_
          refine xg_istore 33 _ dX0_partnerIn_31 rfl rfl (by decide) (Or.inr rfl) ?_
          refine xg_iload 35 dX0_partnerIn_33 rfl rfl ?_
          refine xg_iloadn 36 dX0_partnerIn_35 rfl rfl rfl ?_
          refine xg_iceq 45 39 dX0_partnerIn_36 rfl rfl (by omega) (fun hb36 => ?_) (fun hb36 => ?_)
          · exfalso; omega
          · skip
            refine xg_iload 41 dX0_partnerIn_39 rfl rfl ?_
            refine xg_iloadn 42 dX0_partnerIn_41 rfl rfl rfl ?_
            refine xg_icne 59 45 dX0_partnerIn_42 rfl rfl (by omega) (fun hb42 => ?_) (fun hb42 => ?_)
            · skip
              refine xg_iload 61 dX0_partnerIn_59 rfl rfl ?_
              refine xg_iconst 62 dX0_partnerIn_61 rfl ?_
              refine xg_iload 64 dX0_partnerIn_62 rfl rfl ?_
              refine xg_ishl 65 dX0_partnerIn_64 rfl ?_
              refine xg_iconst 66 dX0_partnerIn_65 rfl ?_
              refine xg_ixor 67 dX0_partnerIn_66 rfl ?_
              refine xg_iand 68 dX0_partnerIn_67 rfl ?_
              rw [nDel_e (by omega) (by omega)]
              refine xg_istore 70 _ dX0_partnerIn_68 rfl rfl (by decide) (Or.inr rfl) ?_
              refine xg_iload 72 dX0_partnerIn_70 rfl rfl ?_
              refine xg_iconst 73 dX0_partnerIn_72 rfl ?_
              refine xg_iceq 87 76 dX0_partnerIn_73 rfl rfl (by omega) (fun hb73 => ?_) (fun hb73 => ?_)
              · skip
                refine xg_iinc 90 _ dX0_partnerIn_87 rfl rfl rfl rfl (by decide) (Or.inr rfl) ?_
                refine xg_goto 6 dX0_partnerIn_90 rfl ?_
                have hs9 := hfs.2
                exact xg_weak _ (xle_s rfl (xle_s rfl (xle_s rfl (xle_s rfl (xle_s (by rw [show nDel s (nF s) = sNx w s from by unfold sNx; rw [if_pos (by omega)]]) (xle_s (by rw [show ((nF s + 1 : Nat) : Int) = ((nF s : Nat) : Int) + 1 by omega]) (xle_n xle_0))))))) (ih (nF s + 1) (sNx w s) (by omega) (fun q hq => hnx.2.1 q hq hlo) (by omega))
              · skip
                refine xg_iload 78 dX0_partnerIn_76 rfl rfl ?_
                refine xg_iconst 79 dX0_partnerIn_78 rfl ?_
                refine xg_iload 81 dX0_partnerIn_79 rfl rfl ?_
                refine xg_ishl 82 dX0_partnerIn_81 rfl ?_
                refine xg_iconst 83 dX0_partnerIn_82 rfl ?_
                refine xg_ixor 84 dX0_partnerIn_83 rfl ?_
                refine xg_iand 85 dX0_partnerIn_84 rfl ?_
                rw [show (sPp w s : Int) - 1 = ((sPp w s - 1 : Nat) : Int) by omega, nDel_e (by have := nDel_le s (nF s); omega) (by omega)]
                refine xg_istore 87 _ dX0_partnerIn_85 rfl rfl (by decide) (Or.inr rfl) ?_
                refine xg_iinc 90 _ dX0_partnerIn_87 rfl rfl rfl rfl (by decide) (Or.inr rfl) ?_
                refine xg_goto 6 dX0_partnerIn_90 rfl ?_
                have hs9 := hfs.2
                exact xg_weak _ (xle_s rfl (xle_s rfl (xle_s rfl (xle_s rfl (xle_s (by rw [show nDel (nDel s (nF s)) (sPp w s - 1) = sNx w s from by unfold sNx; rw [if_neg (by omega)]]) (xle_s (by rw [show ((nF s + 1 : Nat) : Int) = ((nF s : Nat) : Int) + 1 by omega]) (xle_n xle_0))))))) (ih (nF s + 1) (sNx w s) (by omega) (fun q hq => hnx.2.1 q hq hlo) (by omega))
            · exfalso; omega
  exact xg_weak _ (xle_s rfl (xle_s rfl (xle_s rfl (xle_s rfl (xle_s rfl (xle_s rfl (xle_n xle_0))))))) (loop6 30 0 (2 ^ nP w - 1) (by omega) (fun q hq => by omega) (by omega))

