/-! the ledger's asks: weights, twins, the journal, odds, counts -/
theorem pSum_1c {f g : Int → Int} {c : Nat} : ∀ {N : Nat}, c < N → (∀ j : Nat, j < N → j ≠ c → g (j : Int) = f (j : Int)) → pSum g N = pSum f N + (g (c : Int) - f (c : Int))
  | 0, h, _ => absurd h (Nat.not_lt_zero c)
  | N + 1, h, hj => by
    rw [pSum_s, pSum_s]
    by_cases e : c = N
    · subst e
      rw [pSum_congr (f := g) (g := f) (fun j hj2 => hj j (by omega) (by omega))]; omega
    · rw [pSum_1c (c := c) (N := N) (by omega) (fun j a b => hj j (by omega) b), hj N (by omega) (fun q => e q.symm)]; omega
def sTwQ (w : Int → Int) (p c : Nat) : Int → Int := fun a => sTw1 w a (if a < (c : Int) then min a.toNat (p + 1) else min a.toNat p)
theorem sTwQ_0 {w : Int → Int} {p : Nat} {n : Nat} : pSum (sTwQ w p (p + 1)) n = pSum (fun a => sTw1 w a (min a.toNat p)) n := pSum_congr (fun j _ => by
  show sTw1 w (j : Int) _ = sTw1 w (j : Int) _
  by_cases c : (j : Int) < ((p + 1 : Nat) : Int)
  · rw [if_pos c, show min ((j : Int)).toNat (p + 1) = min ((j : Int)).toNat p by omega]
  · rw [if_neg c])
theorem sTwQ_n {w : Int → Int} {p : Nat} {n : Nat} : pSum (sTwQ w p n) n = pSum (fun a => sTw1 w a (min a.toNat (p + 1))) n := pSum_congr (fun j hj => by
  show sTw1 w (j : Int) _ = sTw1 w (j : Int) _
  rw [if_pos (by omega)])
theorem sTwQ_s {w : Int → Int} {p c n : Nat} (h1 : p < c) (h2 : c < n) : pSum (sTwQ w p (c + 1)) n = pSum (sTwQ w p c) n + (if w (199 + 122 * (c : Int)) = w (199 + 122 * (p : Int)) ∧ sEnt w (201 + 122 * (c : Int)) = sEnt w (201 + 122 * (p : Int)) then 1 else 0) := by
  rw [pSum_1c (f := sTwQ w p c) h2 (fun j _ hj => ?_)]
  · have e1 : sTwQ w p (c + 1) (c : Int) = sTw1 w (c : Int) (p + 1) := by show sTw1 w (c : Int) _ = _; rw [if_pos (by omega), show min ((c : Int)).toNat (p + 1) = p + 1 by omega]
    have e2 : sTwQ w p c (c : Int) = sTw1 w (c : Int) p := by show sTw1 w (c : Int) _ = _; rw [if_neg (by omega), show min ((c : Int)).toNat p = p by omega]
    rw [e1, e2, show sTw1 w (c : Int) (p + 1) = sTw1 w (c : Int) p + (if w (199 + 122 * (c : Int)) = w (199 + 122 * (p : Int)) ∧ sEnt w (201 + 122 * (c : Int)) = sEnt w (201 + 122 * (p : Int)) then 1 else 0) from rfl]
    omega
  · show sTw1 w (j : Int) _ = sTw1 w (j : Int) _
    by_cases c2 : (j : Int) < (c : Int)
    · rw [if_pos (by omega), if_pos c2]
    · rw [if_neg (by omega), if_neg c2]
theorem sTw_Q {w : Int → Int} {n : Nat} : pSum (fun a => sTw1 w a (min a.toNat n)) n = sTw w n := by
  unfold sTw
  exact pSum_congr (fun j hj => by show sTw1 w (j : Int) _ = sTw1 w (j : Int) _; rw [show min ((j : Int)).toNat n = ((j : Int)).toNat by omega])
theorem sTwQ_b (w : Int → Int) {p c n : Nat} (hn : n ≤ 12) : 0 ≤ pSum (sTwQ w p c) n ∧ pSum (sTwQ w p c) n ≤ 12 * (n : Int) := pSum_bd (b := 12) (fun j hj => by
  have h := sTw1_bd w (j : Int) (if (j : Int) < (c : Int) then min ((j : Int)).toNat (p + 1) else min ((j : Int)).toNat p)
  show 0 ≤ sTw1 w (j : Int) _ ∧ sTw1 w (j : Int) _ ≤ 12
  have h2 : (if (j : Int) < (c : Int) then min ((j : Int)).toNat (p + 1) else min ((j : Int)).toNat p) ≤ 12 := by split <;> omega
  omega)
theorem told_w {F : Nat → Nat → Int} {I : Nat → Int → Int} {a : Nat} {w : Int → Int} (h : rJo F I a w) {k : Int} {c : Nat} (hc : c < 4) : sTold5 F I (a + 51) k (c : Int) = if 0 ≤ k ∧ k < w 14 then w (1663 + 4 * k + (c : Int)) else -1 := by
  obtain ⟨h1, h2, h3⟩ := h
  unfold sTold5
  rw [h1]
  split
  · rename_i hk
    have h4 := h3 k.toNat c (by omega) hc
    rw [show ((k.toNat : Nat) : Int) = k by omega, h1] at h4
    rw [show ((c : Int)).toNat = c by omega, show a + 51 + 1 + c = a + 52 + c by omega]
    exact h4
  · rfl
theorem led_1 {F : Nat → Nat → Int} {I : Nat → Int → Int} {a : Nat} {w : Int → Int} (h : rJo F I a w) {x : Int} {top : Nat} (ht : (top : Int) = w 14) : ∀ k : Nat, k ≤ top → (sLed w x top k).1 = pSum (fun k => if sTold5 F I (a + 51) k 1 = x then 1 else 0) top - pSum (fun k => if sTold5 F I (a + 51) k 1 = x then 1 else 0) (top - k)
  | 0, _ => by rw [Nat.sub_zero]; show (0 : Int) = _; omega
  | k + 1, hk => by
    have h1 := led_1 h (x := x) ht k (by omega)
    have h2 : pSum (fun k => if sTold5 F I (a + 51) k 1 = x then 1 else 0) (top - k) = pSum (fun k => if sTold5 F I (a + 51) k 1 = x then 1 else 0) (top - (k + 1)) + (if sTold5 F I (a + 51) ((top - (k + 1) : Nat) : Int) 1 = x then 1 else 0) := by
      rw [show top - k = (top - (k + 1)) + 1 by omega]; rfl
    have h3 := told_w h (k := ((top - (k + 1) : Nat) : Int)) (c := 1) (by decide)
    rw [if_pos (by omega), show ((1 : Nat) : Int) = 1 from rfl] at h3
    rw [h3] at h2
    rw [sLed, show (top : Int) - 1 - (k : Int) = ((top - (k + 1) : Nat) : Int) by omega]
    split
    · rename_i c; rw [if_pos c] at h2; show (sLed w x top k).1 + 1 = _; omega
    · rename_i c; rw [if_neg c] at h2; omega
theorem led_2 {F : Nat → Nat → Int} {I : Nat → Int → Int} {a : Nat} {w : Int → Int} (h : rJo F I a w) {x : Int} {top : Nat} (ht : (top : Int) = w 14) : ∀ k : Nat, k ≤ top → (sLed w x top k).2 = sLat5 F I (a + 51) x k ((top - k : Nat) : Int)
  | 0, _ => rfl
  | k + 1, hk => by
    have h1 := led_2 h (x := x) ht k (by omega)
    have h3 := told_w h (k := ((top - (k + 1) : Nat) : Int)) (c := 1) (by decide)
    have h4 := told_w h (k := ((top - (k + 1) : Nat) : Int)) (c := 0) (by decide)
    rw [if_pos (by omega), show ((1 : Nat) : Int) = 1 from rfl] at h3
    rw [if_pos (by omega), show ((0 : Nat) : Int) = 0 from rfl, Int.add_zero] at h4
    rw [sLed, sLat5, show (top : Int) - 1 - (k : Int) = ((top - (k + 1) : Nat) : Int) by omega, h3, h4]
    split
    · rfl
    · rw [h1, show ((top - k : Nat) : Int) = ((top - (k + 1) : Nat) : Int) + 1 by omega]
theorem dX11_most_0 : decode cX11_most 0 = .ok (.iload_n 1, 1) := by decide +kernel
theorem dX11_most_1 : decode cX11_most 1 = .ok (.ifCond .lt 8, 3) := by decide +kernel
theorem dX11_most_4 : decode cX11_most 4 = .ok (.iload_n 1, 1) := by decide +kernel
theorem dX11_most_5 : decode cX11_most 5 = .ok (.iconst 1, 1) := by decide +kernel
theorem dX11_most_6 : decode cX11_most 6 = .ok (.if_icmp .le 11, 3) := by decide +kernel
theorem dX11_most_9 : decode cX11_most 9 = .ok (.new 155, 3) := by decide +kernel
theorem dX11_most_12 : decode cX11_most 12 = .ok (.dup, 1) := by decide +kernel
theorem dX11_most_13 : decode cX11_most 13 = .ok (.invokespecial 157, 3) := by decide +kernel
theorem dX11_most_16 : decode cX11_most 16 = .ok (.athrow, 1) := by decide +kernel
theorem dX11_most_17 : decode cX11_most 17 = .ok (.iconst (-1), 1) := by decide +kernel
theorem dX11_most_18 : decode cX11_most 18 = .ok (.istore_n 2, 1) := by decide +kernel
theorem dX11_most_19 : decode cX11_most 19 = .ok (.iconst (-1), 1) := by decide +kernel
theorem dX11_most_20 : decode cX11_most 20 = .ok (.istore_n 3, 1) := by decide +kernel
theorem dX11_most_21 : decode cX11_most 21 = .ok (.iconst 0, 1) := by decide +kernel
theorem dX11_most_22 : decode cX11_most 22 = .ok (.istore 4, 2) := by decide +kernel
theorem dX11_most_24 : decode cX11_most 24 = .ok (.iload 4, 2) := by decide +kernel
theorem dX11_most_26 : decode cX11_most 26 = .ok (.aload_n 0, 1) := by decide +kernel
theorem dX11_most_27 : decode cX11_most 27 = .ok (.getfield 23, 3) := by decide +kernel
theorem dX11_most_30 : decode cX11_most 30 = .ok (.getfield 314, 3) := by decide +kernel
theorem dX11_most_33 : decode cX11_most 33 = .ok (.if_icmp .ge 63, 3) := by decide +kernel
theorem dX11_most_36 : decode cX11_most 36 = .ok (.iload 4, 2) := by decide +kernel
theorem dX11_most_38 : decode cX11_most 38 = .ok (.bipush 12, 2) := by decide +kernel
theorem dX11_most_40 : decode cX11_most 40 = .ok (.if_icmp .ge 56, 3) := by decide +kernel
theorem dX11_most_43 : decode cX11_most 43 = .ok (.iload_n 1, 1) := by decide +kernel
theorem dX11_most_44 : decode cX11_most 44 = .ok (.ifCond .ne 19, 3) := by decide +kernel
theorem dX11_most_47 : decode cX11_most 47 = .ok (.aload_n 0, 1) := by decide +kernel
theorem dX11_most_48 : decode cX11_most 48 = .ok (.getfield 23, 3) := by decide +kernel
theorem dX11_most_51 : decode cX11_most 51 = .ok (.getfield 128, 3) := by decide +kernel
theorem dX11_most_54 : decode cX11_most 54 = .ok (.iload 4, 2) := by decide +kernel
theorem dX11_most_56 : decode cX11_most 56 = .ok (.aaload, 1) := by decide +kernel
theorem dX11_most_57 : decode cX11_most 57 = .ok (.getfield 137, 3) := by decide +kernel
theorem dX11_most_60 : decode cX11_most 60 = .ok (.goto 16, 3) := by decide +kernel
theorem dX11_most_63 : decode cX11_most 63 = .ok (.aload_n 0, 1) := by decide +kernel
theorem dX11_most_64 : decode cX11_most 64 = .ok (.getfield 23, 3) := by decide +kernel
theorem dX11_most_67 : decode cX11_most 67 = .ok (.getfield 128, 3) := by decide +kernel
theorem dX11_most_70 : decode cX11_most 70 = .ok (.iload 4, 2) := by decide +kernel
theorem dX11_most_72 : decode cX11_most 72 = .ok (.aaload, 1) := by decide +kernel
theorem dX11_most_73 : decode cX11_most 73 = .ok (.invokevirtual 140, 3) := by decide +kernel
theorem dX11_most_76 : decode cX11_most 76 = .ok (.istore 5, 2) := by decide +kernel
theorem dX11_most_78 : decode cX11_most 78 = .ok (.iload 5, 2) := by decide +kernel
theorem dX11_most_80 : decode cX11_most 80 = .ok (.iload_n 3, 1) := by decide +kernel
theorem dX11_most_81 : decode cX11_most 81 = .ok (.if_icmp .le 9, 3) := by decide +kernel
theorem dX11_most_84 : decode cX11_most 84 = .ok (.iload 5, 2) := by decide +kernel
theorem dX11_most_86 : decode cX11_most 86 = .ok (.istore_n 3, 1) := by decide +kernel
theorem dX11_most_87 : decode cX11_most 87 = .ok (.iload 4, 2) := by decide +kernel
theorem dX11_most_89 : decode cX11_most 89 = .ok (.istore_n 2, 1) := by decide +kernel
theorem dX11_most_90 : decode cX11_most 90 = .ok (.iinc 4 1, 3) := by decide +kernel
theorem dX11_most_93 : decode cX11_most 93 = .ok (.goto (-69), 3) := by decide +kernel
theorem dX11_most_96 : decode cX11_most 96 = .ok (.iload_n 2, 1) := by decide +kernel
theorem dX11_most_97 : decode cX11_most 97 = .ok (.ireturn, 1) := by decide +kernel
set_option maxHeartbeats 4000000 in
set_option maxRecDepth 100000 in
theorem ct_X11_most {E : xE} {z : Nat} {T : Nat → Nat × Int} {F : Nat → Nat → Int} {I : Nat → Int → Int} {P : Nat → Nat → Option Nat} {Y : Nat → Int → Option Nat} {o a : Nat} {w : Int → Int} (h1 : (T o).1 = 12) (h3 : P o 3 = some a) (hS : SR T F I P Y a w) (hr9 : wRn w) {x : Int} (hx : 0 ≤ x ∧ x ≤ 1) : Ct E 1 mX11_most 0 0 [.ref o, J x] (z, T, F, I, P, Y) (xd (some (J (sMst w x (wN w)))) (z, T, F, I, P, Y)) := by
  have hO := hS.1.1
  have o0 := hO.2.1
  obtain ⟨hGd, hLw, ⟨π, ⟨hSt, hPm⟩, ⟨hSc, hTl, hJb⟩, hRun, hTab, hOut, hJo⟩, hLv, hLf⟩ := id hS
  obtain ⟨⟨st9, s0, s01, s02⟩, hRows, ⟨s4, s44⟩, ⟨s5, l9, ⟨l0, l1, l2, l3⟩, ⟨l01, l02⟩, ⟨l11, l12⟩, ⟨l21, l22⟩, l31, l32⟩, ⟨s6, s50⟩, ⟨s7, hJou⟩, -⟩ := id hSt
  have p5 : ∀ j : Nat, j < 14 → π j < 14 := hPm.2.2.2.1
  have hw0 : F a 1 = w 0 := hSc.1
  have hwN := wN_i o0.1
  refine Ct.of [some (.ref o), some (J x), none, none, none, none] kt_X11_most rfl (Nat.le_of_ble_eq_true rfl) rfl (fun d hd => ?_)
  generalize hX : xN E _ _ _ = X
  refine xg_iloadn 1 dX11_most_0 rfl rfl rfl ?_
  refine xg_iflt 9 4 dX11_most_1 rfl rfl (by omega) (fun hb1 => ?_) (fun hb1 => ?_)
  · exfalso; omega
  · skip
    refine xg_iloadn 5 dX11_most_4 rfl rfl rfl ?_
    refine xg_iconst 6 dX11_most_5 rfl ?_
    refine xg_icle 17 9 dX11_most_6 rfl rfl (by omega) (fun hb6 => ?_) (fun hb6 => ?_)
    · skip
      refine xg_iconst 18 dX11_most_17 rfl ?_
      refine xg_istoren 19 _ dX11_most_18 rfl rfl rfl (by decide) (Or.inr rfl) ?_
      refine xg_iconst 20 dX11_most_19 rfl ?_
      refine xg_istoren 21 _ dX11_most_20 rfl rfl rfl (by decide) (Or.inr rfl) ?_
      refine xg_iconst 22 dX11_most_21 rfl ?_
      refine xg_istore 24 _ dX11_most_22 rfl rfl (by decide) (Or.inr rfl) ?_
      have loop24 : ∀ (mm : Nat) (r : Nat) (best gr : Int), ((r : Int) ≤ w 0) → best = sMst w x r → (gr = (if best = -1 then -1 else sAm w x best) ∧ -1 ≤ gr ∧ gr ≤ 100) → 20 - (r : Int) < (mm : Int) → xG E mX11_most (xR d 0 0) X 24 [some (.ref o), some (J x), some (J best), some (J gr), some (J (r : Int)), none] [] (z, T, F, I, P, Y) 0 0 := by
        intro mm
        induction mm with
        | zero => intro r best gr hrn hbe hgr hm; exfalso; omega
        | succ mm ih =>
          intro r best gr hrn hbe hgr hm
          refine xg_iload 26 dX11_most_24 rfl rfl ?_
          refine xg_aloadn 27 dX11_most_26 rfl rfl rfl ?_
          refine xg_getP 30 kf_RX11_23 dX11_most_27 rfl h1 h3 ?_
          refine xg_getI 33 kf_RX11_314 dX11_most_30 rfl st9 ?_
          rw [hw0]
          refine xg_icge 96 36 dX11_most_33 rfl rfl (by omega) (fun hb33 => ?_) (fun hb33 => ?_)
          · skip
            refine xg_iloadn 97 dX11_most_96 rfl rfl rfl ?_
            subst hX
            exact xg_ireturn dX11_most_97 rfl ⟨Nat.le_refl _, Nat.le_refl _⟩ ⟨by rw [hbe, show r = wN w by omega], rfl⟩
          · skip
            refine xg_iload 38 dX11_most_36 rfl rfl ?_
            refine xg_bipush 40 dX11_most_38 rfl (by decide) ?_
            refine xg_icge 96 43 dX11_most_40 rfl rfl (by omega) (fun hb40 => ?_) (fun hb40 => ?_)
            · skip
              refine xg_iloadn 97 dX11_most_96 rfl rfl rfl ?_
              subst hX
              exact xg_ireturn dX11_most_97 rfl ⟨Nat.le_refl _, Nat.le_refl _⟩ ⟨by rw [hbe, show r = wN w by omega], rfl⟩
            · skip
              have hr : (r : Int) < w 0 := by omega
              have hb : wRow T P (a + 2 + 3 * π r) := hRows _ (p5 r (by omega))
              have hR := hRun r hr
              have hLvl := (hr9.1 r hr).1
              have hI01 := (hr9.1 r hr).2.1
              have hEb := sEnt_bd w (201 + 122 * (r : Int))
              have hE2 : F (a + 2 + 3 * π r) 2 = sEnt w (201 + 122 * (r : Int)) := hR.2.2.1
              have hF3 := hR.1
              have hF4 := hR.2.1
              have hMb := sMst_bd w x r
              have hMe := pMost_bd (f := fun k => w (201 + 122 * (r : Int) + k)) (g := fun k => w (261 + 122 * (r : Int) + k)) (fun k hk => (hO.2.2.2.2.2.2.2.2.2.2.2.2.2.2 (261 + 122 * (r : Int) + (k : Int)) (by omega) (by omega)).2) 60 (by decide)
              refine xg_iloadn 44 dX11_most_43 rfl rfl rfl ?_
              refine xg_join1 76 (fun y => y = sAm w x (r : Int)) ?_ ?_
              · intro x_1 hx_1
                have hy : x_1 = sAm w x (r : Int) := hx_1
                have hyb : 0 ≤ sAm w x (r : Int) ∧ sAm w x (r : Int) ≤ 100 := by
                  unfold sAm; split
                  · omega
                  · exact hMe
                subst hy
                refine xg_istore 78 _ dX11_most_76 rfl rfl (by decide) (Or.inr rfl) ?_
                refine xg_iload 80 dX11_most_78 rfl rfl ?_
                refine xg_iloadn 81 dX11_most_80 rfl rfl rfl ?_
                refine xg_icle 90 84 dX11_most_81 rfl rfl (by omega) (fun hb81 => ?_) (fun hb81 => ?_)
                · skip
                  refine xg_iinc 93 _ dX11_most_90 rfl rfl rfl rfl (by decide) (Or.inr rfl) ?_
                  refine xg_goto 24 dX11_most_93 rfl ?_
                  exact xg_weak _ (xle_s rfl (xle_s rfl (xle_s rfl (xle_s rfl (xle_s (v := J ((r + 1 : Nat) : Int)) (congrArg (fun x => some (J x)) (by omega)) (xle_n xle_0)))))) (ih (r + 1) best gr (by omega) (by rw [sMst, if_neg (by rw [← hbe]; intro q; rw [hgr.1] at hb81; split at hb81 <;> omega)]; exact hbe) hgr (by omega))
                · skip
                  refine xg_iload 86 dX11_most_84 rfl rfl ?_
                  refine xg_istoren 87 _ dX11_most_86 rfl rfl rfl (by decide) (Or.inr rfl) ?_
                  refine xg_iload 89 dX11_most_87 rfl rfl ?_
                  refine xg_istoren 90 _ dX11_most_89 rfl rfl rfl (by decide) (Or.inr rfl) ?_
                  refine xg_iinc 93 _ dX11_most_90 rfl rfl rfl rfl (by decide) (Or.inr rfl) ?_
                  refine xg_goto 24 dX11_most_93 rfl ?_
                  exact xg_weak _ (xle_s rfl (xle_s rfl (xle_s rfl (xle_s rfl (xle_s (v := J ((r + 1 : Nat) : Int)) (congrArg (fun x => some (J x)) (by omega)) (xle_n xle_0)))))) (ih (r + 1) (r : Int) (sAm w x (r : Int)) (by omega) (by rw [sMst, if_pos (by rw [← hbe]; rw [hgr.1] at hb81; split at hb81 <;> omega)]) ⟨by rw [if_neg (by omega)], by omega, by omega⟩ (by omega))
              · intro hj
                refine xg_ifne 63 47 dX11_most_44 rfl rfl (by omega) (fun hb44 => ?_) (fun hb44 => ?_)
                · skip
                  refine xg_aloadn 64 dX11_most_63 rfl rfl rfl ?_
                  refine xg_getP 67 kf_RX11_23 dX11_most_64 rfl h1 h3 ?_
                  refine xg_getP 70 kf_RX11_128 dX11_most_67 rfl st9 s0 ?_
                  refine xg_iload 72 dX11_most_70 rfl rfl ?_
                  refine xg_rald 73 dX11_most_72 rfl s01 (by rw [s02]; omega) (hPm.1 r (by omega)) ?_
                  refine xg_callV 76 6 [] _ kv_X6_mostRewritten ⟨_, _, rfl⟩ kl_RX11_140 dX11_most_73 rfl hb.1 (by omega) rfl rfl (Nat.le_of_ble_eq_true rfl) (by omega) ⟨Nat.le_refl _, Nat.le_refl _⟩ (ct_X6_mostRewritten2 hb (fun j j0 j1 => by rw [(hR.2.2.2 j j0 j1).1]; exact hO.2.2.2.2.2.2.2.2.2.2.2.2.2.2 _ (by omega) (by omega)) (fun j j0 j1 hj => by rw [(hR.2.2.2 j j0 j1).1] at hj; rw [(hR.2.2.2 j j0 j1).2 hj]; exact hO.2.2.2.2.2.2.2.2.2.2.2.2.2.2 _ (by omega) (by omega))) rfl ?_
                  exact hj _ (by unfold sAm; rw [if_neg hb44]; exact sMstR_eq (f := fun k => w (201 + 122 * (r : Int) + k)) (g' := fun k => w (261 + 122 * (r : Int) + k)) (fun k hk => (hR.2.2.2 k (by omega) (by omega)).1) (fun k hk hf => (hR.2.2.2 k (by omega) (by omega)).2 hf) 60 (by omega))
                · skip
                  refine xg_aloadn 48 dX11_most_47 rfl rfl rfl ?_
                  refine xg_getP 51 kf_RX11_23 dX11_most_48 rfl h1 h3 ?_
                  refine xg_getP 54 kf_RX11_128 dX11_most_51 rfl st9 s0 ?_
                  refine xg_iload 56 dX11_most_54 rfl rfl ?_
                  refine xg_rald 57 dX11_most_56 rfl s01 (by rw [s02]; omega) (hPm.1 r (by omega)) ?_
                  refine xg_getI 60 kf_RX11_137 dX11_most_57 rfl hb.1 ?_
                  refine xg_goto 76 dX11_most_60 rfl ?_
                  exact hj _ (by unfold sAm; rw [if_pos (by omega)]; exact hE2)
      exact xg_weak _ (xle_s rfl (xle_s rfl (xle_s rfl (xle_s rfl (xle_s rfl (xle_n xle_0)))))) (loop24 30 0 (-1) (-1) (by omega) rfl ⟨by rw [if_pos rfl], by omega, by omega⟩ (by omega))
    · exfalso; omega

theorem dX11_twins_0 : decode cX11_twins 0 = .ok (.iconst 0, 1) := by decide +kernel
theorem dX11_twins_1 : decode cX11_twins 1 = .ok (.istore_n 1, 1) := by decide +kernel
theorem dX11_twins_2 : decode cX11_twins 2 = .ok (.iconst 0, 1) := by decide +kernel
theorem dX11_twins_3 : decode cX11_twins 3 = .ok (.istore_n 2, 1) := by decide +kernel
theorem dX11_twins_4 : decode cX11_twins 4 = .ok (.iload_n 2, 1) := by decide +kernel
theorem dX11_twins_5 : decode cX11_twins 5 = .ok (.aload_n 0, 1) := by decide +kernel
theorem dX11_twins_6 : decode cX11_twins 6 = .ok (.getfield 23, 3) := by decide +kernel
theorem dX11_twins_9 : decode cX11_twins 9 = .ok (.getfield 314, 3) := by decide +kernel
theorem dX11_twins_12 : decode cX11_twins 12 = .ok (.if_icmp .ge 69, 3) := by decide +kernel
theorem dX11_twins_15 : decode cX11_twins 15 = .ok (.iload_n 2, 1) := by decide +kernel
theorem dX11_twins_16 : decode cX11_twins 16 = .ok (.bipush 12, 2) := by decide +kernel
theorem dX11_twins_18 : decode cX11_twins 18 = .ok (.if_icmp .ge 63, 3) := by decide +kernel
theorem dX11_twins_21 : decode cX11_twins 21 = .ok (.iload_n 2, 1) := by decide +kernel
theorem dX11_twins_22 : decode cX11_twins 22 = .ok (.iconst 1, 1) := by decide +kernel
theorem dX11_twins_23 : decode cX11_twins 23 = .ok (.iadd, 1) := by decide +kernel
theorem dX11_twins_24 : decode cX11_twins 24 = .ok (.istore_n 3, 1) := by decide +kernel
theorem dX11_twins_25 : decode cX11_twins 25 = .ok (.iload_n 3, 1) := by decide +kernel
theorem dX11_twins_26 : decode cX11_twins 26 = .ok (.aload_n 0, 1) := by decide +kernel
theorem dX11_twins_27 : decode cX11_twins 27 = .ok (.getfield 23, 3) := by decide +kernel
theorem dX11_twins_30 : decode cX11_twins 30 = .ok (.getfield 314, 3) := by decide +kernel
theorem dX11_twins_33 : decode cX11_twins 33 = .ok (.if_icmp .ge 42, 3) := by decide +kernel
theorem dX11_twins_36 : decode cX11_twins 36 = .ok (.iload_n 3, 1) := by decide +kernel
theorem dX11_twins_37 : decode cX11_twins 37 = .ok (.bipush 12, 2) := by decide +kernel
theorem dX11_twins_39 : decode cX11_twins 39 = .ok (.if_icmp .ge 36, 3) := by decide +kernel
theorem dX11_twins_42 : decode cX11_twins 42 = .ok (.aload_n 0, 1) := by decide +kernel
theorem dX11_twins_43 : decode cX11_twins 43 = .ok (.getfield 23, 3) := by decide +kernel
theorem dX11_twins_46 : decode cX11_twins 46 = .ok (.getfield 128, 3) := by decide +kernel
theorem dX11_twins_49 : decode cX11_twins 49 = .ok (.iload_n 2, 1) := by decide +kernel
theorem dX11_twins_50 : decode cX11_twins 50 = .ok (.aaload, 1) := by decide +kernel
theorem dX11_twins_51 : decode cX11_twins 51 = .ok (.aload_n 0, 1) := by decide +kernel
theorem dX11_twins_52 : decode cX11_twins 52 = .ok (.getfield 23, 3) := by decide +kernel
theorem dX11_twins_55 : decode cX11_twins 55 = .ok (.getfield 128, 3) := by decide +kernel
theorem dX11_twins_58 : decode cX11_twins 58 = .ok (.iload_n 3, 1) := by decide +kernel
theorem dX11_twins_59 : decode cX11_twins 59 = .ok (.aaload, 1) := by decide +kernel
theorem dX11_twins_60 : decode cX11_twins 60 = .ok (.invokestatic 347, 3) := by decide +kernel
theorem dX11_twins_63 : decode cX11_twins 63 = .ok (.ifCond .eq 6, 3) := by decide +kernel
theorem dX11_twins_66 : decode cX11_twins 66 = .ok (.iinc 1 1, 3) := by decide +kernel
theorem dX11_twins_69 : decode cX11_twins 69 = .ok (.iinc 3 1, 3) := by decide +kernel
theorem dX11_twins_72 : decode cX11_twins 72 = .ok (.goto (-47), 3) := by decide +kernel
theorem dX11_twins_75 : decode cX11_twins 75 = .ok (.iinc 2 1, 3) := by decide +kernel
theorem dX11_twins_78 : decode cX11_twins 78 = .ok (.goto (-74), 3) := by decide +kernel
theorem dX11_twins_81 : decode cX11_twins 81 = .ok (.iload_n 1, 1) := by decide +kernel
theorem dX11_twins_82 : decode cX11_twins 82 = .ok (.ireturn, 1) := by decide +kernel
theorem pSum_zero0 : ∀ n : Nat, pSum (fun _ => (0 : Int)) n = 0
  | 0 => rfl
  | n + 1 => by rw [pSum_s, pSum_zero0 n]; rfl
set_option maxHeartbeats 4000000 in
set_option maxRecDepth 100000 in
theorem ct_X11_twins {E : xE} {z : Nat} {T : Nat → Nat × Int} {F : Nat → Nat → Int} {I : Nat → Int → Int} {P : Nat → Nat → Option Nat} {Y : Nat → Int → Option Nat} {o a : Nat} {w : Int → Int} (h1 : (T o).1 = 12) (h3 : P o 3 = some a) (hS : SR T F I P Y a w) : Ct E 1 mX11_twins 0 0 [.ref o] (z, T, F, I, P, Y) (xd (some (J (sTw w (wN w)))) (z, T, F, I, P, Y)) := by
  have hO := hS.1.1
  have o0 := hO.2.1
  obtain ⟨hGd, hLw, ⟨π, ⟨hSt, hPm⟩, ⟨hSc, hTl, hJb⟩, hRun, hTab, hOut, hJo⟩, hLv, hLf⟩ := id hS
  obtain ⟨⟨st9, s0, s01, s02⟩, hRows, ⟨s4, s44⟩, ⟨s5, l9, ⟨l0, l1, l2, l3⟩, ⟨l01, l02⟩, ⟨l11, l12⟩, ⟨l21, l22⟩, l31, l32⟩, ⟨s6, s50⟩, ⟨s7, hJou⟩, -⟩ := id hSt
  have p5 : ∀ j : Nat, j < 14 → π j < 14 := hPm.2.2.2.1
  have hw0 : F a 1 = w 0 := hSc.1
  have hwN := wN_i o0.1
  refine Ct.of [some (.ref o), none, none, none] kt_X11_twins rfl (Nat.le_of_ble_eq_true rfl) rfl (fun d hd => ?_)
  generalize hX : xN E _ _ _ = X
  refine xg_iconst 1 dX11_twins_0 rfl ?_
  refine xg_istoren 2 _ dX11_twins_1 rfl rfl rfl (by decide) (Or.inr rfl) ?_
  refine xg_iconst 3 dX11_twins_2 rfl ?_
  refine xg_istoren 4 _ dX11_twins_3 rfl rfl rfl (by decide) (Or.inr rfl) ?_
  have loop4 : ∀ (mm : Nat) (p : Nat), ((p : Int) ≤ w 0) → 20 - (p : Int) < (mm : Int) → xG E mX11_twins (xR d 0 0) X 4 [some (.ref o), some (J (pSum (fun a => sTw1 w a (min a.toNat p)) (wN w))), some (J (p : Int)), none] [] (z, T, F, I, P, Y) 0 0 := by
    intro mm
    induction mm with
    | zero => intro p hp hm; exfalso; omega
    | succ mm iho =>
      intro p hp hm
      refine xg_iloadn 5 dX11_twins_4 rfl rfl rfl ?_
      refine xg_aloadn 6 dX11_twins_5 rfl rfl rfl ?_
      refine xg_getP 9 kf_RX11_23 dX11_twins_6 rfl h1 h3 ?_
      refine xg_getI 12 kf_RX11_314 dX11_twins_9 rfl st9 ?_
      rw [hw0]
      refine xg_icge 81 15 dX11_twins_12 rfl rfl (by omega) (fun hb12 => ?_) (fun hb12 => ?_)
      · skip
        refine xg_iloadn 82 dX11_twins_81 rfl rfl rfl ?_
        subst hX
        exact xg_ireturn dX11_twins_82 rfl ⟨Nat.le_refl _, Nat.le_refl _⟩ ⟨by rw [show p = wN w by omega, sTw_Q], rfl⟩
      · skip
        refine xg_iloadn 16 dX11_twins_15 rfl rfl rfl ?_
        refine xg_bipush 18 dX11_twins_16 rfl (by decide) ?_
        refine xg_icge 81 21 dX11_twins_18 rfl rfl (by omega) (fun hb18 => ?_) (fun hb18 => ?_)
        · skip
          refine xg_iloadn 82 dX11_twins_81 rfl rfl rfl ?_
          subst hX
          exact xg_ireturn dX11_twins_82 rfl ⟨Nat.le_refl _, Nat.le_refl _⟩ ⟨by rw [show p = wN w by omega, sTw_Q], rfl⟩
        · skip
          refine xg_iloadn 22 dX11_twins_21 rfl rfl rfl ?_
          refine xg_iconst 23 dX11_twins_22 rfl ?_
          refine xg_iadd 24 dX11_twins_23 rfl ?_
          refine xg_istoren 25 _ dX11_twins_24 rfl rfl rfl (by decide) (Or.inr rfl) ?_
          have loop25 : ∀ (mm : Nat) (c : Nat), (p < c ∧ (c : Int) ≤ w 0) → 20 - (c : Int) < (mm : Int) → xG E mX11_twins (xR d 0 0) X 25 [some (.ref o), some (J (pSum (sTwQ w p c) (wN w))), some (J (p : Int)), some (J (c : Int))] [] (z, T, F, I, P, Y) 0 0 := by
            intro mm
            induction mm with
            | zero => intro c hc hm; exfalso; omega
            | succ mm ih =>
              intro c hc hm
              have hqb := sTwQ_b w (p := p) (c := c) (n := wN w) (by omega)
              refine xg_iloadn 26 dX11_twins_25 rfl rfl rfl ?_
              refine xg_aloadn 27 dX11_twins_26 rfl rfl rfl ?_
              refine xg_getP 30 kf_RX11_23 dX11_twins_27 rfl h1 h3 ?_
              refine xg_getI 33 kf_RX11_314 dX11_twins_30 rfl st9 ?_
              rw [hw0]
              refine xg_icge 75 36 dX11_twins_33 rfl rfl (by omega) (fun hb33 => ?_) (fun hb33 => ?_)
              · skip
                refine xg_iinc 78 _ dX11_twins_75 rfl rfl rfl rfl (by decide) (Or.inr rfl) ?_
                refine xg_goto 4 dX11_twins_78 rfl ?_
                exact xg_weak _ (xle_s rfl (xle_s (congrArg (fun x => some (J x)) (by rw [show c = wN w by omega]; exact sTwQ_n)) (xle_s (v := J ((p + 1 : Nat) : Int)) (congrArg (fun x => some (J x)) (by omega)) (xle_n xle_0)))) (iho (p + 1) (by omega) (by omega))
              · skip
                refine xg_iloadn 37 dX11_twins_36 rfl rfl rfl ?_
                refine xg_bipush 39 dX11_twins_37 rfl (by decide) ?_
                refine xg_icge 75 42 dX11_twins_39 rfl rfl (by omega) (fun hb39 => ?_) (fun hb39 => ?_)
                · skip
                  refine xg_iinc 78 _ dX11_twins_75 rfl rfl rfl rfl (by decide) (Or.inr rfl) ?_
                  refine xg_goto 4 dX11_twins_78 rfl ?_
                  exact xg_weak _ (xle_s rfl (xle_s (congrArg (fun x => some (J x)) (by rw [show c = wN w by omega]; exact sTwQ_n)) (xle_s (v := J ((p + 1 : Nat) : Int)) (congrArg (fun x => some (J x)) (by omega)) (xle_n xle_0)))) (iho (p + 1) (by omega) (by omega))
                · skip
                  have hbp : wRow T P (a + 2 + 3 * π p) := hRows _ (p5 p (by omega))
                  have hRp := hRun p (by omega)
                  have hEp : F (a + 2 + 3 * π p) 2 = sEnt w (201 + 122 * (p : Int)) := hRp.2.2.1
                  have hLp : F (a + 2 + 3 * π p) 3 = w (199 + 122 * (p : Int)) := hRp.1
                  have hEbp := sEnt_bd w (201 + 122 * (p : Int))
                  have hLbp := hO.1 (199 + 122 * (p : Int))
                  have hbc : wRow T P (a + 2 + 3 * π c) := hRows _ (p5 c (by omega))
                  have hRc := hRun c (by omega)
                  have hEc : F (a + 2 + 3 * π c) 2 = sEnt w (201 + 122 * (c : Int)) := hRc.2.2.1
                  have hLc : F (a + 2 + 3 * π c) 3 = w (199 + 122 * (c : Int)) := hRc.1
                  have hEbc := sEnt_bd w (201 + 122 * (c : Int))
                  have hLbc := hO.1 (199 + 122 * (c : Int))
                  refine xg_aloadn 43 dX11_twins_42 rfl rfl rfl ?_
                  refine xg_getP 46 kf_RX11_23 dX11_twins_43 rfl h1 h3 ?_
                  refine xg_getP 49 kf_RX11_128 dX11_twins_46 rfl st9 s0 ?_
                  refine xg_iloadn 50 dX11_twins_49 rfl rfl rfl ?_
                  refine xg_rald 51 dX11_twins_50 rfl s01 (by rw [s02]; omega) (hPm.1 p (by omega)) ?_
                  refine xg_aloadn 52 dX11_twins_51 rfl rfl rfl ?_
                  refine xg_getP 55 kf_RX11_23 dX11_twins_52 rfl h1 h3 ?_
                  refine xg_getP 58 kf_RX11_128 dX11_twins_55 rfl st9 s0 ?_
                  refine xg_iloadn 59 dX11_twins_58 rfl rfl rfl ?_
                  refine xg_rald 60 dX11_twins_59 rfl s01 (by rw [s02]; omega) (hPm.1 c (by omega)) ?_
                  refine xg_callS 63 [_, _] _ ks_X11_areTwins kl_RX11_347 dX11_twins_60 rfl rfl rfl (Nat.le_of_ble_eq_true rfl) (by omega) ⟨Nat.le_refl _, Nat.le_refl _⟩ (ct_X11_areTwins hbp.1 hbc.1 (by rw [hLp, hLc]; exact ⟨hLbp, hLbc⟩) (by rw [hEp, hEc]; omega)) rfl ?_
                  rw [hLp, hLc, hEp, hEc]
                  refine xg_deq 69 66 dX11_twins_63 rfl rfl (fun hb63 => ?_) (fun hb63 => ?_)
                  · skip
                    refine xg_iinc 72 _ dX11_twins_69 rfl rfl rfl rfl (by decide) (Or.inr rfl) ?_
                    refine xg_goto 25 dX11_twins_72 rfl ?_
                    exact xg_weak _ (xle_s rfl (xle_s (congrArg (fun x => some (J x)) (by rw [sTwQ_s hc.1 (by omega), if_neg (fun q => hb63 ⟨q.1.symm, q.2.symm⟩), Int.add_zero])) (xle_s rfl (xle_s (v := J ((c + 1 : Nat) : Int)) (congrArg (fun x => some (J x)) (by omega)) xle_0)))) (ih (c + 1) (by omega) (by omega))
                  · skip
                    refine xg_iinc 69 _ dX11_twins_66 rfl rfl rfl rfl (by decide) (Or.inr rfl) ?_
                    refine xg_iinc 72 _ dX11_twins_69 rfl rfl rfl rfl (by decide) (Or.inr rfl) ?_
                    refine xg_goto 25 dX11_twins_72 rfl ?_
                    exact xg_weak _ (xle_s rfl (xle_s (congrArg (fun x => some (J x)) (by rw [sTwQ_s hc.1 (by omega), if_pos ⟨hb63.1.symm, hb63.2.symm⟩])) (xle_s rfl (xle_s (v := J ((c + 1 : Nat) : Int)) (congrArg (fun x => some (J x)) (by omega)) xle_0)))) (ih (c + 1) (by omega) (by omega))
          exact xg_weak _ (xle_s rfl (xle_s (congrArg (fun x => some (J x)) sTwQ_0.symm) (xle_s rfl (xle_s (congrArg (fun x => some (J x)) (by omega)) xle_0)))) (loop25 30 (p + 1) ⟨by omega, by omega⟩ (by omega))
  exact xg_weak _ (xle_s rfl (xle_s (congrArg (fun x => some (J x)) (by rw [pSum_congr (g := fun _ => 0) (fun j _ => by show sTw1 w (j : Int) (min _ 0) = 0; rw [Nat.min_zero]; rfl)]; exact (pSum_zero0 _).symm)) (xle_s rfl (xle_n xle_0)))) (loop4 30 0 (by omega) (by omega))

theorem dX11_log_0 : decode cX11_log 0 = .ok (.iload_n 2, 1) := by decide +kernel
theorem dX11_log_1 : decode cX11_log 1 = .ok (.ifCond .lt 8, 3) := by decide +kernel
theorem dX11_log_4 : decode cX11_log 4 = .ok (.iload_n 2, 1) := by decide +kernel
theorem dX11_log_5 : decode cX11_log 5 = .ok (.iconst 3, 1) := by decide +kernel
theorem dX11_log_6 : decode cX11_log 6 = .ok (.if_icmp .le 11, 3) := by decide +kernel
theorem dX11_log_9 : decode cX11_log 9 = .ok (.new 155, 3) := by decide +kernel
theorem dX11_log_12 : decode cX11_log 12 = .ok (.dup, 1) := by decide +kernel
theorem dX11_log_13 : decode cX11_log 13 = .ok (.invokespecial 157, 3) := by decide +kernel
theorem dX11_log_16 : decode cX11_log 16 = .ok (.athrow, 1) := by decide +kernel
theorem dX11_log_17 : decode cX11_log 17 = .ok (.aload_n 0, 1) := by decide +kernel
theorem dX11_log_18 : decode cX11_log 18 = .ok (.getfield 23, 3) := by decide +kernel
theorem dX11_log_21 : decode cX11_log 21 = .ok (.getfield 366, 3) := by decide +kernel
theorem dX11_log_24 : decode cX11_log 24 = .ok (.iload_n 1, 1) := by decide +kernel
theorem dX11_log_25 : decode cX11_log 25 = .ok (.iload_n 2, 1) := by decide +kernel
theorem dX11_log_26 : decode cX11_log 26 = .ok (.invokevirtual 378, 3) := by decide +kernel
theorem dX11_log_29 : decode cX11_log 29 = .ok (.ireturn, 1) := by decide +kernel
set_option maxHeartbeats 4000000 in
set_option maxRecDepth 100000 in
theorem ct_X11_log {E : xE} {z : Nat} {T : Nat → Nat × Int} {F : Nat → Nat → Int} {I : Nat → Int → Int} {P : Nat → Nat → Option Nat} {Y : Nat → Int → Option Nat} {o a : Nat} {w : Int → Int} (h1 : (T o).1 = 12) (h3 : P o 3 = some a) (hS : SR T F I P Y a w) {v : Int} (hv : -2147483648 ≤ v ∧ v < 2147483648) {x : Nat} (hx : x ≤ 3) : Ct E 1 mX11_log 0 0 [.ref o, J v, J (x : Int)] (z, T, F, I, P, Y) (xd (some (J (if 0 ≤ v ∧ v < w 14 then w (1663 + 4 * v + (x : Int)) else -1))) (z, T, F, I, P, Y)) := by
  have hO := hS.1.1
  have o0 := hO.2.1
  obtain ⟨hGd, hLw, ⟨π, ⟨hSt, hPm⟩, ⟨hSc, hTl, hJb⟩, hRun, hTab, hOut, hJo⟩, hLv, hLf⟩ := id hS
  obtain ⟨⟨st9, s0, s01, s02⟩, hRows, ⟨s4, s44⟩, ⟨s5, l9, ⟨l0, l1, l2, l3⟩, ⟨l01, l02⟩, ⟨l11, l12⟩, ⟨l21, l22⟩, l31, l32⟩, ⟨s6, s50⟩, ⟨s7, hJou⟩, -⟩ := id hSt
  have p5 : ∀ j : Nat, j < 14 → π j < 14 := hPm.2.2.2.1
  have hw0 : F a 1 = w 0 := hSc.1
  have hj4 := hJo.2.1
  have hj5 : F (a + 51) 5 = w 14 := hJo.1
  have o14 := hO.2.2.2.2.2.2.2.2.2.2.1
  refine Ct.of [some (.ref o), some (J v), some (J (x : Int))] kt_X11_log rfl (Nat.le_of_ble_eq_true rfl) rfl (fun d hd => ?_)
  generalize hX : xN E _ _ _ = X
  refine xg_iloadn 1 dX11_log_0 rfl rfl rfl ?_
  refine xg_iflt 9 4 dX11_log_1 rfl rfl (by omega) (fun hb1 => ?_) (fun hb1 => ?_)
  · exfalso; omega
  · skip
    refine xg_iloadn 5 dX11_log_4 rfl rfl rfl ?_
    refine xg_iconst 6 dX11_log_5 rfl ?_
    refine xg_icle 17 9 dX11_log_6 rfl rfl (by omega) (fun hb6 => ?_) (fun hb6 => ?_)
    · skip
      refine xg_aloadn 18 dX11_log_17 rfl rfl rfl ?_
      refine xg_getP 21 kf_RX11_23 dX11_log_18 rfl h1 h3 ?_
      refine xg_getP 24 kf_RX11_366 dX11_log_21 rfl st9 s7 ?_
      refine xg_iloadn 25 dX11_log_24 rfl rfl rfl ?_
      refine xg_iloadn 26 dX11_log_25 rfl rfl rfl ?_
      refine xg_callV 29 2 [_, _] _ kv_X2_told ⟨_, _, rfl⟩ kl_RX11_378 dX11_log_26 rfl hJou.1 (by omega) rfl rfl (Nat.le_of_ble_eq_true rfl) (by omega) ⟨Nat.le_refl _, Nat.le_refl _⟩ (ct_X2_told hJou (by omega) (by omega) hv (by omega)) rfl ?_
      subst hX
      exact xg_ireturn dX11_log_29 rfl ⟨Nat.le_refl _, Nat.le_refl _⟩ ⟨by rw [told_w hJo (by omega)], rfl⟩
    · exfalso; omega

