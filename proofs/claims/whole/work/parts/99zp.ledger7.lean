/-! the ledger takes rows that are told -/
theorem sTld_t {t : Int → Int} {e : Int} (h : sTld t e = true) (he : 0 ≤ e) : e % 2 = 0 ∧ e ≤ 40 ∧ ∀ k : Nat, 2 * (k : Int) + 1 < e → (0 ≤ t (2 * (k : Int)) ∧ t (2 * (k : Int)) ≤ 59) ∧ 0 ≤ t (2 * (k : Int) + 1) ∧ t (2 * (k : Int) + 1) ≤ 101 := by
  unfold sTld at h
  rw [Bool.and_eq_true] at h
  have h1 := of_decide_eq_true h.1
  exact ⟨h1.1, h1.2, fun k hk => tOk_at h.2 (by omega)⟩
theorem tOk_cg {t u : Int → Int} : ∀ n : Nat, (∀ k : Nat, k < n → ((0 ≤ t (2 * (k : Int)) ∧ t (2 * (k : Int)) ≤ 59) ↔ (0 ≤ u (2 * (k : Int)) ∧ u (2 * (k : Int)) ≤ 59)) ∧ ((0 ≤ t (2 * (k : Int) + 1) ∧ t (2 * (k : Int) + 1) ≤ 101) ↔ (0 ≤ u (2 * (k : Int) + 1) ∧ u (2 * (k : Int) + 1) ≤ 101))) → tOk t n = tOk u n
  | 0, _ => rfl
  | n + 1, h => by
    have h1 := h n (by omega)
    rw [tOk, tOk, tOk_cg n (fun k hk => h k (by omega))]
    congr 1
    exact decide_eq_decide.mpr ⟨fun q => ⟨h1.1.mp q.1, h1.2.mp q.2⟩, fun q => ⟨h1.1.mpr q.1, h1.2.mpr q.2⟩⟩
/-- the tapes of both sides tell the same -/
theorem sTld_rT {t u : Int → Int} {e : Int} (h : rTp t u e) (he : 0 ≤ e) : sTld t e = sTld u e := by
  unfold sTld
  rw [tOk_cg (t := t) (u := u) _ (fun k hk => ⟨(h.btw (j := 2 * (k : Int)) (by omega) (by omega)).symm, (h.btw (j := 2 * (k : Int) + 1) (by omega) (by omega)).symm⟩)]
theorem sWrg_rT {t u : Int → Int} {e r : Int} {w : Int → Int} (h : rTp t u e) (he : 0 ≤ e) (ht : sTld t e = true) : sWrg w t e r = sWrg w u e r := by
  obtain ⟨h1, h2, h3⟩ := sTld_t ht he
  unfold sWrg
  refine pSum_congr (fun k hk => ?_)
  have h4 := h3 k (by omega)
  have h5 := h (2 * (k : Int)) (by omega) (by omega)
  have h6 := h (2 * (k : Int) + 1) (by omega) (by omega)
  rw [if_pos (by omega)] at h5
  rw [if_pos (by omega)] at h6
  rw [h5.2, h6.2]
theorem sFit_rT {t u : Int → Int} {e x : Int} {w : Int → Int} (h : rTp t u e) (he : 0 ≤ e) (ht : sTld t e = true) : sFit w t e x = sFit w u e x := by
  unfold sFit
  exact nSet_congr (fun j _ => by rw [sWrg_rT h he ht])
theorem sLik_rT {t u : Int → Int} {e : Int} {w : Int → Int} (h : rTp t u e) (he : 0 ≤ e) (ht : sTld t e = true) : sLik w t e = sLik w u e := by
  unfold sLik; rw [sFit_rT h he ht, sFit_rT h he ht]
theorem sLook_rT {t u : Int → Int} {e : Int} {w : Int → Int} (h : rTp t u e) (he : 0 ≤ e) (ht : sTld t e = true) : sLook w t e = sLook w u e := by
  unfold sLook; rw [sFit_rT h he ht]
theorem dX11_takeRows_0 : decode cX11_takeRows 0 = .ok (.aload_n 0, 1) := by decide +kernel
theorem dX11_takeRows_1 : decode cX11_takeRows 1 = .ok (.getfield 13, 3) := by decide +kernel
theorem dX11_takeRows_4 : decode cX11_takeRows 4 = .ok (.istore_n 1, 1) := by decide +kernel
theorem dX11_takeRows_5 : decode cX11_takeRows 5 = .ok (.aload_n 0, 1) := by decide +kernel
theorem dX11_takeRows_6 : decode cX11_takeRows 6 = .ok (.iconst 0, 1) := by decide +kernel
theorem dX11_takeRows_7 : decode cX11_takeRows 7 = .ok (.putfield 13, 3) := by decide +kernel
theorem dX11_takeRows_10 : decode cX11_takeRows 10 = .ok (.iload_n 1, 1) := by decide +kernel
theorem dX11_takeRows_11 : decode cX11_takeRows 11 = .ok (.bipush 40, 2) := by decide +kernel
theorem dX11_takeRows_13 : decode cX11_takeRows 13 = .ok (.if_icmp .gt 9, 3) := by decide +kernel
theorem dX11_takeRows_16 : decode cX11_takeRows 16 = .ok (.iload_n 1, 1) := by decide +kernel
theorem dX11_takeRows_17 : decode cX11_takeRows 17 = .ok (.iconst 2, 1) := by decide +kernel
theorem dX11_takeRows_18 : decode cX11_takeRows 18 = .ok (.irem, 1) := by decide +kernel
theorem dX11_takeRows_19 : decode cX11_takeRows 19 = .ok (.ifCond .eq 5, 3) := by decide +kernel
theorem dX11_takeRows_22 : decode cX11_takeRows 22 = .ok (.iconst (-1), 1) := by decide +kernel
theorem dX11_takeRows_23 : decode cX11_takeRows 23 = .ok (.ireturn, 1) := by decide +kernel
theorem dX11_takeRows_24 : decode cX11_takeRows 24 = .ok (.iconst 0, 1) := by decide +kernel
theorem dX11_takeRows_25 : decode cX11_takeRows 25 = .ok (.istore_n 2, 1) := by decide +kernel
theorem dX11_takeRows_26 : decode cX11_takeRows 26 = .ok (.iload_n 2, 1) := by decide +kernel
theorem dX11_takeRows_27 : decode cX11_takeRows 27 = .ok (.iconst 1, 1) := by decide +kernel
theorem dX11_takeRows_28 : decode cX11_takeRows 28 = .ok (.iadd, 1) := by decide +kernel
theorem dX11_takeRows_29 : decode cX11_takeRows 29 = .ok (.iload_n 1, 1) := by decide +kernel
theorem dX11_takeRows_30 : decode cX11_takeRows 30 = .ok (.if_icmp .ge 35, 3) := by decide +kernel
theorem dX11_takeRows_33 : decode cX11_takeRows 33 = .ok (.aload_n 0, 1) := by decide +kernel
theorem dX11_takeRows_34 : decode cX11_takeRows 34 = .ok (.getfield 9, 3) := by decide +kernel
theorem dX11_takeRows_37 : decode cX11_takeRows 37 = .ok (.iload_n 2, 1) := by decide +kernel
theorem dX11_takeRows_38 : decode cX11_takeRows 38 = .ok (.iaload, 1) := by decide +kernel
theorem dX11_takeRows_39 : decode cX11_takeRows 39 = .ok (.bipush 60, 2) := by decide +kernel
theorem dX11_takeRows_41 : decode cX11_takeRows 41 = .ok (.if_icmp .ge 16, 3) := by decide +kernel
theorem dX11_takeRows_44 : decode cX11_takeRows 44 = .ok (.aload_n 0, 1) := by decide +kernel
theorem dX11_takeRows_45 : decode cX11_takeRows 45 = .ok (.getfield 9, 3) := by decide +kernel
theorem dX11_takeRows_48 : decode cX11_takeRows 48 = .ok (.iload_n 2, 1) := by decide +kernel
theorem dX11_takeRows_49 : decode cX11_takeRows 49 = .ok (.iconst 1, 1) := by decide +kernel
theorem dX11_takeRows_50 : decode cX11_takeRows 50 = .ok (.iadd, 1) := by decide +kernel
theorem dX11_takeRows_51 : decode cX11_takeRows 51 = .ok (.iaload, 1) := by decide +kernel
theorem dX11_takeRows_52 : decode cX11_takeRows 52 = .ok (.bipush 101, 2) := by decide +kernel
theorem dX11_takeRows_54 : decode cX11_takeRows 54 = .ok (.if_icmp .le 5, 3) := by decide +kernel
theorem dX11_takeRows_57 : decode cX11_takeRows 57 = .ok (.iconst (-1), 1) := by decide +kernel
theorem dX11_takeRows_58 : decode cX11_takeRows 58 = .ok (.ireturn, 1) := by decide +kernel
theorem dX11_takeRows_59 : decode cX11_takeRows 59 = .ok (.iinc 2 2, 3) := by decide +kernel
theorem dX11_takeRows_62 : decode cX11_takeRows 62 = .ok (.goto (-36), 3) := by decide +kernel
theorem dX11_takeRows_65 : decode cX11_takeRows 65 = .ok (.iload_n 1, 1) := by decide +kernel
theorem dX11_takeRows_66 : decode cX11_takeRows 66 = .ok (.ireturn, 1) := by decide +kernel
theorem dX11_wrongRows_0 : decode cX11_wrongRows 0 = .ok (.iconst 0, 1) := by decide +kernel
theorem dX11_wrongRows_1 : decode cX11_wrongRows 1 = .ok (.istore_n 3, 1) := by decide +kernel
theorem dX11_wrongRows_2 : decode cX11_wrongRows 2 = .ok (.iconst 0, 1) := by decide +kernel
theorem dX11_wrongRows_3 : decode cX11_wrongRows 3 = .ok (.istore 4, 2) := by decide +kernel
theorem dX11_wrongRows_5 : decode cX11_wrongRows 5 = .ok (.iload 4, 2) := by decide +kernel
theorem dX11_wrongRows_7 : decode cX11_wrongRows 7 = .ok (.iconst 1, 1) := by decide +kernel
theorem dX11_wrongRows_8 : decode cX11_wrongRows 8 = .ok (.iadd, 1) := by decide +kernel
theorem dX11_wrongRows_9 : decode cX11_wrongRows 9 = .ok (.iload_n 2, 1) := by decide +kernel
theorem dX11_wrongRows_10 : decode cX11_wrongRows 10 = .ok (.if_icmp .ge 50, 3) := by decide +kernel
theorem dX11_wrongRows_13 : decode cX11_wrongRows 13 = .ok (.aload_n 1, 1) := by decide +kernel
theorem dX11_wrongRows_14 : decode cX11_wrongRows 14 = .ok (.aload_n 0, 1) := by decide +kernel
theorem dX11_wrongRows_15 : decode cX11_wrongRows 15 = .ok (.getfield 9, 3) := by decide +kernel
theorem dX11_wrongRows_18 : decode cX11_wrongRows 18 = .ok (.iload 4, 2) := by decide +kernel
theorem dX11_wrongRows_20 : decode cX11_wrongRows 20 = .ok (.iaload, 1) := by decide +kernel
theorem dX11_wrongRows_21 : decode cX11_wrongRows 21 = .ok (.invokevirtual 166, 3) := by decide +kernel
theorem dX11_wrongRows_24 : decode cX11_wrongRows 24 = .ok (.istore 5, 2) := by decide +kernel
theorem dX11_wrongRows_26 : decode cX11_wrongRows 26 = .ok (.iload 5, 2) := by decide +kernel
theorem dX11_wrongRows_28 : decode cX11_wrongRows 28 = .ok (.iconst (-1), 1) := by decide +kernel
theorem dX11_wrongRows_29 : decode cX11_wrongRows 29 = .ok (.if_icmp .ne 8, 3) := by decide +kernel
theorem dX11_wrongRows_32 : decode cX11_wrongRows 32 = .ok (.bipush 101, 2) := by decide +kernel
theorem dX11_wrongRows_34 : decode cX11_wrongRows 34 = .ok (.goto 5, 3) := by decide +kernel
theorem dX11_wrongRows_37 : decode cX11_wrongRows 37 = .ok (.iload 5, 2) := by decide +kernel
theorem dX11_wrongRows_39 : decode cX11_wrongRows 39 = .ok (.aload_n 0, 1) := by decide +kernel
theorem dX11_wrongRows_40 : decode cX11_wrongRows 40 = .ok (.getfield 9, 3) := by decide +kernel
theorem dX11_wrongRows_43 : decode cX11_wrongRows 43 = .ok (.iload 4, 2) := by decide +kernel
theorem dX11_wrongRows_45 : decode cX11_wrongRows 45 = .ok (.iconst 1, 1) := by decide +kernel
theorem dX11_wrongRows_46 : decode cX11_wrongRows 46 = .ok (.iadd, 1) := by decide +kernel
theorem dX11_wrongRows_47 : decode cX11_wrongRows 47 = .ok (.iaload, 1) := by decide +kernel
theorem dX11_wrongRows_48 : decode cX11_wrongRows 48 = .ok (.if_icmp .eq 6, 3) := by decide +kernel
theorem dX11_wrongRows_51 : decode cX11_wrongRows 51 = .ok (.iinc 3 1, 3) := by decide +kernel
theorem dX11_wrongRows_54 : decode cX11_wrongRows 54 = .ok (.iinc 4 2, 3) := by decide +kernel
theorem dX11_wrongRows_57 : decode cX11_wrongRows 57 = .ok (.goto (-52), 3) := by decide +kernel
theorem dX11_wrongRows_60 : decode cX11_wrongRows 60 = .ok (.iload_n 3, 1) := by decide +kernel
theorem dX11_wrongRows_61 : decode cX11_wrongRows 61 = .ok (.ireturn, 1) := by decide +kernel
set_option maxHeartbeats 4000000 in
set_option maxRecDepth 100000 in
theorem ct_X11_takeRows {E : xE} {z : Nat} {T : Nat → Nat × Int} {F : Nat → Nat → Int} {I : Nat → Int → Int} {P : Nat → Nat → Option Nat} {Y : Nat → Int → Option Nat} {o : Nat} (h1 : (T o).1 = 12) (h0 : P o 0 = some (o + 1)) (ht1 : (T (o + 1)).1 = 14 ∧ (T (o + 1)).2 = 400) (he : 0 ≤ F o 1 ∧ F o 1 ≤ 400) (htb : ∀ j : Int, 0 ≤ j → j < F o 1 → 0 ≤ I (o + 1) j ∧ I (o + 1) j ≤ 255) : Ct E 0 mX11_takeRows 0 0 [.ref o] (z, T, F, I, P, Y) (xd (some (J (if sTld (I (o + 1)) (F o 1) = true then F o 1 else -1))) (z, T, upF F o 1 0, I, P, Y)) := by
  skip
  refine Ct.of [some (.ref o), none, none] kt_X11_takeRows rfl (Nat.le_of_ble_eq_true rfl) rfl (fun d hd => ?_)
  generalize hX : xN E _ _ _ = X
  refine xg_aloadn 1 dX11_takeRows_0 rfl rfl rfl ?_
  refine xg_getI 4 kf_RX11_13 dX11_takeRows_1 rfl h1 ?_
  refine xg_istoren 5 _ dX11_takeRows_4 rfl rfl rfl (by decide) (Or.inr rfl) ?_
  refine xg_aloadn 6 dX11_takeRows_5 rfl rfl rfl ?_
  refine xg_iconst 7 dX11_takeRows_6 rfl ?_
  refine xg_putI 10 kf_RX11_13 dX11_takeRows_7 rfl h1 ?_
  refine xg_iloadn 11 dX11_takeRows_10 rfl rfl rfl ?_
  refine xg_bipush 13 dX11_takeRows_11 rfl (by decide) ?_
  refine xg_icgt 22 16 dX11_takeRows_13 rfl rfl (by omega) (fun hb13 => ?_) (fun hb13 => ?_)
  · skip
    refine xg_iconst 23 dX11_takeRows_22 rfl ?_
    subst hX
    exact xg_ireturn dX11_takeRows_23 rfl ⟨Nat.le_refl _, Nat.le_refl _⟩ ⟨by rw [if_neg (fun q => by have := sTld_t q he.1; omega)], rfl⟩
  · skip
    refine xg_iloadn 17 dX11_takeRows_16 rfl rfl rfl ?_
    refine xg_iconst 18 dX11_takeRows_17 rfl ?_
    refine xg_irem 19 dX11_takeRows_18 rfl (by omega) ?_
    refine xg_ifeq 24 22 dX11_takeRows_19 rfl rfl (by omega) (fun hb19 => ?_) (fun hb19 => ?_)
    · skip
      refine xg_iconst 25 dX11_takeRows_24 rfl ?_
      refine xg_istoren 26 _ dX11_takeRows_25 rfl rfl rfl (by decide) (Or.inr rfl) ?_
      have loop26 : ∀ (mm : Nat) (k : Nat), (2 * (k : Int) ≤ F o 1) → tOk (I (o + 1)) k = true → (F o 1 % 2 = 0 ∧ F o 1 ≤ 40) → F o 1 + 2 - 2 * (k : Int) < (mm : Int) → xG E mX11_takeRows (xR d 0 0) X 26 [some (.ref o), some (J (F o 1)), some (J (2 * (k : Int)))] [] (z, T, upF F o 1 0, I, P, Y) 0 0 := by
        intro mm
        induction mm with
        | zero => intro k hk hok hee hm; exfalso; omega
        | succ mm ih =>
          intro k hk hok hee hm
          refine xg_iloadn 27 dX11_takeRows_26 rfl rfl rfl ?_
          refine xg_iconst 28 dX11_takeRows_27 rfl ?_
          refine xg_iadd 29 dX11_takeRows_28 rfl ?_
          refine xg_iloadn 30 dX11_takeRows_29 rfl rfl rfl ?_
          refine xg_icge 65 33 dX11_takeRows_30 rfl rfl (by omega) (fun hb30 => ?_) (fun hb30 => ?_)
          · skip
            refine xg_iloadn 66 dX11_takeRows_65 rfl rfl rfl ?_
            subst hX
            exact xg_ireturn dX11_takeRows_66 rfl ⟨Nat.le_refl _, Nat.le_refl _⟩ ⟨by rw [if_pos (by unfold sTld; rw [show (F o 1 / 2).toNat = k by omega, hok, decide_eq_true hee]; rfl)], rfl⟩
          · skip
            have ha1 := htb (2 * (k : Int)) (by omega) (by omega)
            have ha2 := htb (2 * (k : Int) + 1) (by omega) (by omega)
            refine xg_aloadn 34 dX11_takeRows_33 rfl rfl rfl ?_
            refine xg_getP 37 kf_RX11_9 dX11_takeRows_34 rfl h1 h0 ?_
            refine xg_iloadn 38 dX11_takeRows_37 rfl rfl rfl ?_
            refine xg_iald 39 dX11_takeRows_38 rfl ht1.1 (by rw [ht1.2]; omega) ?_
            refine xg_bipush 41 dX11_takeRows_39 rfl (by decide) ?_
            refine xg_icge 57 44 dX11_takeRows_41 rfl rfl (by omega) (fun hb41 => ?_) (fun hb41 => ?_)
            · skip
              refine xg_iconst 58 dX11_takeRows_57 rfl ?_
              subst hX
              exact xg_ireturn dX11_takeRows_58 rfl ⟨Nat.le_refl _, Nat.le_refl _⟩ ⟨by rw [if_neg (fun q => by have := (sTld_t q he.1).2.2 k (by omega); omega)], rfl⟩
            · skip
              refine xg_aloadn 45 dX11_takeRows_44 rfl rfl rfl ?_
              refine xg_getP 48 kf_RX11_9 dX11_takeRows_45 rfl h1 h0 ?_
              refine xg_iloadn 49 dX11_takeRows_48 rfl rfl rfl ?_
              refine xg_iconst 50 dX11_takeRows_49 rfl ?_
              refine xg_iadd 51 dX11_takeRows_50 rfl ?_
              refine xg_iald 52 dX11_takeRows_51 rfl ht1.1 (by rw [ht1.2]; omega) ?_
              refine xg_bipush 54 dX11_takeRows_52 rfl (by decide) ?_
              refine xg_icle 59 57 dX11_takeRows_54 rfl rfl (by omega) (fun hb54 => ?_) (fun hb54 => ?_)
              · skip
                refine xg_iinc 62 _ dX11_takeRows_59 rfl rfl rfl rfl (by decide) (Or.inr rfl) ?_
                refine xg_goto 26 dX11_takeRows_62 rfl ?_
                exact xg_weak _ (xle_s rfl (xle_s rfl (xle_s (v := J (2 * ((k + 1 : Nat) : Int))) (congrArg (fun x => some (J x)) (by omega)) xle_0))) (ih (k + 1) (by omega) (by rw [tOk, decide_eq_true ⟨⟨ha1.1, by omega⟩, ha2.1, by omega⟩, hok]; rfl) hee (by omega))
              · skip
                refine xg_iconst 58 dX11_takeRows_57 rfl ?_
                subst hX
                exact xg_ireturn dX11_takeRows_58 rfl ⟨Nat.le_refl _, Nat.le_refl _⟩ ⟨by rw [if_neg (fun q => by have := (sTld_t q he.1).2.2 k (by omega); omega)], rfl⟩
      exact xg_weak _ (xle_s rfl (xle_s rfl (xle_s rfl xle_0))) (loop26 500 0 (by omega) rfl ⟨hb19, by omega⟩ (by omega))
    · skip
      refine xg_iconst 23 dX11_takeRows_22 rfl ?_
      subst hX
      exact xg_ireturn dX11_takeRows_23 rfl ⟨Nat.le_refl _, Nat.le_refl _⟩ ⟨by rw [if_neg (fun q => by have := sTld_t q he.1; omega)], rfl⟩

set_option maxHeartbeats 4000000 in
set_option maxRecDepth 100000 in
theorem ct_X11_wrongRows {E : xE} {z : Nat} {T : Nat → Nat × Int} {F : Nat → Nat → Int} {I : Nat → Int → Int} {P : Nat → Nat → Option Nat} {Y : Nat → Int → Option Nat} {o : Nat} (h1 : (T o).1 = 12) (h0 : P o 0 = some (o + 1)) (ht1 : (T (o + 1)).1 = 14 ∧ (T (o + 1)).2 = 400) {b : Nat} {r e : Int} {w : Int → Int} (hb : wRow T P b) (hO : wOk w) (hr : 0 ≤ r ∧ r < 12) (hrow : ∀ k : Int, 0 ≤ k → k < 60 → I (b + 1) k = w (201 + 122 * r + k)) (he : 0 ≤ e) (hV : sTld (I (o + 1)) e = true) : Ct E 1 mX11_wrongRows 0 0 [.ref o, .ref b, J e] (z, T, F, I, P, Y) (xd (some (J (sWrg w (I (o + 1)) e r))) (z, T, F, I, P, Y)) := by
  obtain ⟨e1, e2, e3⟩ := sTld_t hV he
  refine Ct.of [some (.ref o), some (.ref b), some (J e), none, none, none] kt_X11_wrongRows rfl (Nat.le_of_ble_eq_true rfl) rfl (fun d hd => ?_)
  generalize hX : xN E _ _ _ = X
  refine xg_iconst 1 dX11_wrongRows_0 rfl ?_
  refine xg_istoren 2 _ dX11_wrongRows_1 rfl rfl rfl (by decide) (Or.inr rfl) ?_
  refine xg_iconst 3 dX11_wrongRows_2 rfl ?_
  refine xg_istore 5 _ dX11_wrongRows_3 rfl rfl (by decide) (Or.inr rfl) ?_
  have loop5 : ∀ (mm : Nat) (k : Nat) (n : Int), (2 * (k : Int) ≤ e) → n = pSum (fun k => if sTby w r (I (o + 1) (2 * k)) = I (o + 1) (2 * k + 1) then 0 else 1) k → e + 2 - 2 * (k : Int) < (mm : Int) → xG E mX11_wrongRows (xR d 0 0) X 5 [some (.ref o), some (.ref b), some (J e), some (J n), some (J (2 * (k : Int))), none] [] (z, T, F, I, P, Y) 0 0 := by
    intro mm
    induction mm with
    | zero => intro k n hk hn hm; exfalso; omega
    | succ mm ih =>
      intro k n hk hn hm
      refine xg_iload 7 dX11_wrongRows_5 rfl rfl ?_
      refine xg_iconst 8 dX11_wrongRows_7 rfl ?_
      refine xg_iadd 9 dX11_wrongRows_8 rfl ?_
      refine xg_iloadn 10 dX11_wrongRows_9 rfl rfl rfl ?_
      refine xg_icge 60 13 dX11_wrongRows_10 rfl rfl (by omega) (fun hb10 => ?_) (fun hb10 => ?_)
      · skip
        refine xg_iloadn 61 dX11_wrongRows_60 rfl rfl rfl ?_
        subst hX
        exact xg_ireturn dX11_wrongRows_61 rfl ⟨Nat.le_refl _, Nat.le_refl _⟩ ⟨by rw [hn]; unfold sWrg; rw [show (e / 2).toNat = k by omega], rfl⟩
      · skip
        have ha := e3 k (by omega)
        have hty := sTby_bd hO (r := r) (key := I (o + 1) (2 * (k : Int))) hr (by omega)
        refine xg_aloadn 14 dX11_wrongRows_13 rfl rfl rfl ?_
        refine xg_aloadn 15 dX11_wrongRows_14 rfl rfl rfl ?_
        refine xg_getP 18 kf_RX11_9 dX11_wrongRows_15 rfl h1 h0 ?_
        refine xg_iload 20 dX11_wrongRows_18 rfl rfl ?_
        refine xg_iald 21 dX11_wrongRows_20 rfl ht1.1 (by rw [ht1.2]; omega) ?_
        refine xg_callV 24 6 [_] _ kv_X6_valueOf ⟨_, _, rfl⟩ kl_RX11_166 dX11_wrongRows_21 rfl hb.1 (by omega) rfl rfl (Nat.le_of_ble_eq_true rfl) (by omega) ⟨Nat.le_refl _, Nat.le_refl _⟩ (ct_X6_valueOf hb (by omega)) rfl ?_
        rw [if_pos (show 0 ≤ I (o + 1) (2 * (k : Int)) ∧ I (o + 1) (2 * (k : Int)) < 60 by omega), hrow _ (by omega) (by omega)]
        have hvr := hO.1 (201 + 122 * r + I (o + 1) (2 * (k : Int)))
        have hte : sTby w r (I (o + 1) (2 * (k : Int))) = if w (201 + 122 * r + I (o + 1) (2 * (k : Int))) = -1 then 101 else w (201 + 122 * r + I (o + 1) (2 * (k : Int))) := rfl
        refine xg_istore 26 _ dX11_wrongRows_24 rfl rfl (by decide) (Or.inr rfl) ?_
        refine xg_iload 28 dX11_wrongRows_26 rfl rfl ?_
        refine xg_iconst 29 dX11_wrongRows_28 rfl ?_
        refine xg_icne 37 32 dX11_wrongRows_29 rfl rfl (by omega) (fun hb29 => ?_) (fun hb29 => ?_)
        · skip
          refine xg_iload 39 dX11_wrongRows_37 rfl rfl ?_
          refine xg_aloadn 40 dX11_wrongRows_39 rfl rfl rfl ?_
          refine xg_getP 43 kf_RX11_9 dX11_wrongRows_40 rfl h1 h0 ?_
          refine xg_iload 45 dX11_wrongRows_43 rfl rfl ?_
          refine xg_iconst 46 dX11_wrongRows_45 rfl ?_
          refine xg_iadd 47 dX11_wrongRows_46 rfl ?_
          refine xg_iald 48 dX11_wrongRows_47 rfl ht1.1 (by rw [ht1.2]; omega) ?_
          refine xg_iceq 54 51 dX11_wrongRows_48 rfl rfl (by omega) (fun hb48 => ?_) (fun hb48 => ?_)
          · skip
            refine xg_iinc 57 _ dX11_wrongRows_54 rfl rfl rfl rfl (by decide) (Or.inr rfl) ?_
            refine xg_goto 5 dX11_wrongRows_57 rfl ?_
            exact xg_weak _ (xle_s rfl (xle_s rfl (xle_s rfl (xle_s rfl (xle_s (v := J (2 * ((k + 1 : Nat) : Int))) (congrArg (fun x => some (J x)) (by omega)) (xle_n xle_0)))))) (ih (k + 1) _ (by omega) (by rw [pSum_s, if_pos (by show sTby w r (I (o + 1) (2 * (k : Int))) = I (o + 1) (2 * (k : Int) + 1); rw [hte]; split <;> omega), hn]; omega) (by omega))
          · skip
            refine xg_iinc 54 _ dX11_wrongRows_51 rfl rfl rfl rfl (by decide) (Or.inr rfl) ?_
            refine xg_iinc 57 _ dX11_wrongRows_54 rfl rfl rfl rfl (by decide) (Or.inr rfl) ?_
            refine xg_goto 5 dX11_wrongRows_57 rfl ?_
            exact xg_weak _ (xle_s rfl (xle_s rfl (xle_s rfl (xle_s rfl (xle_s (v := J (2 * ((k + 1 : Nat) : Int))) (congrArg (fun x => some (J x)) (by omega)) (xle_n xle_0)))))) (ih (k + 1) _ (by omega) (by rw [pSum_s, if_neg (show ¬ (sTby w r (I (o + 1) (2 * (k : Int))) = I (o + 1) (2 * (k : Int) + 1)) by rw [hte]; split <;> omega), hn]) (by omega))
        · skip
          refine xg_bipush 34 dX11_wrongRows_32 rfl (by decide) ?_
          refine xg_goto 39 dX11_wrongRows_34 rfl ?_
          refine xg_aloadn 40 dX11_wrongRows_39 rfl rfl rfl ?_
          refine xg_getP 43 kf_RX11_9 dX11_wrongRows_40 rfl h1 h0 ?_
          refine xg_iload 45 dX11_wrongRows_43 rfl rfl ?_
          refine xg_iconst 46 dX11_wrongRows_45 rfl ?_
          refine xg_iadd 47 dX11_wrongRows_46 rfl ?_
          refine xg_iald 48 dX11_wrongRows_47 rfl ht1.1 (by rw [ht1.2]; omega) ?_
          refine xg_iceq 54 51 dX11_wrongRows_48 rfl rfl (by omega) (fun hb48 => ?_) (fun hb48 => ?_)
          · skip
            refine xg_iinc 57 _ dX11_wrongRows_54 rfl rfl rfl rfl (by decide) (Or.inr rfl) ?_
            refine xg_goto 5 dX11_wrongRows_57 rfl ?_
            exact xg_weak _ (xle_s rfl (xle_s rfl (xle_s rfl (xle_s rfl (xle_s (v := J (2 * ((k + 1 : Nat) : Int))) (congrArg (fun x => some (J x)) (by omega)) (xle_n xle_0)))))) (ih (k + 1) _ (by omega) (by rw [pSum_s, if_pos (by show sTby w r (I (o + 1) (2 * (k : Int))) = I (o + 1) (2 * (k : Int) + 1); rw [hte]; split <;> omega), hn]; omega) (by omega))
          · skip
            refine xg_iinc 54 _ dX11_wrongRows_51 rfl rfl rfl rfl (by decide) (Or.inr rfl) ?_
            refine xg_iinc 57 _ dX11_wrongRows_54 rfl rfl rfl rfl (by decide) (Or.inr rfl) ?_
            refine xg_goto 5 dX11_wrongRows_57 rfl ?_
            exact xg_weak _ (xle_s rfl (xle_s rfl (xle_s rfl (xle_s rfl (xle_s (v := J (2 * ((k + 1 : Nat) : Int))) (congrArg (fun x => some (J x)) (by omega)) (xle_n xle_0)))))) (ih (k + 1) _ (by omega) (by rw [pSum_s, if_neg (show ¬ (sTby w r (I (o + 1) (2 * (k : Int))) = I (o + 1) (2 * (k : Int) + 1)) by rw [hte]; split <;> omega), hn]) (by omega))
  exact xg_weak _ (xle_s rfl (xle_s rfl (xle_s rfl (xle_s rfl (xle_s rfl (xle_n xle_0)))))) (loop5 500 0 0 (by omega) rfl (by omega))

