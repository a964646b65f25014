theorem dX7_lengthOf_0 : decode cX7_lengthOf 0 = .ok (.aload_n 0, 1) := by decide +kernel
theorem dX7_lengthOf_1 : decode cX7_lengthOf 1 = .ok (.iload_n 1, 1) := by decide +kernel
theorem dX7_lengthOf_2 : decode cX7_lengthOf 2 = .ok (.iaload, 1) := by decide +kernel
theorem dX7_lengthOf_3 : decode cX7_lengthOf 3 = .ok (.invokestatic 45, 3) := by decide +kernel
theorem dX7_lengthOf_6 : decode cX7_lengthOf 6 = .ok (.istore_n 3, 1) := by decide +kernel
theorem dX7_lengthOf_7 : decode cX7_lengthOf 7 = .ok (.iload_n 1, 1) := by decide +kernel
theorem dX7_lengthOf_8 : decode cX7_lengthOf 8 = .ok (.iconst 1, 1) := by decide +kernel
theorem dX7_lengthOf_9 : decode cX7_lengthOf 9 = .ok (.iadd, 1) := by decide +kernel
theorem dX7_lengthOf_10 : decode cX7_lengthOf 10 = .ok (.istore 4, 2) := by decide +kernel
theorem dX7_lengthOf_12 : decode cX7_lengthOf 12 = .ok (.iload_n 3, 1) := by decide +kernel
theorem dX7_lengthOf_13 : decode cX7_lengthOf 13 = .ok (.bipush 100, 2) := by decide +kernel
theorem dX7_lengthOf_15 : decode cX7_lengthOf 15 = .ok (.if_icmp .ne 6, 3) := by decide +kernel
theorem dX7_lengthOf_18 : decode cX7_lengthOf 18 = .ok (.iload 4, 2) := by decide +kernel
theorem dX7_lengthOf_20 : decode cX7_lengthOf 20 = .ok (.ireturn, 1) := by decide +kernel
theorem dX7_lengthOf_21 : decode cX7_lengthOf 21 = .ok (.iload 4, 2) := by decide +kernel
theorem dX7_lengthOf_23 : decode cX7_lengthOf 23 = .ok (.iload_n 2, 1) := by decide +kernel
theorem dX7_lengthOf_24 : decode cX7_lengthOf 24 = .ok (.if_icmp .ge 27, 3) := by decide +kernel
theorem dX7_lengthOf_27 : decode cX7_lengthOf 27 = .ok (.iload 4, 2) := by decide +kernel
theorem dX7_lengthOf_29 : decode cX7_lengthOf 29 = .ok (.aload_n 0, 1) := by decide +kernel
theorem dX7_lengthOf_30 : decode cX7_lengthOf 30 = .ok (.arraylength, 1) := by decide +kernel
theorem dX7_lengthOf_31 : decode cX7_lengthOf 31 = .ok (.if_icmp .ge 20, 3) := by decide +kernel
theorem dX7_lengthOf_34 : decode cX7_lengthOf 34 = .ok (.aload_n 0, 1) := by decide +kernel
theorem dX7_lengthOf_35 : decode cX7_lengthOf 35 = .ok (.iload 4, 2) := by decide +kernel
theorem dX7_lengthOf_37 : decode cX7_lengthOf 37 = .ok (.iaload, 1) := by decide +kernel
theorem dX7_lengthOf_38 : decode cX7_lengthOf 38 = .ok (.invokestatic 45, 3) := by decide +kernel
theorem dX7_lengthOf_41 : decode cX7_lengthOf 41 = .ok (.iload_n 3, 1) := by decide +kernel
theorem dX7_lengthOf_42 : decode cX7_lengthOf 42 = .ok (.if_icmp .ne 9, 3) := by decide +kernel
theorem dX7_lengthOf_45 : decode cX7_lengthOf 45 = .ok (.iinc 4 1, 3) := by decide +kernel
theorem dX7_lengthOf_48 : decode cX7_lengthOf 48 = .ok (.goto (-27), 3) := by decide +kernel
theorem dX7_lengthOf_51 : decode cX7_lengthOf 51 = .ok (.iload 4, 2) := by decide +kernel
theorem dX7_lengthOf_53 : decode cX7_lengthOf 53 = .ok (.ireturn, 1) := by decide +kernel
theorem dX7_keep_0 : decode cX7_keep 0 = .ok (.aload_n 0, 1) := by decide +kernel
theorem dX7_keep_1 : decode cX7_keep 1 = .ok (.getfield 25, 3) := by decide +kernel
theorem dX7_keep_4 : decode cX7_keep 4 = .ok (.ifCond .lt 55, 3) := by decide +kernel
theorem dX7_keep_7 : decode cX7_keep 7 = .ok (.aload_n 0, 1) := by decide +kernel
theorem dX7_keep_8 : decode cX7_keep 8 = .ok (.getfield 25, 3) := by decide +kernel
theorem dX7_keep_11 : decode cX7_keep 11 = .ok (.aload_n 0, 1) := by decide +kernel
theorem dX7_keep_12 : decode cX7_keep 12 = .ok (.getfield 9, 3) := by decide +kernel
theorem dX7_keep_15 : decode cX7_keep 15 = .ok (.arraylength, 1) := by decide +kernel
theorem dX7_keep_16 : decode cX7_keep 16 = .ok (.if_icmp .ge 43, 3) := by decide +kernel
theorem dX7_keep_19 : decode cX7_keep 19 = .ok (.aload_n 0, 1) := by decide +kernel
theorem dX7_keep_20 : decode cX7_keep 20 = .ok (.getfield 9, 3) := by decide +kernel
theorem dX7_keep_23 : decode cX7_keep 23 = .ok (.aload_n 0, 1) := by decide +kernel
theorem dX7_keep_24 : decode cX7_keep 24 = .ok (.getfield 25, 3) := by decide +kernel
theorem dX7_keep_27 : decode cX7_keep 27 = .ok (.iload_n 1, 1) := by decide +kernel
theorem dX7_keep_28 : decode cX7_keep 28 = .ok (.iastore, 1) := by decide +kernel
theorem dX7_keep_29 : decode cX7_keep 29 = .ok (.aload_n 0, 1) := by decide +kernel
theorem dX7_keep_30 : decode cX7_keep 30 = .ok (.getfield 15, 3) := by decide +kernel
theorem dX7_keep_33 : decode cX7_keep 33 = .ok (.aload_n 0, 1) := by decide +kernel
theorem dX7_keep_34 : decode cX7_keep 34 = .ok (.getfield 25, 3) := by decide +kernel
theorem dX7_keep_37 : decode cX7_keep 37 = .ok (.iload_n 2, 1) := by decide +kernel
theorem dX7_keep_38 : decode cX7_keep 38 = .ok (.iastore, 1) := by decide +kernel
theorem dX7_keep_39 : decode cX7_keep 39 = .ok (.aload_n 0, 1) := by decide +kernel
theorem dX7_keep_40 : decode cX7_keep 40 = .ok (.getfield 18, 3) := by decide +kernel
theorem dX7_keep_43 : decode cX7_keep 43 = .ok (.aload_n 0, 1) := by decide +kernel
theorem dX7_keep_44 : decode cX7_keep 44 = .ok (.getfield 25, 3) := by decide +kernel
theorem dX7_keep_47 : decode cX7_keep 47 = .ok (.iload_n 3, 1) := by decide +kernel
theorem dX7_keep_48 : decode cX7_keep 48 = .ok (.iastore, 1) := by decide +kernel
theorem dX7_keep_49 : decode cX7_keep 49 = .ok (.aload_n 0, 1) := by decide +kernel
theorem dX7_keep_50 : decode cX7_keep 50 = .ok (.dup, 1) := by decide +kernel
theorem dX7_keep_51 : decode cX7_keep 51 = .ok (.getfield 25, 3) := by decide +kernel
theorem dX7_keep_54 : decode cX7_keep 54 = .ok (.iconst 1, 1) := by decide +kernel
theorem dX7_keep_55 : decode cX7_keep 55 = .ok (.iadd, 1) := by decide +kernel
theorem dX7_keep_56 : decode cX7_keep 56 = .ok (.putfield 25, 3) := by decide +kernel
theorem dX7_keep_59 : decode cX7_keep 59 = .ok (.return_, 1) := by decide +kernel
theorem zCs_b (c : Int) : 50 ≤ zCs c ∧ zCs c ≤ 100 := by
  unfold zCs
  by_cases h1 : 97 ≤ c ∧ c ≤ 122
  · rw [if_pos h1]; omega
  rw [if_neg h1]
  by_cases h2 : 48 ≤ c ∧ c ≤ 57
  · rw [if_pos h2]; omega
  rw [if_neg h2]; omega
/-- how far characters of one sort reach -/
def zLe (t : Int → Int) (k : Int) : Nat → Int → Int → Int
  | 0, p, _ => p
  | n + 1, p, e => if p < e ∧ zCs (t p) = k then zLe t k n (p + 1) e else p
theorem zLe_out {t : Int → Int} {k : Int} {n : Nat} {p e : Int} (h : ¬ (p < e ∧ zCs (t p) = k)) : zLe t k n p e = p := by
  cases n with
  | zero => rfl
  | succ n => exact if_neg h
theorem zLe_s {t : Int → Int} {k : Int} {n : Nat} {p e : Int} (h : p < e ∧ zCs (t p) = k) : zLe t k (n + 1) p e = zLe t k n (p + 1) e := if_pos h
/-- the end of the token that begins at p -/
def zLen (t : Int → Int) (p e : Int) : Int := if zCs (t p) = 100 then p + 1 else zLe t (zCs (t p)) 400 (p + 1) e
set_option maxHeartbeats 4000000 in
set_option maxRecDepth 100000 in
theorem ct_X7_lengthOf {E : xE} {z : Nat} {T : Nat → Nat × Int} {F : Nat → Nat → Int} {I : Nat → Int → Int} {P : Nat → Nat → Option Nat} {Y : Nat → Int → Option Nat} {x : Nat} {p e : Int} (hx : (T x).1 = 14 ∧ (T x).2 = 400) (hT : ∀ j : Int, 0 ≤ j → j < 400 → 0 ≤ I x j ∧ I x j ≤ 255) (hp : 0 ≤ p ∧ p < e ∧ e ≤ 400) : Ct E 1 mX7_lengthOf 0 0 [.ref x, J p, J e] (z, T, F, I, P, Y) (xd (some (J (zLen (I x) p e))) (z, T, F, I, P, Y)) := by
  have hsp := zCs_b (I x p)
  refine Ct.of [some (.ref x), some (J p), some (J e), none, none] kt_X7_lengthOf rfl (Nat.le_of_ble_eq_true rfl) rfl (fun d hd => ?_)
  generalize hX : xN E _ _ _ = X
  refine xg_aloadn 1 dX7_lengthOf_0 rfl rfl rfl ?_
  refine xg_iloadn 2 dX7_lengthOf_1 rfl rfl rfl ?_
  refine xg_iald 3 dX7_lengthOf_2 rfl hx.1 (by rw [hx.2]; omega) ?_
  refine xg_callS 6 [_] _ ks_X7_charSort kl_RX7_45 dX7_lengthOf_3 rfl rfl rfl (Nat.le_of_ble_eq_true rfl) (by omega) ⟨Nat.le_refl _, Nat.le_refl _⟩ (ct_X7_charSort (by have := hT p (by omega) (by omega); omega)) rfl ?_
  refine xg_istoren 7 _ dX7_lengthOf_6 rfl rfl rfl (by decide) (Or.inr rfl) ?_
  refine xg_iloadn 8 dX7_lengthOf_7 rfl rfl rfl ?_
  refine xg_iconst 9 dX7_lengthOf_8 rfl ?_
  refine xg_iadd 10 dX7_lengthOf_9 rfl ?_
  refine xg_istore 12 _ dX7_lengthOf_10 rfl rfl (by decide) (Or.inr rfl) ?_
  refine xg_iloadn 13 dX7_lengthOf_12 rfl rfl rfl ?_
  refine xg_bipush 15 dX7_lengthOf_13 rfl (by decide) ?_
  refine xg_icne 21 18 dX7_lengthOf_15 rfl rfl (by omega) (fun hb15 => ?_) (fun hb15 => ?_)
  · skip
    have loop21 : ∀ (mm : Nat) (y : Int) (n : Nat), p + 1 ≤ y → y ≤ e → e - y ≤ n → zLe (I x) (zCs (I x p)) n y e = zLe (I x) (zCs (I x p)) 400 (p + 1) e → e - y < (mm : Int) → xG E mX7_lengthOf (xR d 0 0) X 21 [some (.ref x), some (J p), some (J e), some (J (zCs (I x p))), some (J y)] [] (z, T, F, I, P, Y) 0 0 := by
      intro mm
      induction mm with
      | zero => intro y n y0 y1 yn hR hm; exfalso; omega
      | succ mm ih =>
        intro y n y0 y1 yn hR hm
        refine xg_iload 23 dX7_lengthOf_21 rfl rfl ?_
        refine xg_iloadn 24 dX7_lengthOf_23 rfl rfl rfl ?_
        refine xg_icge 51 27 dX7_lengthOf_24 rfl rfl (by omega) (fun hb24 => ?_) (fun hb24 => ?_)
        · skip
          refine xg_iload 53 dX7_lengthOf_51 rfl rfl ?_
          subst hX
          exact xg_ireturn dX7_lengthOf_53 rfl ⟨Nat.le_refl _, Nat.le_refl _⟩ ⟨by unfold zLen; rw [if_neg (by omega), ← hR]; exact congrArg (fun v => some (J v)) (zLe_out (by omega)).symm, rfl⟩
        · skip
          refine xg_iload 29 dX7_lengthOf_27 rfl rfl ?_
          refine xg_aloadn 30 dX7_lengthOf_29 rfl rfl rfl ?_
          refine xg_alen 31 dX7_lengthOf_30 rfl hx.1 hx.2 ?_
          refine xg_icge 51 34 dX7_lengthOf_31 rfl rfl (by omega) (fun hb31 => ?_) (fun hb31 => ?_)
          · skip
            refine xg_iload 53 dX7_lengthOf_51 rfl rfl ?_
            subst hX
            exact xg_ireturn dX7_lengthOf_53 rfl ⟨Nat.le_refl _, Nat.le_refl _⟩ ⟨by unfold zLen; rw [if_neg (by omega), ← hR]; exact congrArg (fun v => some (J v)) (zLe_out (by omega)).symm, rfl⟩
          · skip
            refine xg_aloadn 35 dX7_lengthOf_34 rfl rfl rfl ?_
            refine xg_iload 37 dX7_lengthOf_35 rfl rfl ?_
            refine xg_iald 38 dX7_lengthOf_37 rfl hx.1 (by rw [hx.2]; omega) ?_
            refine xg_callS 41 [_] _ ks_X7_charSort kl_RX7_45 dX7_lengthOf_38 rfl rfl rfl (Nat.le_of_ble_eq_true rfl) (by omega) ⟨Nat.le_refl _, Nat.le_refl _⟩ (ct_X7_charSort (by have := hT y (by omega) (by omega); omega)) rfl ?_
            refine xg_iloadn 42 dX7_lengthOf_41 rfl rfl rfl ?_
            refine xg_icne 51 45 dX7_lengthOf_42 rfl rfl (by have := zCs_b (I x y); omega) (fun hb42 => ?_) (fun hb42 => ?_)
            · skip
              refine xg_iload 53 dX7_lengthOf_51 rfl rfl ?_
              subst hX
              exact xg_ireturn dX7_lengthOf_53 rfl ⟨Nat.le_refl _, Nat.le_refl _⟩ ⟨by unfold zLen; rw [if_neg (by omega), ← hR]; exact congrArg (fun v => some (J v)) (zLe_out (by omega)).symm, rfl⟩
            · skip
              refine xg_iinc 48 _ dX7_lengthOf_45 rfl rfl rfl rfl (by decide) (Or.inr rfl) ?_
              refine xg_goto 21 dX7_lengthOf_48 rfl ?_
              obtain ⟨n, rfl⟩ : ∃ n0, n = n0 + 1 := ⟨n - 1, by omega⟩
              exact ih (y + 1) n (by omega) (by omega) (by omega) (by rw [← hR, zLe_s (by omega)]) (by omega)
    exact loop21 401 (p + 1) 400 (by omega) (by omega) (by omega) rfl (by omega)
  · skip
    refine xg_iload 20 dX7_lengthOf_18 rfl rfl ?_
    subst hX
    exact xg_ireturn dX7_lengthOf_20 rfl ⟨Nat.le_refl _, Nat.le_refl _⟩ ⟨by unfold zLen; rw [if_pos (by omega)], rfl⟩

/-- one token more -/
def zKp (I : Nat → Int → Int) (s : Nat) (c b k v : Int) : Nat → Int → Int := upI (upI (upI I (s + 1) c b) (s + 2) c k) (s + 3) c v
set_option maxHeartbeats 4000000 in
set_option maxRecDepth 100000 in
theorem ct_X7_keep {E : xE} {z : Nat} {T : Nat → Nat × Int} {F : Nat → Nat → Int} {I : Nat → Int → Int} {P : Nat → Nat → Option Nat} {Y : Nat → Int → Option Nat} {s : Nat} {b k v : Int} (hs : wScn T P s) (hc : 0 ≤ F s 3 ∧ F s 3 ≤ 400) : Ct E 0 mX7_keep 0 0 [.ref s, J b, J k, J v] (z, T, F, I, P, Y) (xd none (z, T, upF F s 3 (F s 3 + 1), zKp I s (F s 3) b k v, P, Y)) := by
  obtain ⟨s0, ⟨p0, q0, r0⟩, ⟨p1, q1, r1⟩, p2, q2, r2⟩ := id hs
  refine Ct.of [some (.ref s), some (J b), some (J k), some (J v)] kt_X7_keep rfl (Nat.le_of_ble_eq_true rfl) rfl (fun d hd => ?_)
  generalize hX : xN E _ _ _ = X
  refine xg_aloadn 1 dX7_keep_0 rfl rfl rfl ?_
  refine xg_getI 4 kf_RX7_25 dX7_keep_1 rfl s0 ?_
  refine xg_iflt 59 7 dX7_keep_4 rfl rfl (by omega) (fun hb4 => ?_) (fun hb4 => ?_)
  · exfalso; omega
  · skip
    refine xg_aloadn 8 dX7_keep_7 rfl rfl rfl ?_
    refine xg_getI 11 kf_RX7_25 dX7_keep_8 rfl s0 ?_
    refine xg_aloadn 12 dX7_keep_11 rfl rfl rfl ?_
    refine xg_getP 15 kf_RX7_9 dX7_keep_12 rfl s0 p0 ?_
    refine xg_alen 16 dX7_keep_15 rfl q0 r0 ?_
    refine xg_icge 59 19 dX7_keep_16 rfl rfl (by omega) (fun hb16 => ?_) (fun hb16 => ?_)
    · exfalso; omega
    · skip
      refine xg_aloadn 20 dX7_keep_19 rfl rfl rfl ?_
      refine xg_getP 23 kf_RX7_9 dX7_keep_20 rfl s0 p0 ?_
      refine xg_aloadn 24 dX7_keep_23 rfl rfl rfl ?_
      refine xg_getI 27 kf_RX7_25 dX7_keep_24 rfl s0 ?_
      refine xg_iloadn 28 dX7_keep_27 rfl rfl rfl ?_
      refine xg_iast 29 dX7_keep_28 rfl q0 (by rw [r0]; omega) ?_
      refine xg_aloadn 30 dX7_keep_29 rfl rfl rfl ?_
      refine xg_getP 33 kf_RX7_15 dX7_keep_30 rfl s0 p1 ?_
      refine xg_aloadn 34 dX7_keep_33 rfl rfl rfl ?_
      refine xg_getI 37 kf_RX7_25 dX7_keep_34 rfl s0 ?_
      refine xg_iloadn 38 dX7_keep_37 rfl rfl rfl ?_
      refine xg_iast 39 dX7_keep_38 rfl q1 (by rw [r1]; omega) ?_
      refine xg_aloadn 40 dX7_keep_39 rfl rfl rfl ?_
      refine xg_getP 43 kf_RX7_18 dX7_keep_40 rfl s0 p2 ?_
      refine xg_aloadn 44 dX7_keep_43 rfl rfl rfl ?_
      refine xg_getI 47 kf_RX7_25 dX7_keep_44 rfl s0 ?_
      refine xg_iloadn 48 dX7_keep_47 rfl rfl rfl ?_
      refine xg_iast 49 dX7_keep_48 rfl q2 (by rw [r2]; omega) ?_
      refine xg_aloadn 50 dX7_keep_49 rfl rfl rfl ?_
      refine xg_dup 51 dX7_keep_50 rfl rfl ?_
      refine xg_getI 54 kf_RX7_25 dX7_keep_51 rfl s0 ?_
      refine xg_iconst 55 dX7_keep_54 rfl ?_
      refine xg_iadd 56 dX7_keep_55 rfl ?_
      refine xg_putI 59 kf_RX7_25 dX7_keep_56 rfl s0 ?_
      subst hX
      exact xg_return dX7_keep_59 rfl ⟨Nat.le_refl _, Nat.le_refl _⟩ ⟨rfl, rfl⟩

