/-- u, but n cells from off on are those of w -/
def wCo (u w : Int → Int) (off n : Int) : Int → Int := fun j => if off ≤ j ∧ j < off + n then w (j - off) else u j
theorem wCo_0 (u w : Int → Int) (off : Int) : wCo u w off 0 = u := by funext j; exact if_neg (by omega)
theorem wCo_s (u w : Int → Int) (off k : Int) (hk : 0 ≤ k) : wS (wCo u w off k) (off + k) (w k) = wCo u w off (k + 1) := by
  funext j
  unfold wS wCo
  by_cases hj : j = off + k
  · rw [if_pos hj, if_pos (by omega)]; congr 1; omega
  · rw [if_neg hj]
    by_cases h1 : off ≤ j ∧ j < off + k
    · rw [if_pos h1, if_pos (by omega)]
    · rw [if_neg h1, if_neg (by omega)]
theorem wCo_s0 (u w : Int → Int) (k : Int) (hk : 0 ≤ k) : wS (wCo u w 0 k) k (w k) = wCo u w 0 (k + 1) := by
  have := wCo_s u w 0 k hk
  rwa [Int.zero_add] at this
/-- all one act back -/
def wSb (u : Int → Int) (n : Int) : Int → Int := fun j => if 0 ≤ j ∧ j < n then u (j + 1903) else u j
theorem wSb_0 (u : Int → Int) : wSb u 0 = u := by funext j; exact if_neg (by omega)
theorem wSb_s (u : Int → Int) (k : Int) (hk : 0 ≤ k) : wS (wSb u k) k (wSb u k (k + 1903)) = wSb u (k + 1) := by
  have e : wSb u k (k + 1903) = u (k + 1903) := if_neg (by omega)
  funext j
  rw [e]
  unfold wS wSb
  by_cases hj : j = k
  · subst hj; rw [if_pos rfl, if_pos (by omega)]
  · rw [if_neg hj]
    by_cases h1 : 0 ≤ j ∧ j < k
    · rw [if_pos h1, if_pos (by omega)]
    · rw [if_neg h1, if_neg (by omega)]
def sActs (u w : Int → Int) (rem : Int) : Int → Int := if rem = 12 then wCo (wSb u 20933) w (1903 * (12 - 1)) 1903 else wCo u w (1903 * (rem + 1 - 1)) 1903
def fRem (F : Nat → Nat → Int) (m : Nat) : Nat → Nat → Int := if F m 7 = 12 then F else upF F m 7 (F m 7 + 1)
section XV
variable {E : xE} {M : xM} {R : Room} {X : xX} {pc : Nat} {L : List (Option Value)} {st : List Value} {z : Nat} {T : Nat → Nat × Int} {F : Nat → Nat → Int} {I : Nat → Int → Int} {P : Nat → Nat → Option Nat} {Y : Nat → Int → Option Nat} {c n : Nat}
theorem xg_own (a b : Nat) {w : Int → Int} (kk : xG E M R X pc L st (z, T, F, upA (upA I a (I a)) b w, P, Y) c n) : xG E M R X pc L st (z, T, F, upA I b w, P, Y) c n := by rw [upA_id] at kk; exact kk
end XV
theorem dX12_image_0 : decode cX12_image 0 = .ok (.aload_n 0, 1) := by decide +kernel
theorem dX12_image_1 : decode cX12_image 1 = .ok (.iconst 0, 1) := by decide +kernel
theorem dX12_image_2 : decode cX12_image 2 = .ok (.putfield 3, 3) := by decide +kernel
theorem dX12_image_5 : decode cX12_image 5 = .ok (.iconst 0, 1) := by decide +kernel
theorem dX12_image_6 : decode cX12_image 6 = .ok (.istore_n 1, 1) := by decide +kernel
theorem dX12_image_7 : decode cX12_image 7 = .ok (.iload_n 1, 1) := by decide +kernel
theorem dX12_image_8 : decode cX12_image 8 = .ok (.sipush 2752, 3) := by decide +kernel
theorem dX12_image_11 : decode cX12_image 11 = .ok (.if_icmp .ge 21, 3) := by decide +kernel
theorem dX12_image_14 : decode cX12_image 14 = .ok (.aload_n 0, 1) := by decide +kernel
theorem dX12_image_15 : decode cX12_image 15 = .ok (.getfield 17, 3) := by decide +kernel
theorem dX12_image_18 : decode cX12_image 18 = .ok (.iload_n 1, 1) := by decide +kernel
theorem dX12_image_19 : decode cX12_image 19 = .ok (.aload_n 0, 1) := by decide +kernel
theorem dX12_image_20 : decode cX12_image 20 = .ok (.getfield 13, 3) := by decide +kernel
theorem dX12_image_23 : decode cX12_image 23 = .ok (.iload_n 1, 1) := by decide +kernel
theorem dX12_image_24 : decode cX12_image 24 = .ok (.iaload, 1) := by decide +kernel
theorem dX12_image_25 : decode cX12_image 25 = .ok (.iastore, 1) := by decide +kernel
theorem dX12_image_26 : decode cX12_image 26 = .ok (.iinc 1 1, 3) := by decide +kernel
theorem dX12_image_29 : decode cX12_image 29 = .ok (.goto (-22), 3) := by decide +kernel
theorem dX12_image_32 : decode cX12_image 32 = .ok (.aload_n 0, 1) := by decide +kernel
theorem dX12_image_33 : decode cX12_image 33 = .ok (.iconst 1, 1) := by decide +kernel
theorem dX12_image_34 : decode cX12_image 34 = .ok (.putfield 55, 3) := by decide +kernel
theorem dX12_image_37 : decode cX12_image 37 = .ok (.return_, 1) := by decide +kernel
set_option maxHeartbeats 4000000 in
set_option maxRecDepth 100000 in
theorem ct_X12_image {E : xE} {z : Nat} {T : Nat → Nat × Int} {F : Nat → Nat → Int} {I : Nat → Int → Int} {P : Nat → Nat → Option Nat} {Y : Nat → Int → Option Nat} {m : Nat} {w : Int → Int} (hw : wM T P m) : Ct E 0 mX12_image 0 0 [.ref m] (z, T, F, upA I (m + 1) w, P, Y) (xd none (z, T, upF (upF F m 0 0) m 6 1, upA (upA I (m + 2) (wCo (I (m + 2)) w 0 2752)) (m + 1) (w), P, Y)) := by
  obtain ⟨⟨q0, q1, q2, q3⟩, ⟨v1, v2, v3⟩, -⟩ := id hw
  have v4 : m + 2 ≠ m + 1 := by omega
  refine Ct.of [some (.ref m), none] kt_X12_image rfl (Nat.le_of_ble_eq_true rfl) rfl (fun d hd => ?_)
  generalize hX : xN E _ _ _ = X
  refine xg_aloadn 1 dX12_image_0 rfl rfl rfl ?_
  refine xg_iconst 2 dX12_image_1 rfl ?_
  refine xg_putI 5 kf_RX12_3 dX12_image_2 rfl (by assumption) ?_
  refine xg_own (m + 2) (m + 1) ?_
  refine xg_iconst 6 dX12_image_5 rfl ?_
  refine xg_istoren 7 _ dX12_image_6 rfl rfl rfl (by decide) (Or.inr rfl) ?_
  have loop7 : ∀ (mm : Nat) (k : Int), (0 ≤ k ∧ k ≤ 2752) → 2752 - k < (mm : Int) → xG E mX12_image (xR d 0 0) X 7 [some (.ref m), some (J k)] [] (z, T, upF F m 0 0, upA (upA I (m + 2) (wCo (I (m + 2)) w 0 k)) (m + 1) (w), P, Y) 0 0 := by
    intro mm
    induction mm with
    | zero => intro k hk hm; exfalso; omega
    | succ mm ih =>
      intro k hk hm
      refine xg_iloadn 8 dX12_image_7 rfl rfl rfl ?_
      refine xg_sipush 11 dX12_image_8 rfl (by decide) ?_
      refine xg_icge 32 14 dX12_image_11 rfl rfl (by first | omega | exact hR _ | exact ⟨hR _, by omega⟩ | exact ⟨by omega, hR _⟩ | exact ⟨hR _, hR _⟩) (fun hb11 => ?_) (fun hb11 => ?_)
      · skip
        refine xg_aloadn 33 dX12_image_32 rfl rfl rfl ?_
        refine xg_iconst 34 dX12_image_33 rfl ?_
        refine xg_putZ 37 kf_RX12_55 dX12_image_34 rfl (by assumption) (by omega) ?_
        subst hX
        exact xg_return dX12_image_37 rfl ⟨Nat.le_refl _, Nat.le_refl _⟩ ⟨rfl, by rw [show k = 2752 by omega]⟩
      · skip
        refine xg_aloadn 15 dX12_image_14 rfl rfl rfl ?_
        refine xg_getP 18 kf_RX12_17 dX12_image_15 rfl (by assumption) (by assumption) ?_
        refine xg_iloadn 19 dX12_image_18 rfl rfl rfl ?_
        refine xg_aloadn 20 dX12_image_19 rfl rfl rfl ?_
        refine xg_getP 23 kf_RX12_13 dX12_image_20 rfl (by assumption) (by assumption) ?_
        refine xg_iloadn 24 dX12_image_23 rfl rfl rfl ?_
        refine xg_ialdW 25 dX12_image_24 rfl (by assumption) (by first | omega | exact hR _ | exact ⟨hR _, by omega⟩ | exact ⟨by omega, hR _⟩ | exact ⟨hR _, hR _⟩) ?_
        refine xg_iastU 26 dX12_image_25 rfl ⟨v2, v4⟩ (by first | omega | exact hR _ | exact ⟨hR _, by omega⟩ | exact ⟨by omega, hR _⟩ | exact ⟨hR _, hR _⟩) ?_
        refine xg_iinc 29 _ dX12_image_26 rfl rfl rfl rfl (by decide) (Or.inr rfl) ?_
        refine xg_goto 7 dX12_image_29 rfl ?_
        rw [wCo_s0 _ _ _ hk.1]
        exact xg_weak _ (xle_s rfl (xle_s rfl xle_0)) (ih (k + 1) (by omega) (by omega))
  have l0 := loop7 3000 0 (by omega) (by omega)
  rw [wCo_0] at l0
  exact xg_weak _ (xle_s rfl (xle_s rfl xle_0)) l0

theorem dX12_back_0 : decode cX12_back 0 = .ok (.aload_n 0, 1) := by decide +kernel
theorem dX12_back_1 : decode cX12_back 1 = .ok (.iconst 0, 1) := by decide +kernel
theorem dX12_back_2 : decode cX12_back 2 = .ok (.putfield 3, 3) := by decide +kernel
theorem dX12_back_5 : decode cX12_back 5 = .ok (.aload_n 0, 1) := by decide +kernel
theorem dX12_back_6 : decode cX12_back 6 = .ok (.getfield 55, 3) := by decide +kernel
theorem dX12_back_9 : decode cX12_back 9 = .ok (.ifCond .ne 5, 3) := by decide +kernel
theorem dX12_back_12 : decode cX12_back 12 = .ok (.iconst 0, 1) := by decide +kernel
theorem dX12_back_13 : decode cX12_back 13 = .ok (.ireturn, 1) := by decide +kernel
theorem dX12_back_14 : decode cX12_back 14 = .ok (.iconst 0, 1) := by decide +kernel
theorem dX12_back_15 : decode cX12_back 15 = .ok (.istore_n 1, 1) := by decide +kernel
theorem dX12_back_16 : decode cX12_back 16 = .ok (.iload_n 1, 1) := by decide +kernel
theorem dX12_back_17 : decode cX12_back 17 = .ok (.sipush 2752, 3) := by decide +kernel
theorem dX12_back_20 : decode cX12_back 20 = .ok (.if_icmp .ge 21, 3) := by decide +kernel
theorem dX12_back_23 : decode cX12_back 23 = .ok (.aload_n 0, 1) := by decide +kernel
theorem dX12_back_24 : decode cX12_back 24 = .ok (.getfield 13, 3) := by decide +kernel
theorem dX12_back_27 : decode cX12_back 27 = .ok (.iload_n 1, 1) := by decide +kernel
theorem dX12_back_28 : decode cX12_back 28 = .ok (.aload_n 0, 1) := by decide +kernel
theorem dX12_back_29 : decode cX12_back 29 = .ok (.getfield 17, 3) := by decide +kernel
theorem dX12_back_32 : decode cX12_back 32 = .ok (.iload_n 1, 1) := by decide +kernel
theorem dX12_back_33 : decode cX12_back 33 = .ok (.iaload, 1) := by decide +kernel
theorem dX12_back_34 : decode cX12_back 34 = .ok (.iastore, 1) := by decide +kernel
theorem dX12_back_35 : decode cX12_back 35 = .ok (.iinc 1 1, 3) := by decide +kernel
theorem dX12_back_38 : decode cX12_back 38 = .ok (.goto (-22), 3) := by decide +kernel
theorem dX12_back_41 : decode cX12_back 41 = .ok (.aload_n 0, 1) := by decide +kernel
theorem dX12_back_42 : decode cX12_back 42 = .ok (.iconst 0, 1) := by decide +kernel
theorem dX12_back_43 : decode cX12_back 43 = .ok (.putfield 59, 3) := by decide +kernel
theorem dX12_back_46 : decode cX12_back 46 = .ok (.iconst 1, 1) := by decide +kernel
theorem dX12_back_47 : decode cX12_back 47 = .ok (.ireturn, 1) := by decide +kernel
set_option maxHeartbeats 4000000 in
set_option maxRecDepth 100000 in
theorem ct_X12_back {E : xE} {z : Nat} {T : Nat → Nat × Int} {F : Nat → Nat → Int} {I : Nat → Int → Int} {P : Nat → Nat → Option Nat} {Y : Nat → Int → Option Nat} {m : Nat} {w : Int → Int} (hw : wM T P m) (hb : F m 6 = 1) : Ct E 0 mX12_back 0 0 [.ref m] (z, T, F, upA I (m + 1) w, P, Y) (xd (some (J 1)) (z, T, upF (upF F m 0 0) m 7 0, upA I (m + 1) (wCo w (I (m + 2)) 0 2752), P, Y)) := by
  obtain ⟨⟨q0, q1, q2, q3⟩, ⟨v1, v2, v3⟩, -⟩ := id hw
  have v4 : m + 2 ≠ m + 1 := by omega
  refine Ct.of [some (.ref m), none] kt_X12_back rfl (Nat.le_of_ble_eq_true rfl) rfl (fun d hd => ?_)
  generalize hX : xN E _ _ _ = X
  refine xg_aloadn 1 dX12_back_0 rfl rfl rfl ?_
  refine xg_iconst 2 dX12_back_1 rfl ?_
  refine xg_putI 5 kf_RX12_3 dX12_back_2 rfl (by assumption) ?_
  refine xg_aloadn 6 dX12_back_5 rfl rfl rfl ?_
  refine xg_getI 9 kf_RX12_55 dX12_back_6 rfl (by assumption) ?_
  rw [upF_nk _ _ _ _ (show (6 : Nat) ≠ 0 by decide)]
  refine xg_ifne 14 12 dX12_back_9 rfl rfl (by first | omega | exact hR _ | exact ⟨hR _, by omega⟩ | exact ⟨by omega, hR _⟩ | exact ⟨hR _, hR _⟩) (fun hb9 => ?_) (fun hb9 => ?_)
  · first
    | (exfalso; omega)
    | skip
      refine xg_own (m + 2) (m + 1) ?_
      refine xg_iconst 15 dX12_back_14 rfl ?_
      refine xg_istoren 16 _ dX12_back_15 rfl rfl rfl (by decide) (Or.inr rfl) ?_
      have loop16 : ∀ (mm : Nat) (k : Int), (0 ≤ k ∧ k ≤ 2752) → 2752 - k < (mm : Int) → xG E mX12_back (xR d 0 0) X 16 [some (.ref m), some (J k)] [] (z, T, upF F m 0 0, upA (upA I (m + 2) (I (m + 2))) (m + 1) (wCo w (I (m + 2)) 0 k), P, Y) 0 0 := by
        intro mm
        induction mm with
        | zero => intro k hk hm; exfalso; omega
        | succ mm ih =>
          intro k hk hm
          refine xg_iloadn 17 dX12_back_16 rfl rfl rfl ?_
          refine xg_sipush 20 dX12_back_17 rfl (by decide) ?_
          refine xg_icge 41 23 dX12_back_20 rfl rfl (by first | omega | exact hR _ | exact ⟨hR _, by omega⟩ | exact ⟨by omega, hR _⟩ | exact ⟨hR _, hR _⟩) (fun hb20 => ?_) (fun hb20 => ?_)
          · skip
            refine xg_aloadn 42 dX12_back_41 rfl rfl rfl ?_
            refine xg_iconst 43 dX12_back_42 rfl ?_
            refine xg_putI 46 kf_RX12_59 dX12_back_43 rfl (by assumption) ?_
            refine xg_iconst 47 dX12_back_46 rfl ?_
            subst hX
            exact xg_zreturn dX12_back_47 rfl (by first | exact bI_01 _ | omega) ⟨Nat.le_refl _, Nat.le_refl _⟩ ⟨rfl, by rw [show k = 2752 by omega, upA_id]⟩
          · skip
            refine xg_aloadn 24 dX12_back_23 rfl rfl rfl ?_
            refine xg_getP 27 kf_RX12_13 dX12_back_24 rfl (by assumption) (by assumption) ?_
            refine xg_iloadn 28 dX12_back_27 rfl rfl rfl ?_
            refine xg_aloadn 29 dX12_back_28 rfl rfl rfl ?_
            refine xg_getP 32 kf_RX12_17 dX12_back_29 rfl (by assumption) (by assumption) ?_
            refine xg_iloadn 33 dX12_back_32 rfl rfl rfl ?_
            refine xg_ialdU 34 dX12_back_33 rfl ⟨v2, v4⟩ (by first | omega | exact hR _ | exact ⟨hR _, by omega⟩ | exact ⟨by omega, hR _⟩ | exact ⟨hR _, hR _⟩) ?_
            refine xg_iastW 35 dX12_back_34 rfl (by assumption) (by first | omega | exact hR _ | exact ⟨hR _, by omega⟩ | exact ⟨by omega, hR _⟩ | exact ⟨hR _, hR _⟩) ?_
            refine xg_iinc 38 _ dX12_back_35 rfl rfl rfl rfl (by decide) (Or.inr rfl) ?_
            refine xg_goto 16 dX12_back_38 rfl ?_
            rw [wCo_s0 _ _ _ hk.1]
            exact xg_weak _ (xle_s rfl (xle_s rfl xle_0)) (ih (k + 1) (by omega) (by omega))
      have l0 := loop16 3000 0 (by omega) (by omega)
      rw [wCo_0] at l0
      exact xg_weak _ (xle_s rfl (xle_s rfl xle_0)) l0
  · first
    | (exfalso; omega)
    | skip
      exfalso; omega

set_option maxHeartbeats 4000000 in
set_option maxRecDepth 100000 in
theorem ct_X12_back_f {E : xE} {z : Nat} {T : Nat → Nat × Int} {F : Nat → Nat → Int} {I : Nat → Int → Int} {P : Nat → Nat → Option Nat} {Y : Nat → Int → Option Nat} {m : Nat} {w : Int → Int} (hw : wM T P m) (hb : F m 6 = 0) : Ct E 0 mX12_back 0 0 [.ref m] (z, T, F, upA I (m + 1) w, P, Y) (xd (some (J 0)) (z, T, upF F m 0 0, upA I (m + 1) (w), P, Y)) := by
  obtain ⟨⟨q0, q1, q2, q3⟩, -⟩ := id hw
  refine Ct.of [some (.ref m), none] kt_X12_back rfl (Nat.le_of_ble_eq_true rfl) rfl (fun d hd => ?_)
  generalize hX : xN E _ _ _ = X
  refine xg_aloadn 1 dX12_back_0 rfl rfl rfl ?_
  refine xg_iconst 2 dX12_back_1 rfl ?_
  refine xg_putI 5 kf_RX12_3 dX12_back_2 rfl (by assumption) ?_
  refine xg_aloadn 6 dX12_back_5 rfl rfl rfl ?_
  refine xg_getI 9 kf_RX12_55 dX12_back_6 rfl (by assumption) ?_
  rw [upF_nk _ _ _ _ (show (6 : Nat) ≠ 0 by decide)]
  refine xg_ifne 14 12 dX12_back_9 rfl rfl (by first | omega | exact hR _ | exact ⟨hR _, by omega⟩ | exact ⟨by omega, hR _⟩ | exact ⟨hR _, hR _⟩) (fun hb9 => ?_) (fun hb9 => ?_)
  · first
    | (exfalso; omega)
    | skip
      exfalso; omega
  · first
    | (exfalso; omega)
    | skip
      refine xg_iconst 13 dX12_back_12 rfl ?_
      subst hX
      exact xg_zreturn dX12_back_13 rfl (by first | exact bI_01 _ | omega) ⟨Nat.le_refl _, Nat.le_refl _⟩ ⟨rfl, rfl⟩

theorem dX12_remembers_0 : decode cX12_remembers 0 = .ok (.aload_n 0, 1) := by decide +kernel
theorem dX12_remembers_1 : decode cX12_remembers 1 = .ok (.getfield 59, 3) := by decide +kernel
theorem dX12_remembers_4 : decode cX12_remembers 4 = .ok (.bipush 12, 2) := by decide +kernel
theorem dX12_remembers_6 : decode cX12_remembers 6 = .ok (.if_icmp .ne 37, 3) := by decide +kernel
theorem dX12_remembers_9 : decode cX12_remembers 9 = .ok (.iconst 0, 1) := by decide +kernel
theorem dX12_remembers_10 : decode cX12_remembers 10 = .ok (.istore_n 1, 1) := by decide +kernel
theorem dX12_remembers_11 : decode cX12_remembers 11 = .ok (.iload_n 1, 1) := by decide +kernel
theorem dX12_remembers_12 : decode cX12_remembers 12 = .ok (.sipush 20933, 3) := by decide +kernel
theorem dX12_remembers_15 : decode cX12_remembers 15 = .ok (.if_icmp .ge 25, 3) := by decide +kernel
theorem dX12_remembers_18 : decode cX12_remembers 18 = .ok (.aload_n 0, 1) := by decide +kernel
theorem dX12_remembers_19 : decode cX12_remembers 19 = .ok (.getfield 26, 3) := by decide +kernel
theorem dX12_remembers_22 : decode cX12_remembers 22 = .ok (.iload_n 1, 1) := by decide +kernel
theorem dX12_remembers_23 : decode cX12_remembers 23 = .ok (.aload_n 0, 1) := by decide +kernel
theorem dX12_remembers_24 : decode cX12_remembers 24 = .ok (.getfield 26, 3) := by decide +kernel
theorem dX12_remembers_27 : decode cX12_remembers 27 = .ok (.iload_n 1, 1) := by decide +kernel
theorem dX12_remembers_28 : decode cX12_remembers 28 = .ok (.sipush 1903, 3) := by decide +kernel
theorem dX12_remembers_31 : decode cX12_remembers 31 = .ok (.iadd, 1) := by decide +kernel
theorem dX12_remembers_32 : decode cX12_remembers 32 = .ok (.iaload, 1) := by decide +kernel
theorem dX12_remembers_33 : decode cX12_remembers 33 = .ok (.iastore, 1) := by decide +kernel
theorem dX12_remembers_34 : decode cX12_remembers 34 = .ok (.iinc 1 1, 3) := by decide +kernel
theorem dX12_remembers_37 : decode cX12_remembers 37 = .ok (.goto (-26), 3) := by decide +kernel
theorem dX12_remembers_40 : decode cX12_remembers 40 = .ok (.goto 13, 3) := by decide +kernel
theorem dX12_remembers_43 : decode cX12_remembers 43 = .ok (.aload_n 0, 1) := by decide +kernel
theorem dX12_remembers_44 : decode cX12_remembers 44 = .ok (.dup, 1) := by decide +kernel
theorem dX12_remembers_45 : decode cX12_remembers 45 = .ok (.getfield 59, 3) := by decide +kernel
theorem dX12_remembers_48 : decode cX12_remembers 48 = .ok (.iconst 1, 1) := by decide +kernel
theorem dX12_remembers_49 : decode cX12_remembers 49 = .ok (.iadd, 1) := by decide +kernel
theorem dX12_remembers_50 : decode cX12_remembers 50 = .ok (.putfield 59, 3) := by decide +kernel
theorem dX12_remembers_53 : decode cX12_remembers 53 = .ok (.iconst 0, 1) := by decide +kernel
theorem dX12_remembers_54 : decode cX12_remembers 54 = .ok (.istore_n 1, 1) := by decide +kernel
theorem dX12_remembers_55 : decode cX12_remembers 55 = .ok (.iload_n 1, 1) := by decide +kernel
theorem dX12_remembers_56 : decode cX12_remembers 56 = .ok (.sipush 1903, 3) := by decide +kernel
theorem dX12_remembers_59 : decode cX12_remembers 59 = .ok (.if_icmp .ge 32, 3) := by decide +kernel
theorem dX12_remembers_62 : decode cX12_remembers 62 = .ok (.aload_n 0, 1) := by decide +kernel
theorem dX12_remembers_63 : decode cX12_remembers 63 = .ok (.getfield 26, 3) := by decide +kernel
theorem dX12_remembers_66 : decode cX12_remembers 66 = .ok (.sipush 1903, 3) := by decide +kernel
theorem dX12_remembers_69 : decode cX12_remembers 69 = .ok (.aload_n 0, 1) := by decide +kernel
theorem dX12_remembers_70 : decode cX12_remembers 70 = .ok (.getfield 59, 3) := by decide +kernel
theorem dX12_remembers_73 : decode cX12_remembers 73 = .ok (.iconst 1, 1) := by decide +kernel
theorem dX12_remembers_74 : decode cX12_remembers 74 = .ok (.isub, 1) := by decide +kernel
theorem dX12_remembers_75 : decode cX12_remembers 75 = .ok (.imul, 1) := by decide +kernel
theorem dX12_remembers_76 : decode cX12_remembers 76 = .ok (.iload_n 1, 1) := by decide +kernel
theorem dX12_remembers_77 : decode cX12_remembers 77 = .ok (.iadd, 1) := by decide +kernel
theorem dX12_remembers_78 : decode cX12_remembers 78 = .ok (.aload_n 0, 1) := by decide +kernel
theorem dX12_remembers_79 : decode cX12_remembers 79 = .ok (.getfield 13, 3) := by decide +kernel
theorem dX12_remembers_82 : decode cX12_remembers 82 = .ok (.iload_n 1, 1) := by decide +kernel
theorem dX12_remembers_83 : decode cX12_remembers 83 = .ok (.iaload, 1) := by decide +kernel
theorem dX12_remembers_84 : decode cX12_remembers 84 = .ok (.iastore, 1) := by decide +kernel
theorem dX12_remembers_85 : decode cX12_remembers 85 = .ok (.iinc 1 1, 3) := by decide +kernel
theorem dX12_remembers_88 : decode cX12_remembers 88 = .ok (.goto (-33), 3) := by decide +kernel
theorem dX12_remembers_91 : decode cX12_remembers 91 = .ok (.return_, 1) := by decide +kernel
set_option maxHeartbeats 4000000 in
set_option maxRecDepth 100000 in
theorem ct_X12_remembers {E : xE} {z : Nat} {T : Nat → Nat × Int} {F : Nat → Nat → Int} {I : Nat → Int → Int} {P : Nat → Nat → Option Nat} {Y : Nat → Int → Option Nat} {m : Nat} {w : Int → Int} (hw : wM T P m) (h7 : 0 ≤ F m 7 ∧ F m 7 ≤ 12) : Ct E 0 mX12_remembers 0 0 [.ref m] (z, T, F, upA I (m + 1) w, P, Y) (xd none (z, T, fRem F m, upA (upA I (m + 5) (sActs (I (m + 5)) w (F m 7))) (m + 1) (w), P, Y)) := by
  obtain ⟨⟨q0, q1, q2, q3⟩, -, -, -, ⟨v1, v2, v3⟩, -⟩ := id hw
  have v4 : m + 5 ≠ m + 1 := by omega
  have hmul : 0 ≤ 1903 * (F m 7 + 1 - 1) ∧ 1903 * (F m 7 + 1 - 1) ≤ 1903 * 12 := by omega
  refine Ct.of [some (.ref m), none] kt_X12_remembers rfl (Nat.le_of_ble_eq_true rfl) rfl (fun d hd => ?_)
  generalize hX : xN E _ _ _ = X
  refine xg_own (m + 5) (m + 1) ?_
  refine xg_aloadn 1 dX12_remembers_0 rfl rfl rfl ?_
  refine xg_getI 4 kf_RX12_59 dX12_remembers_1 rfl (by assumption) ?_
  refine xg_bipush 6 dX12_remembers_4 rfl (by decide) ?_
  refine xg_icne 43 9 dX12_remembers_6 rfl rfl (by first | omega | exact hR _ | exact ⟨hR _, by omega⟩ | exact ⟨by omega, hR _⟩ | exact ⟨hR _, hR _⟩) (fun hb6 => ?_) (fun hb6 => ?_)
  · skip
    refine xg_aloadn 44 dX12_remembers_43 rfl rfl rfl ?_
    refine xg_dup 45 dX12_remembers_44 rfl rfl ?_
    refine xg_getI 48 kf_RX12_59 dX12_remembers_45 rfl (by assumption) ?_
    refine xg_iconst 49 dX12_remembers_48 rfl ?_
    refine xg_iadd 50 dX12_remembers_49 rfl ?_
    refine xg_putI 53 kf_RX12_59 dX12_remembers_50 rfl (by assumption) ?_
    refine xg_iconst 54 dX12_remembers_53 rfl ?_
    refine xg_istoren 55 _ dX12_remembers_54 rfl rfl rfl (by decide) (Or.inr rfl) ?_
    have loop55 : ∀ (mm : Nat) (k : Int) (G : Nat → Nat → Int) (u : Int → Int), (0 ≤ k ∧ k ≤ 1903) → (1 ≤ G m 7 ∧ G m 7 ≤ 12) → (G = fRem F m ∧ wCo u w (1903 * (G m 7 - 1)) 1903 = sActs (I (m + 5)) w (F m 7)) → 1903 - k < (mm : Int) → xG E mX12_remembers (xR d 0 0) X 55 [some (.ref m), some (J k)] [] (z, T, G, upA (upA I (m + 5) (wCo u w (1903 * (G m 7 - 1)) k)) (m + 1) (w), P, Y) 0 0 := by
      intro mm
      induction mm with
      | zero => intro k G u hk hG7 hGu hm; exfalso; omega
      | succ mm ih =>
        intro k G u hk hG7 hGu hm
        have hmg : 0 ≤ 1903 * (G m 7 - 1) ∧ 1903 * (G m 7 - 1) ≤ 20933 := by omega
        refine xg_iloadn 56 dX12_remembers_55 rfl rfl rfl ?_
        refine xg_sipush 59 dX12_remembers_56 rfl (by decide) ?_
        refine xg_icge 91 62 dX12_remembers_59 rfl rfl (by first | omega | exact hR _ | exact ⟨hR _, by omega⟩ | exact ⟨by omega, hR _⟩ | exact ⟨hR _, hR _⟩) (fun hb59 => ?_) (fun hb59 => ?_)
        · skip
          subst hX
          exact xg_return dX12_remembers_91 rfl ⟨Nat.le_refl _, Nat.le_refl _⟩ ⟨rfl, by rw [show k = 1903 by omega, hGu.2, hGu.1]⟩
        · skip
          refine xg_aloadn 63 dX12_remembers_62 rfl rfl rfl ?_
          refine xg_getP 66 kf_RX12_26 dX12_remembers_63 rfl (by assumption) (by assumption) ?_
          refine xg_sipush 69 dX12_remembers_66 rfl (by decide) ?_
          refine xg_aloadn 70 dX12_remembers_69 rfl rfl rfl ?_
          refine xg_getI 73 kf_RX12_59 dX12_remembers_70 rfl (by assumption) ?_
          refine xg_iconst 74 dX12_remembers_73 rfl ?_
          refine xg_isub 75 dX12_remembers_74 rfl ?_
          refine xg_imul 76 dX12_remembers_75 rfl ?_
          refine xg_iloadn 77 dX12_remembers_76 rfl rfl rfl ?_
          refine xg_iadd 78 dX12_remembers_77 rfl ?_
          refine xg_aloadn 79 dX12_remembers_78 rfl rfl rfl ?_
          refine xg_getP 82 kf_RX12_13 dX12_remembers_79 rfl (by assumption) (by assumption) ?_
          refine xg_iloadn 83 dX12_remembers_82 rfl rfl rfl ?_
          refine xg_ialdW 84 dX12_remembers_83 rfl (by assumption) (by first | omega | exact hR _ | exact ⟨hR _, by omega⟩ | exact ⟨by omega, hR _⟩ | exact ⟨hR _, hR _⟩) ?_
          refine xg_iastU 85 dX12_remembers_84 rfl ⟨v2, v4⟩ (by first | omega | exact hR _ | exact ⟨hR _, by omega⟩ | exact ⟨by omega, hR _⟩ | exact ⟨hR _, hR _⟩) ?_
          refine xg_iinc 88 _ dX12_remembers_85 rfl rfl rfl rfl (by decide) (Or.inr rfl) ?_
          refine xg_goto 55 dX12_remembers_88 rfl ?_
          rw [wCo_s _ _ _ _ hk.1]
          exact xg_weak _ (xle_s rfl (xle_s rfl xle_0)) (ih (k + 1) G u (by omega) hG7 hGu (by omega))
    have e7 : upF F m 7 (F m 7 + 1) m 7 = F m 7 + 1 := upF_at _ _ _ _
    have l0 := loop55 2000 0 (upF F m 7 (F m 7 + 1)) (I (m + 5)) (by omega) (by rw [e7]; omega) ⟨by unfold fRem; rw [if_neg hb6], by unfold sActs; rw [if_neg hb6, e7]⟩ (by omega)
    rw [wCo_0] at l0
    exact xg_weak _ (xle_s rfl (xle_s rfl xle_0)) l0
  · skip
    refine xg_iconst 10 dX12_remembers_9 rfl ?_
    refine xg_istoren 11 _ dX12_remembers_10 rfl rfl rfl (by decide) (Or.inr rfl) ?_
    have loop11 : ∀ (mm : Nat) (k : Int), (0 ≤ k ∧ k ≤ 20933) → 20933 - k < (mm : Int) → xG E mX12_remembers (xR d 0 0) X 11 [some (.ref m), some (J k)] [] (z, T, F, upA (upA I (m + 5) (wSb (I (m + 5)) k)) (m + 1) (w), P, Y) 0 0 := by
      intro mm
      induction mm with
      | zero => intro k hk hm; exfalso; omega
      | succ mm ih =>
        intro k hk hm
        refine xg_iloadn 12 dX12_remembers_11 rfl rfl rfl ?_
        refine xg_sipush 15 dX12_remembers_12 rfl (by decide) ?_
        refine xg_icge 40 18 dX12_remembers_15 rfl rfl (by first | omega | exact hR _ | exact ⟨hR _, by omega⟩ | exact ⟨by omega, hR _⟩ | exact ⟨hR _, hR _⟩) (fun hb15 => ?_) (fun hb15 => ?_)
        · skip
          rw [show k = 20933 by omega]
          refine xg_goto 53 dX12_remembers_40 rfl ?_
          refine xg_iconst 54 dX12_remembers_53 rfl ?_
          refine xg_istoren 55 _ dX12_remembers_54 rfl rfl rfl (by decide) (Or.inr rfl) ?_
          have loop55 : ∀ (mm : Nat) (k : Int) (G : Nat → Nat → Int) (u : Int → Int), (0 ≤ k ∧ k ≤ 1903) → (1 ≤ G m 7 ∧ G m 7 ≤ 12) → (G = fRem F m ∧ wCo u w (1903 * (G m 7 - 1)) 1903 = sActs (I (m + 5)) w (F m 7)) → 1903 - k < (mm : Int) → xG E mX12_remembers (xR d 0 0) X 55 [some (.ref m), some (J k)] [] (z, T, G, upA (upA I (m + 5) (wCo u w (1903 * (G m 7 - 1)) k)) (m + 1) (w), P, Y) 0 0 := by
            intro mm
            induction mm with
            | zero => intro k G u hk hG7 hGu hm; exfalso; omega
            | succ mm ih =>
              intro k G u hk hG7 hGu hm
              have hmg : 0 ≤ 1903 * (G m 7 - 1) ∧ 1903 * (G m 7 - 1) ≤ 20933 := by omega
              refine xg_iloadn 56 dX12_remembers_55 rfl rfl rfl ?_
              refine xg_sipush 59 dX12_remembers_56 rfl (by decide) ?_
              refine xg_icge 91 62 dX12_remembers_59 rfl rfl (by first | omega | exact hR _ | exact ⟨hR _, by omega⟩ | exact ⟨by omega, hR _⟩ | exact ⟨hR _, hR _⟩) (fun hb59 => ?_) (fun hb59 => ?_)
              · skip
                subst hX
                exact xg_return dX12_remembers_91 rfl ⟨Nat.le_refl _, Nat.le_refl _⟩ ⟨rfl, by rw [show k = 1903 by omega, hGu.2, hGu.1]⟩
              · skip
                refine xg_aloadn 63 dX12_remembers_62 rfl rfl rfl ?_
                refine xg_getP 66 kf_RX12_26 dX12_remembers_63 rfl (by assumption) (by assumption) ?_
                refine xg_sipush 69 dX12_remembers_66 rfl (by decide) ?_
                refine xg_aloadn 70 dX12_remembers_69 rfl rfl rfl ?_
                refine xg_getI 73 kf_RX12_59 dX12_remembers_70 rfl (by assumption) ?_
                refine xg_iconst 74 dX12_remembers_73 rfl ?_
                refine xg_isub 75 dX12_remembers_74 rfl ?_
                refine xg_imul 76 dX12_remembers_75 rfl ?_
                refine xg_iloadn 77 dX12_remembers_76 rfl rfl rfl ?_
                refine xg_iadd 78 dX12_remembers_77 rfl ?_
                refine xg_aloadn 79 dX12_remembers_78 rfl rfl rfl ?_
                refine xg_getP 82 kf_RX12_13 dX12_remembers_79 rfl (by assumption) (by assumption) ?_
                refine xg_iloadn 83 dX12_remembers_82 rfl rfl rfl ?_
                refine xg_ialdW 84 dX12_remembers_83 rfl (by assumption) (by first | omega | exact hR _ | exact ⟨hR _, by omega⟩ | exact ⟨by omega, hR _⟩ | exact ⟨hR _, hR _⟩) ?_
                refine xg_iastU 85 dX12_remembers_84 rfl ⟨v2, v4⟩ (by first | omega | exact hR _ | exact ⟨hR _, by omega⟩ | exact ⟨by omega, hR _⟩ | exact ⟨hR _, hR _⟩) ?_
                refine xg_iinc 88 _ dX12_remembers_85 rfl rfl rfl rfl (by decide) (Or.inr rfl) ?_
                refine xg_goto 55 dX12_remembers_88 rfl ?_
                rw [wCo_s _ _ _ _ hk.1]
                exact xg_weak _ (xle_s rfl (xle_s rfl xle_0)) (ih (k + 1) G u (by omega) hG7 hGu (by omega))
          have l0 := loop55 2000 0 F (wSb (I (m + 5)) 20933) (by omega) (by omega) ⟨by unfold fRem; rw [if_pos hb6], by unfold sActs; rw [if_pos hb6, hb6]⟩ (by omega)
          rw [wCo_0] at l0
          exact xg_weak _ (xle_s rfl (xle_s rfl xle_0)) l0
        · skip
          refine xg_aloadn 19 dX12_remembers_18 rfl rfl rfl ?_
          refine xg_getP 22 kf_RX12_26 dX12_remembers_19 rfl (by assumption) (by assumption) ?_
          refine xg_iloadn 23 dX12_remembers_22 rfl rfl rfl ?_
          refine xg_aloadn 24 dX12_remembers_23 rfl rfl rfl ?_
          refine xg_getP 27 kf_RX12_26 dX12_remembers_24 rfl (by assumption) (by assumption) ?_
          refine xg_iloadn 28 dX12_remembers_27 rfl rfl rfl ?_
          refine xg_sipush 31 dX12_remembers_28 rfl (by decide) ?_
          refine xg_iadd 32 dX12_remembers_31 rfl ?_
          refine xg_ialdU 33 dX12_remembers_32 rfl ⟨v2, v4⟩ (by first | omega | exact hR _ | exact ⟨hR _, by omega⟩ | exact ⟨by omega, hR _⟩ | exact ⟨hR _, hR _⟩) ?_
          refine xg_iastU 34 dX12_remembers_33 rfl ⟨v2, v4⟩ (by first | omega | exact hR _ | exact ⟨hR _, by omega⟩ | exact ⟨by omega, hR _⟩ | exact ⟨hR _, hR _⟩) ?_
          refine xg_iinc 37 _ dX12_remembers_34 rfl rfl rfl rfl (by decide) (Or.inr rfl) ?_
          refine xg_goto 11 dX12_remembers_37 rfl ?_
          rw [wSb_s _ _ hk.1]
          exact xg_weak _ (xle_s rfl (xle_s rfl xle_0)) (ih (k + 1) (by omega) (by omega))
    have l0 := loop11 21000 0 (by omega) (by omega)
    rw [wSb_0] at l0
    exact xg_weak _ (xle_s rfl (xle_s rfl xle_0)) l0

theorem dX12_undo_0 : decode cX12_undo 0 = .ok (.aload_n 0, 1) := by decide +kernel
theorem dX12_undo_1 : decode cX12_undo 1 = .ok (.iconst 0, 1) := by decide +kernel
theorem dX12_undo_2 : decode cX12_undo 2 = .ok (.putfield 3, 3) := by decide +kernel
theorem dX12_undo_5 : decode cX12_undo 5 = .ok (.aload_n 0, 1) := by decide +kernel
theorem dX12_undo_6 : decode cX12_undo 6 = .ok (.getfield 59, 3) := by decide +kernel
theorem dX12_undo_9 : decode cX12_undo 9 = .ok (.ifCond .ne 5, 3) := by decide +kernel
theorem dX12_undo_12 : decode cX12_undo 12 = .ok (.iconst 0, 1) := by decide +kernel
theorem dX12_undo_13 : decode cX12_undo 13 = .ok (.ireturn, 1) := by decide +kernel
theorem dX12_undo_14 : decode cX12_undo 14 = .ok (.aload_n 0, 1) := by decide +kernel
theorem dX12_undo_15 : decode cX12_undo 15 = .ok (.dup, 1) := by decide +kernel
theorem dX12_undo_16 : decode cX12_undo 16 = .ok (.getfield 59, 3) := by decide +kernel
theorem dX12_undo_19 : decode cX12_undo 19 = .ok (.iconst 1, 1) := by decide +kernel
theorem dX12_undo_20 : decode cX12_undo 20 = .ok (.isub, 1) := by decide +kernel
theorem dX12_undo_21 : decode cX12_undo 21 = .ok (.putfield 59, 3) := by decide +kernel
theorem dX12_undo_24 : decode cX12_undo 24 = .ok (.iconst 0, 1) := by decide +kernel
theorem dX12_undo_25 : decode cX12_undo 25 = .ok (.istore_n 1, 1) := by decide +kernel
theorem dX12_undo_26 : decode cX12_undo 26 = .ok (.iload_n 1, 1) := by decide +kernel
theorem dX12_undo_27 : decode cX12_undo 27 = .ok (.sipush 1903, 3) := by decide +kernel
theorem dX12_undo_30 : decode cX12_undo 30 = .ok (.if_icmp .ge 30, 3) := by decide +kernel
theorem dX12_undo_33 : decode cX12_undo 33 = .ok (.aload_n 0, 1) := by decide +kernel
theorem dX12_undo_34 : decode cX12_undo 34 = .ok (.getfield 13, 3) := by decide +kernel
theorem dX12_undo_37 : decode cX12_undo 37 = .ok (.iload_n 1, 1) := by decide +kernel
theorem dX12_undo_38 : decode cX12_undo 38 = .ok (.aload_n 0, 1) := by decide +kernel
theorem dX12_undo_39 : decode cX12_undo 39 = .ok (.getfield 26, 3) := by decide +kernel
theorem dX12_undo_42 : decode cX12_undo 42 = .ok (.sipush 1903, 3) := by decide +kernel
theorem dX12_undo_45 : decode cX12_undo 45 = .ok (.aload_n 0, 1) := by decide +kernel
theorem dX12_undo_46 : decode cX12_undo 46 = .ok (.getfield 59, 3) := by decide +kernel
theorem dX12_undo_49 : decode cX12_undo 49 = .ok (.imul, 1) := by decide +kernel
theorem dX12_undo_50 : decode cX12_undo 50 = .ok (.iload_n 1, 1) := by decide +kernel
theorem dX12_undo_51 : decode cX12_undo 51 = .ok (.iadd, 1) := by decide +kernel
theorem dX12_undo_52 : decode cX12_undo 52 = .ok (.iaload, 1) := by decide +kernel
theorem dX12_undo_53 : decode cX12_undo 53 = .ok (.iastore, 1) := by decide +kernel
theorem dX12_undo_54 : decode cX12_undo 54 = .ok (.iinc 1 1, 3) := by decide +kernel
theorem dX12_undo_57 : decode cX12_undo 57 = .ok (.goto (-31), 3) := by decide +kernel
theorem dX12_undo_60 : decode cX12_undo 60 = .ok (.iconst 1, 1) := by decide +kernel
theorem dX12_undo_61 : decode cX12_undo 61 = .ok (.ireturn, 1) := by decide +kernel
set_option maxHeartbeats 4000000 in
set_option maxRecDepth 100000 in
theorem ct_X12_undo {E : xE} {z : Nat} {T : Nat → Nat × Int} {F : Nat → Nat → Int} {I : Nat → Int → Int} {P : Nat → Nat → Option Nat} {Y : Nat → Int → Option Nat} {m : Nat} {w : Int → Int} (hw : wM T P m) (h7 : 1 ≤ F m 7 ∧ F m 7 ≤ 12) : Ct E 0 mX12_undo 0 0 [.ref m] (z, T, F, upA I (m + 1) w, P, Y) (xd (some (J 1)) (z, T, upF (upF F m 0 0) m 7 (F m 7 - 1), upA I (m + 1) (wCo w (fun j => I (m + 5) (1903 * (F m 7 - 1) + j)) 0 1903), P, Y)) := by
  obtain ⟨⟨q0, q1, q2, q3⟩, -, -, -, ⟨v1, v2, v3⟩, -⟩ := id hw
  have v4 : m + 5 ≠ m + 1 := by omega
  refine Ct.of [some (.ref m), none] kt_X12_undo rfl (Nat.le_of_ble_eq_true rfl) rfl (fun d hd => ?_)
  generalize hX : xN E _ _ _ = X
  refine xg_aloadn 1 dX12_undo_0 rfl rfl rfl ?_
  refine xg_iconst 2 dX12_undo_1 rfl ?_
  refine xg_putI 5 kf_RX12_3 dX12_undo_2 rfl (by assumption) ?_
  refine xg_aloadn 6 dX12_undo_5 rfl rfl rfl ?_
  refine xg_getI 9 kf_RX12_59 dX12_undo_6 rfl (by assumption) ?_
  rw [upF_nk _ _ _ _ (show (7 : Nat) ≠ 0 by decide)]
  refine xg_ifne 14 12 dX12_undo_9 rfl rfl (by first | omega | exact hR _ | exact ⟨hR _, by omega⟩ | exact ⟨by omega, hR _⟩ | exact ⟨hR _, hR _⟩) (fun hb9 => ?_) (fun hb9 => ?_)
  · first
    | (exfalso; omega)
    | skip
      refine xg_aloadn 15 dX12_undo_14 rfl rfl rfl ?_
      refine xg_dup 16 dX12_undo_15 rfl rfl ?_
      refine xg_getI 19 kf_RX12_59 dX12_undo_16 rfl (by assumption) ?_
      rw [upF_nk _ _ _ _ (show (7 : Nat) ≠ 0 by decide)]
      refine xg_iconst 20 dX12_undo_19 rfl ?_
      refine xg_isub 21 dX12_undo_20 rfl ?_
      refine xg_putI 24 kf_RX12_59 dX12_undo_21 rfl (by assumption) ?_
      refine xg_own (m + 5) (m + 1) ?_
      refine xg_iconst 25 dX12_undo_24 rfl ?_
      refine xg_istoren 26 _ dX12_undo_25 rfl rfl rfl (by decide) (Or.inr rfl) ?_
      have loop26 : ∀ (mm : Nat) (k : Int), (0 ≤ k ∧ k ≤ 1903) → 1903 - k < (mm : Int) → xG E mX12_undo (xR d 0 0) X 26 [some (.ref m), some (J k)] [] (z, T, upF (upF F m 0 0) m 7 (F m 7 - 1), upA (upA I (m + 5) (I (m + 5))) (m + 1) (wCo w (fun j => I (m + 5) (1903 * (F m 7 - 1) + j)) 0 k), P, Y) 0 0 := by
        intro mm
        induction mm with
        | zero => intro k hk hm; exfalso; omega
        | succ mm ih =>
          intro k hk hm
          refine xg_iloadn 27 dX12_undo_26 rfl rfl rfl ?_
          refine xg_sipush 30 dX12_undo_27 rfl (by decide) ?_
          refine xg_icge 60 33 dX12_undo_30 rfl rfl (by first | omega | exact hR _ | exact ⟨hR _, by omega⟩ | exact ⟨by omega, hR _⟩ | exact ⟨hR _, hR _⟩) (fun hb30 => ?_) (fun hb30 => ?_)
          · skip
            refine xg_iconst 61 dX12_undo_60 rfl ?_
            subst hX
            exact xg_zreturn dX12_undo_61 rfl (by first | exact bI_01 _ | omega) ⟨Nat.le_refl _, Nat.le_refl _⟩ ⟨rfl, by rw [show k = 1903 by omega, upA_id]⟩
          · skip
            refine xg_aloadn 34 dX12_undo_33 rfl rfl rfl ?_
            refine xg_getP 37 kf_RX12_13 dX12_undo_34 rfl (by assumption) (by assumption) ?_
            refine xg_iloadn 38 dX12_undo_37 rfl rfl rfl ?_
            refine xg_aloadn 39 dX12_undo_38 rfl rfl rfl ?_
            refine xg_getP 42 kf_RX12_26 dX12_undo_39 rfl (by assumption) (by assumption) ?_
            refine xg_sipush 45 dX12_undo_42 rfl (by decide) ?_
            refine xg_aloadn 46 dX12_undo_45 rfl rfl rfl ?_
            refine xg_getI 49 kf_RX12_59 dX12_undo_46 rfl (by assumption) ?_
            rw [upF_at]
            refine xg_imul 50 dX12_undo_49 rfl ?_
            refine xg_iloadn 51 dX12_undo_50 rfl rfl rfl ?_
            refine xg_iadd 52 dX12_undo_51 rfl ?_
            refine xg_ialdU 53 dX12_undo_52 rfl ⟨v2, v4⟩ (by first | omega | exact hR _ | exact ⟨hR _, by omega⟩ | exact ⟨by omega, hR _⟩ | exact ⟨hR _, hR _⟩) ?_
            refine xg_iastW 54 dX12_undo_53 rfl (by assumption) (by first | omega | exact hR _ | exact ⟨hR _, by omega⟩ | exact ⟨by omega, hR _⟩ | exact ⟨hR _, hR _⟩) ?_
            refine xg_iinc 57 _ dX12_undo_54 rfl rfl rfl rfl (by decide) (Or.inr rfl) ?_
            refine xg_goto 26 dX12_undo_57 rfl ?_
            rw [wCo_s0 w (fun j => I (m + 5) (1903 * (F m 7 - 1) + j)) _ hk.1]
            exact xg_weak _ (xle_s rfl (xle_s rfl xle_0)) (ih (k + 1) (by omega) (by omega))
      have l0 := loop26 3000 0 (by omega) (by omega)
      rw [wCo_0] at l0
      exact xg_weak _ (xle_s rfl (xle_s rfl xle_0)) l0
  · first
    | (exfalso; omega)
    | skip
      exfalso; omega

set_option maxHeartbeats 4000000 in
set_option maxRecDepth 100000 in
theorem ct_X12_undo_f {E : xE} {z : Nat} {T : Nat → Nat × Int} {F : Nat → Nat → Int} {I : Nat → Int → Int} {P : Nat → Nat → Option Nat} {Y : Nat → Int → Option Nat} {m : Nat} {w : Int → Int} (hw : wM T P m) (h7 : F m 7 = 0) : Ct E 0 mX12_undo 0 0 [.ref m] (z, T, F, upA I (m + 1) w, P, Y) (xd (some (J 0)) (z, T, upF F m 0 0, upA I (m + 1) (w), P, Y)) := by
  obtain ⟨⟨q0, q1, q2, q3⟩, -⟩ := id hw
  refine Ct.of [some (.ref m), none] kt_X12_undo rfl (Nat.le_of_ble_eq_true rfl) rfl (fun d hd => ?_)
  generalize hX : xN E _ _ _ = X
  refine xg_aloadn 1 dX12_undo_0 rfl rfl rfl ?_
  refine xg_iconst 2 dX12_undo_1 rfl ?_
  refine xg_putI 5 kf_RX12_3 dX12_undo_2 rfl (by assumption) ?_
  refine xg_aloadn 6 dX12_undo_5 rfl rfl rfl ?_
  refine xg_getI 9 kf_RX12_59 dX12_undo_6 rfl (by assumption) ?_
  rw [upF_nk _ _ _ _ (show (7 : Nat) ≠ 0 by decide)]
  refine xg_ifne 14 12 dX12_undo_9 rfl rfl (by first | omega | exact hR _ | exact ⟨hR _, by omega⟩ | exact ⟨by omega, hR _⟩ | exact ⟨hR _, hR _⟩) (fun hb9 => ?_) (fun hb9 => ?_)
  · first
    | (exfalso; omega)
    | skip
      exfalso; omega
  · first
    | (exfalso; omega)
    | skip
      refine xg_iconst 13 dX12_undo_12 rfl ?_
      subst hX
      exact xg_zreturn dX12_undo_13 rfl (by first | exact bI_01 _ | omega) ⟨Nat.le_refl _, Nat.le_refl _⟩ ⟨rfl, rfl⟩

theorem dX12_keepsAll_0 : decode cX12_keepsAll 0 = .ok (.iconst 0, 1) := by decide +kernel
theorem dX12_keepsAll_1 : decode cX12_keepsAll 1 = .ok (.istore_n 1, 1) := by decide +kernel
theorem dX12_keepsAll_2 : decode cX12_keepsAll 2 = .ok (.iload_n 1, 1) := by decide +kernel
theorem dX12_keepsAll_3 : decode cX12_keepsAll 3 = .ok (.sipush 1903, 3) := by decide +kernel
theorem dX12_keepsAll_6 : decode cX12_keepsAll 6 = .ok (.if_icmp .ge 21, 3) := by decide +kernel
theorem dX12_keepsAll_9 : decode cX12_keepsAll 9 = .ok (.aload_n 0, 1) := by decide +kernel
theorem dX12_keepsAll_10 : decode cX12_keepsAll 10 = .ok (.getfield 23, 3) := by decide +kernel
theorem dX12_keepsAll_13 : decode cX12_keepsAll 13 = .ok (.iload_n 1, 1) := by decide +kernel
theorem dX12_keepsAll_14 : decode cX12_keepsAll 14 = .ok (.aload_n 0, 1) := by decide +kernel
theorem dX12_keepsAll_15 : decode cX12_keepsAll 15 = .ok (.getfield 13, 3) := by decide +kernel
theorem dX12_keepsAll_18 : decode cX12_keepsAll 18 = .ok (.iload_n 1, 1) := by decide +kernel
theorem dX12_keepsAll_19 : decode cX12_keepsAll 19 = .ok (.iaload, 1) := by decide +kernel
theorem dX12_keepsAll_20 : decode cX12_keepsAll 20 = .ok (.iastore, 1) := by decide +kernel
theorem dX12_keepsAll_21 : decode cX12_keepsAll 21 = .ok (.iinc 1 1, 3) := by decide +kernel
theorem dX12_keepsAll_24 : decode cX12_keepsAll 24 = .ok (.goto (-22), 3) := by decide +kernel
theorem dX12_keepsAll_27 : decode cX12_keepsAll 27 = .ok (.return_, 1) := by decide +kernel
set_option maxHeartbeats 4000000 in
set_option maxRecDepth 100000 in
theorem ct_X12_keepsAll {E : xE} {z : Nat} {T : Nat → Nat × Int} {F : Nat → Nat → Int} {I : Nat → Int → Int} {P : Nat → Nat → Option Nat} {Y : Nat → Int → Option Nat} {m : Nat} {w : Int → Int} (hw : wM T P m) : Ct E 0 mX12_keepsAll 0 0 [.ref m] (z, T, F, upA I (m + 1) w, P, Y) (xd none (z, T, F, upA (upA I (m + 4) (wCo (I (m + 4)) w 0 1903)) (m + 1) (w), P, Y)) := by
  obtain ⟨⟨q0, q1, q2, q3⟩, -, -, ⟨v1, v2, v3⟩, -⟩ := id hw
  have v4 : m + 4 ≠ m + 1 := by omega
  refine Ct.of [some (.ref m), none] kt_X12_keepsAll rfl (Nat.le_of_ble_eq_true rfl) rfl (fun d hd => ?_)
  generalize hX : xN E _ _ _ = X
  refine xg_own (m + 4) (m + 1) ?_
  refine xg_iconst 1 dX12_keepsAll_0 rfl ?_
  refine xg_istoren 2 _ dX12_keepsAll_1 rfl rfl rfl (by decide) (Or.inr rfl) ?_
  have loop2 : ∀ (mm : Nat) (k : Int), (0 ≤ k ∧ k ≤ 1903) → 1903 - k < (mm : Int) → xG E mX12_keepsAll (xR d 0 0) X 2 [some (.ref m), some (J k)] [] (z, T, F, upA (upA I (m + 4) (wCo (I (m + 4)) w 0 k)) (m + 1) (w), P, Y) 0 0 := by
    intro mm
    induction mm with
    | zero => intro k hk hm; exfalso; omega
    | succ mm ih =>
      intro k hk hm
      refine xg_iloadn 3 dX12_keepsAll_2 rfl rfl rfl ?_
      refine xg_sipush 6 dX12_keepsAll_3 rfl (by decide) ?_
      refine xg_icge 27 9 dX12_keepsAll_6 rfl rfl (by first | omega | exact hR _ | exact ⟨hR _, by omega⟩ | exact ⟨by omega, hR _⟩ | exact ⟨hR _, hR _⟩) (fun hb6 => ?_) (fun hb6 => ?_)
      · skip
        subst hX
        exact xg_return dX12_keepsAll_27 rfl ⟨Nat.le_refl _, Nat.le_refl _⟩ ⟨rfl, by rw [show k = 1903 by omega]⟩
      · skip
        refine xg_aloadn 10 dX12_keepsAll_9 rfl rfl rfl ?_
        refine xg_getP 13 kf_RX12_23 dX12_keepsAll_10 rfl (by assumption) (by assumption) ?_
        refine xg_iloadn 14 dX12_keepsAll_13 rfl rfl rfl ?_
        refine xg_aloadn 15 dX12_keepsAll_14 rfl rfl rfl ?_
        refine xg_getP 18 kf_RX12_13 dX12_keepsAll_15 rfl (by assumption) (by assumption) ?_
        refine xg_iloadn 19 dX12_keepsAll_18 rfl rfl rfl ?_
        refine xg_ialdW 20 dX12_keepsAll_19 rfl (by assumption) (by first | omega | exact hR _ | exact ⟨hR _, by omega⟩ | exact ⟨by omega, hR _⟩ | exact ⟨hR _, hR _⟩) ?_
        refine xg_iastU 21 dX12_keepsAll_20 rfl ⟨v2, v4⟩ (by first | omega | exact hR _ | exact ⟨hR _, by omega⟩ | exact ⟨by omega, hR _⟩ | exact ⟨hR _, hR _⟩) ?_
        refine xg_iinc 24 _ dX12_keepsAll_21 rfl rfl rfl rfl (by decide) (Or.inr rfl) ?_
        refine xg_goto 2 dX12_keepsAll_24 rfl ?_
        rw [wCo_s0 _ _ _ hk.1]
        exact xg_weak _ (xle_s rfl (xle_s rfl xle_0)) (ih (k + 1) (by omega) (by omega))
  have l0 := loop2 3000 0 (by omega) (by omega)
  rw [wCo_0] at l0
  exact xg_weak _ (xle_s rfl (xle_s rfl xle_0)) l0

theorem dX12_bringsBack_0 : decode cX12_bringsBack 0 = .ok (.iconst 0, 1) := by decide +kernel
theorem dX12_bringsBack_1 : decode cX12_bringsBack 1 = .ok (.istore_n 1, 1) := by decide +kernel
theorem dX12_bringsBack_2 : decode cX12_bringsBack 2 = .ok (.iload_n 1, 1) := by decide +kernel
theorem dX12_bringsBack_3 : decode cX12_bringsBack 3 = .ok (.sipush 1903, 3) := by decide +kernel
theorem dX12_bringsBack_6 : decode cX12_bringsBack 6 = .ok (.if_icmp .ge 21, 3) := by decide +kernel
theorem dX12_bringsBack_9 : decode cX12_bringsBack 9 = .ok (.aload_n 0, 1) := by decide +kernel
theorem dX12_bringsBack_10 : decode cX12_bringsBack 10 = .ok (.getfield 13, 3) := by decide +kernel
theorem dX12_bringsBack_13 : decode cX12_bringsBack 13 = .ok (.iload_n 1, 1) := by decide +kernel
theorem dX12_bringsBack_14 : decode cX12_bringsBack 14 = .ok (.aload_n 0, 1) := by decide +kernel
theorem dX12_bringsBack_15 : decode cX12_bringsBack 15 = .ok (.getfield 23, 3) := by decide +kernel
theorem dX12_bringsBack_18 : decode cX12_bringsBack 18 = .ok (.iload_n 1, 1) := by decide +kernel
theorem dX12_bringsBack_19 : decode cX12_bringsBack 19 = .ok (.iaload, 1) := by decide +kernel
theorem dX12_bringsBack_20 : decode cX12_bringsBack 20 = .ok (.iastore, 1) := by decide +kernel
theorem dX12_bringsBack_21 : decode cX12_bringsBack 21 = .ok (.iinc 1 1, 3) := by decide +kernel
theorem dX12_bringsBack_24 : decode cX12_bringsBack 24 = .ok (.goto (-22), 3) := by decide +kernel
theorem dX12_bringsBack_27 : decode cX12_bringsBack 27 = .ok (.return_, 1) := by decide +kernel
set_option maxHeartbeats 4000000 in
set_option maxRecDepth 100000 in
theorem ct_X12_bringsBack {E : xE} {z : Nat} {T : Nat → Nat × Int} {F : Nat → Nat → Int} {I : Nat → Int → Int} {P : Nat → Nat → Option Nat} {Y : Nat → Int → Option Nat} {m : Nat} {w : Int → Int} (hw : wM T P m) : Ct E 0 mX12_bringsBack 0 0 [.ref m] (z, T, F, upA I (m + 1) w, P, Y) (xd none (z, T, F, upA I (m + 1) (wCo w (I (m + 4)) 0 1903), P, Y)) := by
  obtain ⟨⟨q0, q1, q2, q3⟩, -, -, ⟨v1, v2, v3⟩, -⟩ := id hw
  have v4 : m + 4 ≠ m + 1 := by omega
  refine Ct.of [some (.ref m), none] kt_X12_bringsBack rfl (Nat.le_of_ble_eq_true rfl) rfl (fun d hd => ?_)
  generalize hX : xN E _ _ _ = X
  refine xg_own (m + 4) (m + 1) ?_
  refine xg_iconst 1 dX12_bringsBack_0 rfl ?_
  refine xg_istoren 2 _ dX12_bringsBack_1 rfl rfl rfl (by decide) (Or.inr rfl) ?_
  have loop2 : ∀ (mm : Nat) (k : Int), (0 ≤ k ∧ k ≤ 1903) → 1903 - k < (mm : Int) → xG E mX12_bringsBack (xR d 0 0) X 2 [some (.ref m), some (J k)] [] (z, T, F, upA (upA I (m + 4) (I (m + 4))) (m + 1) (wCo w (I (m + 4)) 0 k), P, Y) 0 0 := by
    intro mm
    induction mm with
    | zero => intro k hk hm; exfalso; omega
    | succ mm ih =>
      intro k hk hm
      refine xg_iloadn 3 dX12_bringsBack_2 rfl rfl rfl ?_
      refine xg_sipush 6 dX12_bringsBack_3 rfl (by decide) ?_
      refine xg_icge 27 9 dX12_bringsBack_6 rfl rfl (by first | omega | exact hR _ | exact ⟨hR _, by omega⟩ | exact ⟨by omega, hR _⟩ | exact ⟨hR _, hR _⟩) (fun hb6 => ?_) (fun hb6 => ?_)
      · skip
        subst hX
        exact xg_return dX12_bringsBack_27 rfl ⟨Nat.le_refl _, Nat.le_refl _⟩ ⟨rfl, by rw [show k = 1903 by omega, upA_id]⟩
      · skip
        refine xg_aloadn 10 dX12_bringsBack_9 rfl rfl rfl ?_
        refine xg_getP 13 kf_RX12_13 dX12_bringsBack_10 rfl (by assumption) (by assumption) ?_
        refine xg_iloadn 14 dX12_bringsBack_13 rfl rfl rfl ?_
        refine xg_aloadn 15 dX12_bringsBack_14 rfl rfl rfl ?_
        refine xg_getP 18 kf_RX12_23 dX12_bringsBack_15 rfl (by assumption) (by assumption) ?_
        refine xg_iloadn 19 dX12_bringsBack_18 rfl rfl rfl ?_
        refine xg_ialdU 20 dX12_bringsBack_19 rfl ⟨v2, v4⟩ (by first | omega | exact hR _ | exact ⟨hR _, by omega⟩ | exact ⟨by omega, hR _⟩ | exact ⟨hR _, hR _⟩) ?_
        refine xg_iastW 21 dX12_bringsBack_20 rfl (by assumption) (by first | omega | exact hR _ | exact ⟨hR _, by omega⟩ | exact ⟨by omega, hR _⟩ | exact ⟨hR _, hR _⟩) ?_
        refine xg_iinc 24 _ dX12_bringsBack_21 rfl rfl rfl rfl (by decide) (Or.inr rfl) ?_
        refine xg_goto 2 dX12_bringsBack_24 rfl ?_
        rw [wCo_s0 _ _ _ hk.1]
        exact xg_weak _ (xle_s rfl (xle_s rfl xle_0)) (ih (k + 1) (by omega) (by omega))
  have l0 := loop2 3000 0 (by omega) (by omega)
  rw [wCo_0] at l0
  exact xg_weak _ (xle_s rfl (xle_s rfl xle_0)) l0

