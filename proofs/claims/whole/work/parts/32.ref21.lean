section XV2
variable {E : xE} {M : xM} {R : Room} {X : xX} {pc : Nat} {L : List (Option Value)} {st : List Value} {z : Nat} {T : Nat → Nat × Int} {F : Nat → Nat → Int} {I : Nat → Int → Int} {P : Nat → Nat → Option Nat} {Y : Nat → Int → Option Nat} {c n : Nat}
theorem xg_ialdV {a b : Nat} {w : Int → Int} {i : Int} (q : Nat) (d : decode M.2.1 pc = .ok (.iaload, 1)) (hq : pc + 1 = q) (hk : (T a).1 = 14 ∧ a ≠ b) (hi : 0 ≤ i ∧ i < (T a).2) (kk : xG E M R X q L (J (I a i) :: st) (z, T, F, upA I b w, P, Y) c n) : xG E M R X pc L (J i :: .ref a :: st) (z, T, F, upA I b w, P, Y) c n :=
  xg_iald q d hq hk.1 hi (by rw [upA_na _ _ _ hk.2]; exact kk)
end XV2
def sE (w : Int → Int) (r : Int) : Int := sEnt w (201 + 122 * r)
/-- the lead of who takes next, of l runs from f on -/
def sAh (w : Int → Int) : Nat → Int → Int
  | 0, _ => 0
  | l + 1, f => max (sE w f - sAh w l (f + 1)) (sE w (f + l) - sAh w l f)
theorem sAh_bd (w : Int → Int) : ∀ (l : Nat) (f : Int), -(60 * l) ≤ sAh w l f ∧ sAh w l f ≤ 60 * l
  | 0, _ => by simp [sAh]
  | l + 1, f => by
    have h1 := sAh_bd w l f
    have h2 := sAh_bd w l (f + 1)
    have h3 := sEnt_bd w (201 + 122 * f)
    have h4 := sEnt_bd w (201 + 122 * (f + l))
    rw [sAh]; unfold sE; omega
/-- the table behind the runs from f0 on (and of f0 itself up to t0) holds the leads -/
def pAh (w u : Int → Int) (f0 t0 : Int) : Prop := ∀ f l : Nat, (f : Int) + l ≤ w 0 → (f0 < f ∨ (f0 = f ∧ (f : Int) + l < t0)) → u (13 * (f : Int) + (f + l)) = sAh w l f
theorem pAh_S {w u : Int → Int} {f0 : Nat} {l0 : Nat} (h : pAh w u f0 (f0 + l0)) (hn : (f0 : Int) + l0 ≤ w 0) (hw : w 0 ≤ 12) : pAh w (wS u (13 * (f0 : Int) + (f0 + l0)) (sAh w l0 f0)) f0 (f0 + l0 + 1) := by
  intro f l h1 h2
  by_cases e : 13 * (f : Int) + (f + l) = 13 * (f0 : Int) + (f0 + l0)
  · have ef : f = f0 := by omega
    have el : l = l0 := by omega
    subst ef; subst el
    rw [wS_at]
  · rw [wS_ne _ _ _ e]
    exact h f l h1 (by omega)
def xAh (m : Nat) (z : Nat) (T : Nat → Nat × Int) (F : Nat → Nat → Int) (I : Nat → Int → Int) (w : Int → Int) (P : Nat → Nat → Option Nat) (Y : Nat → Int → Option Nat) : Option Value → xH → Prop :=
  fun v h' => v = none ∧ ∃ u : Int → Int, pAh w u (-1) 0 ∧ h' = (z, T, F, upA (upA I (m + 10) u) (m + 1) w, P, Y)
theorem dX12_aheadAt_0 : decode cX12_aheadAt 0 = .ok (.bipush 13, 2) := by decide +kernel
theorem dX12_aheadAt_2 : decode cX12_aheadAt 2 = .ok (.iload_n 0, 1) := by decide +kernel
theorem dX12_aheadAt_3 : decode cX12_aheadAt 3 = .ok (.imul, 1) := by decide +kernel
theorem dX12_aheadAt_4 : decode cX12_aheadAt 4 = .ok (.iload_n 1, 1) := by decide +kernel
theorem dX12_aheadAt_5 : decode cX12_aheadAt 5 = .ok (.iadd, 1) := by decide +kernel
theorem dX12_aheadAt_6 : decode cX12_aheadAt 6 = .ok (.ireturn, 1) := by decide +kernel
set_option maxHeartbeats 4000000 in
set_option maxRecDepth 100000 in
theorem ct_X12_aheadAt {E : xE} {z : Nat} {T : Nat → Nat × Int} {F : Nat → Nat → Int} {I : Nat → Int → Int} {P : Nat → Nat → Option Nat} {Y : Nat → Int → Option Nat} {m : Nat} {w : Int → Int} {a b : Int} : Ct E 0 mX12_aheadAt 0 0 [J a, J b] (z, T, F, upA I (m + 1) w, P, Y) (xd (some (J (13 * a + b))) (z, T, F, upA I (m + 1) w, P, Y)) := by
  skip
  refine Ct.of [some (J a), some (J b)] kt_X12_aheadAt rfl (Nat.le_of_ble_eq_true rfl) rfl (fun d hd => ?_)
  generalize hX : xN E _ _ _ = X
  refine xg_bipush 2 dX12_aheadAt_0 rfl (by decide) ?_
  refine xg_iloadn 3 dX12_aheadAt_2 rfl rfl rfl ?_
  refine xg_imul 4 dX12_aheadAt_3 rfl ?_
  refine xg_iloadn 5 dX12_aheadAt_4 rfl rfl rfl ?_
  refine xg_iadd 6 dX12_aheadAt_5 rfl ?_
  subst hX
  exact xg_ireturn dX12_aheadAt_6 rfl ⟨Nat.le_refl _, Nat.le_refl _⟩ ⟨rfl, rfl⟩

theorem dX12_byNewest_0 : decode cX12_byNewest 0 = .ok (.aload_n 0, 1) := by decide +kernel
theorem dX12_byNewest_1 : decode cX12_byNewest 1 = .ok (.iload_n 1, 1) := by decide +kernel
theorem dX12_byNewest_2 : decode cX12_byNewest 2 = .ok (.invokestatic 133, 3) := by decide +kernel
theorem dX12_byNewest_5 : decode cX12_byNewest 5 = .ok (.invokevirtual 268, 3) := by decide +kernel
theorem dX12_byNewest_8 : decode cX12_byNewest 8 = .ok (.aload_n 0, 1) := by decide +kernel
theorem dX12_byNewest_9 : decode cX12_byNewest 9 = .ok (.getfield 45, 3) := by decide +kernel
theorem dX12_byNewest_12 : decode cX12_byNewest 12 = .ok (.iload_n 1, 1) := by decide +kernel
theorem dX12_byNewest_13 : decode cX12_byNewest 13 = .ok (.iconst 1, 1) := by decide +kernel
theorem dX12_byNewest_14 : decode cX12_byNewest 14 = .ok (.iadd, 1) := by decide +kernel
theorem dX12_byNewest_15 : decode cX12_byNewest 15 = .ok (.iload_n 2, 1) := by decide +kernel
theorem dX12_byNewest_16 : decode cX12_byNewest 16 = .ok (.invokestatic 434, 3) := by decide +kernel
theorem dX12_byNewest_19 : decode cX12_byNewest 19 = .ok (.iaload, 1) := by decide +kernel
theorem dX12_byNewest_20 : decode cX12_byNewest 20 = .ok (.isub, 1) := by decide +kernel
theorem dX12_byNewest_21 : decode cX12_byNewest 21 = .ok (.ireturn, 1) := by decide +kernel
set_option maxHeartbeats 4000000 in
set_option maxRecDepth 100000 in
theorem ct_X12_byNewest {E : xE} {z : Nat} {T : Nat → Nat × Int} {F : Nat → Nat → Int} {I : Nat → Int → Int} {P : Nat → Nat → Option Nat} {Y : Nat → Int → Option Nat} {m : Nat} {w : Int → Int} (hw : wM T P m) (hO : wOk w){a b : Int} (ha : 0 ≤ a ∧ a < b ∧ b ≤ 12)  : Ct E 2 mX12_byNewest 0 0 [.ref m, J a, J b] (z, T, F, upA I (m + 1) w, P, Y) (xd (some (J (sE w a - I (m + 10) (13 * (a + 1) + b)))) (z, T, F, upA I (m + 1) w, P, Y)) := by
  obtain ⟨⟨q0, q1, q2, q3⟩, -, -, -, -, -, -, -, -, ⟨v1, v2, v3⟩, -⟩ := id hw
  have v4 : m + 10 ≠ m + 1 := by omega
  obtain ⟨hR, o0, o1, o2, o3, o4, o5, o6, oc, o13, o14, o16, o17, o18, ov⟩ := id hO
  have hN := wN_i o0.1
  refine Ct.of [some (.ref m), some (J a), some (J b)] kt_X12_byNewest rfl (Nat.le_of_ble_eq_true rfl) rfl (fun d hd => ?_)
  generalize hX : xN E _ _ _ = X
  refine xg_aloadn 1 dX12_byNewest_0 rfl rfl rfl ?_
  refine xg_iloadn 2 dX12_byNewest_1 rfl rfl rfl ?_
  refine xg_callS 5 [_] _ ks_X12_rowOf kl_RX12_133 dX12_byNewest_2 rfl rfl rfl (Nat.le_of_ble_eq_true rfl) (by omega) ⟨Nat.le_refl _, Nat.le_refl _⟩ (ct_X12_rowOf) rfl ?_
  refine xg_callV 8 12 [_] _ kv_X12_entriesOf ⟨_, _, rfl⟩ kl_RX12_268 dX12_byNewest_5 rfl (by assumption) (by omega) rfl rfl (Nat.le_of_ble_eq_true rfl) (by omega) ⟨Nat.le_refl _, Nat.le_refl _⟩ (ct_X12_entriesOf hw hR (by omega)) rfl ?_
  refine xg_aloadn 9 dX12_byNewest_8 rfl rfl rfl ?_
  refine xg_getP 12 kf_RX12_45 dX12_byNewest_9 rfl (by assumption) (by assumption) ?_
  refine xg_iloadn 13 dX12_byNewest_12 rfl rfl rfl ?_
  refine xg_iconst 14 dX12_byNewest_13 rfl ?_
  refine xg_iadd 15 dX12_byNewest_14 rfl ?_
  refine xg_iloadn 16 dX12_byNewest_15 rfl rfl rfl ?_
  refine xg_callS 19 [_, _] _ ks_X12_aheadAt kl_RX12_434 dX12_byNewest_16 rfl rfl rfl (Nat.le_of_ble_eq_true rfl) (by omega) ⟨Nat.le_refl _, Nat.le_refl _⟩ (ct_X12_aheadAt) rfl ?_
  refine xg_ialdV 20 dX12_byNewest_19 rfl ⟨v2, v4⟩ (by first | omega | exact hR _ | exact ⟨hR _, by omega⟩ | exact ⟨by omega, hR _⟩ | exact ⟨hR _, hR _⟩) ?_
  refine xg_isub 21 dX12_byNewest_20 rfl ?_
  subst hX
  exact xg_ireturn dX12_byNewest_21 rfl ⟨Nat.le_refl _, Nat.le_refl _⟩ ⟨rfl, rfl⟩

theorem dX12_byOldest_0 : decode cX12_byOldest 0 = .ok (.aload_n 0, 1) := by decide +kernel
theorem dX12_byOldest_1 : decode cX12_byOldest 1 = .ok (.iload_n 2, 1) := by decide +kernel
theorem dX12_byOldest_2 : decode cX12_byOldest 2 = .ok (.iconst 1, 1) := by decide +kernel
theorem dX12_byOldest_3 : decode cX12_byOldest 3 = .ok (.isub, 1) := by decide +kernel
theorem dX12_byOldest_4 : decode cX12_byOldest 4 = .ok (.invokestatic 133, 3) := by decide +kernel
theorem dX12_byOldest_7 : decode cX12_byOldest 7 = .ok (.invokevirtual 268, 3) := by decide +kernel
theorem dX12_byOldest_10 : decode cX12_byOldest 10 = .ok (.aload_n 0, 1) := by decide +kernel
theorem dX12_byOldest_11 : decode cX12_byOldest 11 = .ok (.getfield 45, 3) := by decide +kernel
theorem dX12_byOldest_14 : decode cX12_byOldest 14 = .ok (.iload_n 1, 1) := by decide +kernel
theorem dX12_byOldest_15 : decode cX12_byOldest 15 = .ok (.iload_n 2, 1) := by decide +kernel
theorem dX12_byOldest_16 : decode cX12_byOldest 16 = .ok (.iconst 1, 1) := by decide +kernel
theorem dX12_byOldest_17 : decode cX12_byOldest 17 = .ok (.isub, 1) := by decide +kernel
theorem dX12_byOldest_18 : decode cX12_byOldest 18 = .ok (.invokestatic 434, 3) := by decide +kernel
theorem dX12_byOldest_21 : decode cX12_byOldest 21 = .ok (.iaload, 1) := by decide +kernel
theorem dX12_byOldest_22 : decode cX12_byOldest 22 = .ok (.isub, 1) := by decide +kernel
theorem dX12_byOldest_23 : decode cX12_byOldest 23 = .ok (.ireturn, 1) := by decide +kernel
set_option maxHeartbeats 4000000 in
set_option maxRecDepth 100000 in
theorem ct_X12_byOldest {E : xE} {z : Nat} {T : Nat → Nat × Int} {F : Nat → Nat → Int} {I : Nat → Int → Int} {P : Nat → Nat → Option Nat} {Y : Nat → Int → Option Nat} {m : Nat} {w : Int → Int} (hw : wM T P m) (hO : wOk w){a b : Int} (ha : 0 ≤ a ∧ a < b ∧ b ≤ 12)  : Ct E 2 mX12_byOldest 0 0 [.ref m, J a, J b] (z, T, F, upA I (m + 1) w, P, Y) (xd (some (J (sE w (b - 1) - I (m + 10) (13 * a + (b - 1))))) (z, T, F, upA I (m + 1) w, P, Y)) := by
  obtain ⟨⟨q0, q1, q2, q3⟩, -, -, -, -, -, -, -, -, ⟨v1, v2, v3⟩, -⟩ := id hw
  have v4 : m + 10 ≠ m + 1 := by omega
  obtain ⟨hR, o0, o1, o2, o3, o4, o5, o6, oc, o13, o14, o16, o17, o18, ov⟩ := id hO
  have hN := wN_i o0.1
  refine Ct.of [some (.ref m), some (J a), some (J b)] kt_X12_byOldest rfl (Nat.le_of_ble_eq_true rfl) rfl (fun d hd => ?_)
  generalize hX : xN E _ _ _ = X
  refine xg_aloadn 1 dX12_byOldest_0 rfl rfl rfl ?_
  refine xg_iloadn 2 dX12_byOldest_1 rfl rfl rfl ?_
  refine xg_iconst 3 dX12_byOldest_2 rfl ?_
  refine xg_isub 4 dX12_byOldest_3 rfl ?_
  refine xg_callS 7 [_] _ ks_X12_rowOf kl_RX12_133 dX12_byOldest_4 rfl rfl rfl (Nat.le_of_ble_eq_true rfl) (by omega) ⟨Nat.le_refl _, Nat.le_refl _⟩ (ct_X12_rowOf) rfl ?_
  refine xg_callV 10 12 [_] _ kv_X12_entriesOf ⟨_, _, rfl⟩ kl_RX12_268 dX12_byOldest_7 rfl (by assumption) (by omega) rfl rfl (Nat.le_of_ble_eq_true rfl) (by omega) ⟨Nat.le_refl _, Nat.le_refl _⟩ (ct_X12_entriesOf hw hR (by omega)) rfl ?_
  refine xg_aloadn 11 dX12_byOldest_10 rfl rfl rfl ?_
  refine xg_getP 14 kf_RX12_45 dX12_byOldest_11 rfl (by assumption) (by assumption) ?_
  refine xg_iloadn 15 dX12_byOldest_14 rfl rfl rfl ?_
  refine xg_iloadn 16 dX12_byOldest_15 rfl rfl rfl ?_
  refine xg_iconst 17 dX12_byOldest_16 rfl ?_
  refine xg_isub 18 dX12_byOldest_17 rfl ?_
  refine xg_callS 21 [_, _] _ ks_X12_aheadAt kl_RX12_434 dX12_byOldest_18 rfl rfl rfl (Nat.le_of_ble_eq_true rfl) (by omega) ⟨Nat.le_refl _, Nat.le_refl _⟩ (ct_X12_aheadAt) rfl ?_
  refine xg_ialdV 22 dX12_byOldest_21 rfl ⟨v2, v4⟩ (by first | omega | exact hR _ | exact ⟨hR _, by omega⟩ | exact ⟨by omega, hR _⟩ | exact ⟨hR _, hR _⟩) ?_
  refine xg_isub 23 dX12_byOldest_22 rfl ?_
  subst hX
  exact xg_ireturn dX12_byOldest_23 rfl ⟨Nat.le_refl _, Nat.le_refl _⟩ ⟨rfl, rfl⟩

theorem dX12_laysAhead_0 : decode cX12_laysAhead 0 = .ok (.aload_n 0, 1) := by decide +kernel
theorem dX12_laysAhead_1 : decode cX12_laysAhead 1 = .ok (.invokevirtual 66, 3) := by decide +kernel
theorem dX12_laysAhead_4 : decode cX12_laysAhead 4 = .ok (.istore_n 1, 1) := by decide +kernel
theorem dX12_laysAhead_5 : decode cX12_laysAhead 5 = .ok (.iload_n 1, 1) := by decide +kernel
theorem dX12_laysAhead_6 : decode cX12_laysAhead 6 = .ok (.ifCond .lt 63, 3) := by decide +kernel
theorem dX12_laysAhead_9 : decode cX12_laysAhead 9 = .ok (.aload_n 0, 1) := by decide +kernel
theorem dX12_laysAhead_10 : decode cX12_laysAhead 10 = .ok (.getfield 45, 3) := by decide +kernel
theorem dX12_laysAhead_13 : decode cX12_laysAhead 13 = .ok (.iload_n 1, 1) := by decide +kernel
theorem dX12_laysAhead_14 : decode cX12_laysAhead 14 = .ok (.iload_n 1, 1) := by decide +kernel
theorem dX12_laysAhead_15 : decode cX12_laysAhead 15 = .ok (.invokestatic 434, 3) := by decide +kernel
theorem dX12_laysAhead_18 : decode cX12_laysAhead 18 = .ok (.iconst 0, 1) := by decide +kernel
theorem dX12_laysAhead_19 : decode cX12_laysAhead 19 = .ok (.iastore, 1) := by decide +kernel
theorem dX12_laysAhead_20 : decode cX12_laysAhead 20 = .ok (.iload_n 1, 1) := by decide +kernel
theorem dX12_laysAhead_21 : decode cX12_laysAhead 21 = .ok (.iconst 1, 1) := by decide +kernel
theorem dX12_laysAhead_22 : decode cX12_laysAhead 22 = .ok (.iadd, 1) := by decide +kernel
theorem dX12_laysAhead_23 : decode cX12_laysAhead 23 = .ok (.istore_n 2, 1) := by decide +kernel
theorem dX12_laysAhead_24 : decode cX12_laysAhead 24 = .ok (.iload_n 2, 1) := by decide +kernel
theorem dX12_laysAhead_25 : decode cX12_laysAhead 25 = .ok (.aload_n 0, 1) := by decide +kernel
theorem dX12_laysAhead_26 : decode cX12_laysAhead 26 = .ok (.invokevirtual 66, 3) := by decide +kernel
theorem dX12_laysAhead_29 : decode cX12_laysAhead 29 = .ok (.if_icmp .gt 34, 3) := by decide +kernel
theorem dX12_laysAhead_32 : decode cX12_laysAhead 32 = .ok (.aload_n 0, 1) := by decide +kernel
theorem dX12_laysAhead_33 : decode cX12_laysAhead 33 = .ok (.getfield 45, 3) := by decide +kernel
theorem dX12_laysAhead_36 : decode cX12_laysAhead 36 = .ok (.iload_n 1, 1) := by decide +kernel
theorem dX12_laysAhead_37 : decode cX12_laysAhead 37 = .ok (.iload_n 2, 1) := by decide +kernel
theorem dX12_laysAhead_38 : decode cX12_laysAhead 38 = .ok (.invokestatic 434, 3) := by decide +kernel
theorem dX12_laysAhead_41 : decode cX12_laysAhead 41 = .ok (.aload_n 0, 1) := by decide +kernel
theorem dX12_laysAhead_42 : decode cX12_laysAhead 42 = .ok (.iload_n 1, 1) := by decide +kernel
theorem dX12_laysAhead_43 : decode cX12_laysAhead 43 = .ok (.iload_n 2, 1) := by decide +kernel
theorem dX12_laysAhead_44 : decode cX12_laysAhead 44 = .ok (.invokevirtual 437, 3) := by decide +kernel
theorem dX12_laysAhead_47 : decode cX12_laysAhead 47 = .ok (.aload_n 0, 1) := by decide +kernel
theorem dX12_laysAhead_48 : decode cX12_laysAhead 48 = .ok (.iload_n 1, 1) := by decide +kernel
theorem dX12_laysAhead_49 : decode cX12_laysAhead 49 = .ok (.iload_n 2, 1) := by decide +kernel
theorem dX12_laysAhead_50 : decode cX12_laysAhead 50 = .ok (.invokevirtual 440, 3) := by decide +kernel
theorem dX12_laysAhead_53 : decode cX12_laysAhead 53 = .ok (.invokestatic 343, 3) := by decide +kernel
theorem dX12_laysAhead_56 : decode cX12_laysAhead 56 = .ok (.iastore, 1) := by decide +kernel
theorem dX12_laysAhead_57 : decode cX12_laysAhead 57 = .ok (.iinc 2 1, 3) := by decide +kernel
theorem dX12_laysAhead_60 : decode cX12_laysAhead 60 = .ok (.goto (-36), 3) := by decide +kernel
theorem dX12_laysAhead_63 : decode cX12_laysAhead 63 = .ok (.iinc 1 (-1), 3) := by decide +kernel
theorem dX12_laysAhead_66 : decode cX12_laysAhead 66 = .ok (.goto (-61), 3) := by decide +kernel
theorem dX12_laysAhead_69 : decode cX12_laysAhead 69 = .ok (.return_, 1) := by decide +kernel
set_option maxHeartbeats 4000000 in
set_option maxRecDepth 100000 in
theorem ct_X12_laysAhead {E : xE} {z : Nat} {T : Nat → Nat × Int} {F : Nat → Nat → Int} {I : Nat → Int → Int} {P : Nat → Nat → Option Nat} {Y : Nat → Int → Option Nat} {m : Nat} {w : Int → Int} (hw : wM T P m) (hO : wOk w) : Ct E 3 mX12_laysAhead 0 0 [.ref m] (z, T, F, upA I (m + 1) w, P, Y) (xAh m z T F I w P Y) := by
  obtain ⟨⟨q0, q1, q2, q3⟩, -, -, -, -, -, -, -, -, ⟨v1, v2, v3⟩, -⟩ := id hw
  have v4 : m + 10 ≠ m + 1 := by omega
  obtain ⟨hR, o0, o1, o2, o3, o4, o5, o6, oc, o13, o14, o16, o17, o18, ov⟩ := id hO
  have hN := wN_i o0.1
  refine Ct.of [some (.ref m), none, none] kt_X12_laysAhead rfl (Nat.le_of_ble_eq_true rfl) rfl (fun d hd => ?_)
  generalize hX : xN E _ _ _ = X
  refine xg_own (m + 10) (m + 1) ?_
  refine xg_aloadn 1 dX12_laysAhead_0 rfl rfl rfl ?_
  refine xg_callV 4 12 [] _ kv_X12_runs ⟨_, _, rfl⟩ kl_RX12_66 dX12_laysAhead_1 rfl (by assumption) (by omega) rfl rfl (Nat.le_of_ble_eq_true rfl) (by omega) ⟨Nat.le_refl _, Nat.le_refl _⟩ (ct_X12_runs hw) rfl ?_
  refine xg_istoren 5 _ dX12_laysAhead_4 rfl rfl rfl (by decide) (Or.inr rfl) ?_
  have loop5 : ∀ (mm : Nat) (f : Int) (u : Int → Int) (v : Option Value), (-1 ≤ f ∧ f ≤ w 0) → pAh w u f 0 → f + 1 < (mm : Int) → xG E mX12_laysAhead (xR d 0 0) X 5 [some (.ref m), some (J f), none] [] (z, T, F, upA (upA I (m + 10) u) (m + 1) w, P, Y) 0 0 := by
    intro mm
    induction mm with
    | zero => intro f u v hf hp hm; exfalso; omega
    | succ mm ih =>
      intro f u v hf hp hm
      refine xg_iloadn 6 dX12_laysAhead_5 rfl rfl rfl ?_
      refine xg_iflt 69 9 dX12_laysAhead_6 rfl rfl (by first | omega | exact hR _ | exact ⟨hR _, by omega⟩ | exact ⟨by omega, hR _⟩ | exact ⟨hR _, hR _⟩) (fun hb6 => ?_) (fun hb6 => ?_)
      · skip
        subst hX
        exact xg_return dX12_laysAhead_69 rfl ⟨Nat.le_refl _, Nat.le_refl _⟩ ⟨rfl, u, fun a b h1 h2 => hp a b h1 (by omega), rfl⟩
      · skip
        obtain ⟨f, rfl⟩ : ∃ g : Nat, (g : Int) = f := ⟨f.toNat, by omega⟩
        refine xg_aloadn 10 dX12_laysAhead_9 rfl rfl rfl ?_
        refine xg_getP 13 kf_RX12_45 dX12_laysAhead_10 rfl (by assumption) (by assumption) ?_
        refine xg_iloadn 14 dX12_laysAhead_13 rfl rfl rfl ?_
        refine xg_iloadn 15 dX12_laysAhead_14 rfl rfl rfl ?_
        refine xg_callS 18 [_, _] _ ks_X12_aheadAt kl_RX12_434 dX12_laysAhead_15 rfl rfl rfl (Nat.le_of_ble_eq_true rfl) (by omega) ⟨Nat.le_refl _, Nat.le_refl _⟩ (ct_X12_aheadAt) rfl ?_
        refine xg_iconst 19 dX12_laysAhead_18 rfl ?_
        refine xg_iastU 20 dX12_laysAhead_19 rfl ⟨v2, v4⟩ (by first | omega | exact hR _ | exact ⟨hR _, by omega⟩ | exact ⟨by omega, hR _⟩ | exact ⟨hR _, hR _⟩) ?_
        refine xg_iloadn 21 dX12_laysAhead_20 rfl rfl rfl ?_
        refine xg_iconst 22 dX12_laysAhead_21 rfl ?_
        refine xg_iadd 23 dX12_laysAhead_22 rfl ?_
        refine xg_istoren 24 _ dX12_laysAhead_23 rfl rfl rfl (by decide) (Or.inr rfl) ?_
        have loop24 : ∀ (mm : Nat) (l : Nat) (u : Int → Int), ((f : Int) + l ≤ w 0) → pAh w u f (f + l + 1) → w 0 - f - l < (mm : Int) → xG E mX12_laysAhead (xR d 0 0) X 24 [some (.ref m), some (J (f : Int)), some (J ((f : Int) + l + 1))] [] (z, T, F, upA (upA I (m + 10) u) (m + 1) w, P, Y) 0 0 := by
          intro mm
          induction mm with
          | zero => intro l u hl hp hm; exfalso; omega
          | succ mm ih2 =>
            intro l u hl hp hm
            have b1 := sAh_bd w l (f : Int)
            have b2 := sAh_bd w l ((f + 1 : Nat) : Int)
            have b3 : 0 ≤ sE w f ∧ sE w f ≤ 60 := sEnt_bd w _
            have b4 : 0 ≤ sE w ((f : Int) + l) ∧ sE w ((f : Int) + l) ≤ 60 := sEnt_bd w _
            refine xg_iloadn 25 dX12_laysAhead_24 rfl rfl rfl ?_
            refine xg_aloadn 26 dX12_laysAhead_25 rfl rfl rfl ?_
            refine xg_callV 29 12 [] _ kv_X12_runs ⟨_, _, rfl⟩ kl_RX12_66 dX12_laysAhead_26 rfl (by assumption) (by omega) rfl rfl (Nat.le_of_ble_eq_true rfl) (by omega) ⟨Nat.le_refl _, Nat.le_refl _⟩ (ct_X12_runs hw) rfl ?_
            refine xg_icgt 63 32 dX12_laysAhead_29 rfl rfl (by first | omega | exact hR _ | exact ⟨hR _, by omega⟩ | exact ⟨by omega, hR _⟩ | exact ⟨hR _, hR _⟩) (fun hb29 => ?_) (fun hb29 => ?_)
            · skip
              refine xg_iinc 66 _ dX12_laysAhead_63 rfl rfl rfl rfl (by decide) (Or.inr rfl) ?_
              refine xg_goto 5 dX12_laysAhead_66 rfl ?_
              exact xg_weak _ (xle_s rfl (xle_s rfl (xle_n xle_0))) (ih ((f : Int) + -1) u none (by omega) (fun a b h1 h2 => hp a b h1 (by omega)) (by omega))
            · skip
              refine xg_aloadn 33 dX12_laysAhead_32 rfl rfl rfl ?_
              refine xg_getP 36 kf_RX12_45 dX12_laysAhead_33 rfl (by assumption) (by assumption) ?_
              refine xg_iloadn 37 dX12_laysAhead_36 rfl rfl rfl ?_
              refine xg_iloadn 38 dX12_laysAhead_37 rfl rfl rfl ?_
              refine xg_callS 41 [_, _] _ ks_X12_aheadAt kl_RX12_434 dX12_laysAhead_38 rfl rfl rfl (Nat.le_of_ble_eq_true rfl) (by omega) ⟨Nat.le_refl _, Nat.le_refl _⟩ (ct_X12_aheadAt) rfl ?_
              refine xg_aloadn 42 dX12_laysAhead_41 rfl rfl rfl ?_
              refine xg_iloadn 43 dX12_laysAhead_42 rfl rfl rfl ?_
              refine xg_iloadn 44 dX12_laysAhead_43 rfl rfl rfl ?_
              refine xg_callV 47 12 [_, _] _ kv_X12_byNewest ⟨_, _, rfl⟩ kl_RX12_437 dX12_laysAhead_44 rfl (by assumption) (by omega) rfl rfl (Nat.le_of_ble_eq_true rfl) (by omega) ⟨Nat.le_refl _, Nat.le_refl _⟩ (ct_X12_byNewest hw hO (by omega)) rfl ?_
              rw [upA_at, show 13 * ((f : Int) + 1) + ((f : Int) + (l : Int) + 1) = 13 * (((f + 1 : Nat) : Int)) + (((f + 1 : Nat) : Int) + (l : Int)) by omega, hp (f + 1) l (by omega) (by omega)]
              refine xg_aloadn 48 dX12_laysAhead_47 rfl rfl rfl ?_
              refine xg_iloadn 49 dX12_laysAhead_48 rfl rfl rfl ?_
              refine xg_iloadn 50 dX12_laysAhead_49 rfl rfl rfl ?_
              refine xg_callV 53 12 [_, _] _ kv_X12_byOldest ⟨_, _, rfl⟩ kl_RX12_440 dX12_laysAhead_50 rfl (by assumption) (by omega) rfl rfl (Nat.le_of_ble_eq_true rfl) (by omega) ⟨Nat.le_refl _, Nat.le_refl _⟩ (ct_X12_byOldest hw hO (by omega)) rfl ?_
              rw [upA_at, show (f : Int) + (l : Int) + 1 - 1 = (f : Int) + l by omega, hp f l (by omega) (by omega)]
              refine xg_mmax 56 kl_RX12_343 dX12_laysAhead_53 rfl (by first | omega | exact hR _ | exact ⟨hR _, by omega⟩ | exact ⟨by omega, hR _⟩ | exact ⟨hR _, hR _⟩) (Nat.le_of_ble_eq_true rfl) (by omega) ⟨Nat.le_refl _, Nat.le_refl _⟩ ?_
              refine xg_iastU 57 dX12_laysAhead_56 rfl ⟨v2, v4⟩ (by first | omega | exact hR _ | exact ⟨hR _, by omega⟩ | exact ⟨by omega, hR _⟩ | exact ⟨hR _, hR _⟩) ?_
              refine xg_iinc 60 _ dX12_laysAhead_57 rfl rfl rfl rfl (by decide) (Or.inr rfl) ?_
              refine xg_goto 24 dX12_laysAhead_60 rfl ?_
              exact xg_weak _ (xle_s rfl (xle_s rfl (xle_s (by rw [show (f : Int) + ((l + 1 : Nat) : Int) + 1 = (f : Int) + l + 1 + 1 by omega]) xle_0))) (ih2 (l + 1) _ (by omega) (by have h9 := pAh_S (f0 := f) (l0 := l + 1) (by rw [show (f : Int) + ((l + 1 : Nat) : Int) = (f : Int) + l + 1 by omega]; exact hp) (by omega) o0.2; rw [sAh] at h9; rw [show (((f + 1 : Nat) : Int)) = (f : Int) + 1 by omega, show 13 * (f : Int) + ((f : Int) + (l : Int) + 1) = 13 * (f : Int) + ((f : Int) + ((l + 1 : Nat) : Int)) by omega]; exact h9) (by omega))
        exact xg_weak _ (xle_s rfl (xle_s rfl (xle_s (by rw [show (f : Int) + ((0 : Nat) : Int) + 1 = (f : Int) + 1 by omega]) xle_0))) (loop24 20 0 _ (by omega) (by have h9 := pAh_S (f0 := f) (l0 := 0) (by exact fun a b h1 h2 => hp a b h1 (by omega)) (by omega) o0.2; rw [show 13 * (f : Int) + (f : Int) = 13 * (f : Int) + ((f : Int) + ((0 : Nat) : Int)) by omega]; exact h9) (by omega))
  exact xg_weak _ (xle_s rfl (xle_s rfl (xle_n xle_0))) (loop5 20 (w 0) (I (m + 10)) none (by omega) (fun a b h1 h2 => by omega) (by omega))

theorem xG_00 {E : xE} {M : xM} {R : Room} {X : xX} {pc : Nat} {L : List (Option Value)} {st : List Value} {h : xH} (kk : xG E M R X pc L st h 0 0) : xG E M R X pc L st h (0 + 0) (0 + 0) := kk
def sSide (w : Int → Int) : Int := if w 0 = 0 ∨ sE w (w 0 - 1) - sAh w (wN w - 1) 0 ≤ sE w 0 - sAh w (wN w - 1) 1 then 0 else 1
theorem dX12_lead_0 : decode cX12_lead 0 = .ok (.aload_n 0, 1) := by decide +kernel
theorem dX12_lead_1 : decode cX12_lead 1 = .ok (.iconst 0, 1) := by decide +kernel
theorem dX12_lead_2 : decode cX12_lead 2 = .ok (.putfield 3, 3) := by decide +kernel
theorem dX12_lead_5 : decode cX12_lead 5 = .ok (.aload_n 0, 1) := by decide +kernel
theorem dX12_lead_6 : decode cX12_lead 6 = .ok (.invokevirtual 443, 3) := by decide +kernel
theorem dX12_lead_9 : decode cX12_lead 9 = .ok (.aload_n 0, 1) := by decide +kernel
theorem dX12_lead_10 : decode cX12_lead 10 = .ok (.getfield 45, 3) := by decide +kernel
theorem dX12_lead_13 : decode cX12_lead 13 = .ok (.iconst 0, 1) := by decide +kernel
theorem dX12_lead_14 : decode cX12_lead 14 = .ok (.aload_n 0, 1) := by decide +kernel
theorem dX12_lead_15 : decode cX12_lead 15 = .ok (.invokevirtual 66, 3) := by decide +kernel
theorem dX12_lead_18 : decode cX12_lead 18 = .ok (.invokestatic 434, 3) := by decide +kernel
theorem dX12_lead_21 : decode cX12_lead 21 = .ok (.iaload, 1) := by decide +kernel
theorem dX12_lead_22 : decode cX12_lead 22 = .ok (.ireturn, 1) := by decide +kernel
set_option maxHeartbeats 4000000 in
set_option maxRecDepth 100000 in
theorem ct_X12_lead {E : xE} {z : Nat} {T : Nat → Nat × Int} {F : Nat → Nat → Int} {I : Nat → Int → Int} {P : Nat → Nat → Option Nat} {Y : Nat → Int → Option Nat} {m : Nat} {w : Int → Int} (hw : wM T P m) (hO : wOk w) : Ct E 4 mX12_lead 0 0 [.ref m] (z, T, F, upA I (m + 1) w, P, Y) (xs m (some (J (sAh w (wN w) 0))) z T (upF F m 0 0) I w P Y) := by
  obtain ⟨⟨q0, q1, q2, q3⟩, -, -, -, -, -, -, -, -, ⟨v1, v2, v3⟩, -⟩ := id hw
  have v4 : m + 10 ≠ m + 1 := by omega
  obtain ⟨hR, o0, o1, o2, o3, o4, o5, o6, oc, o13, o14, o16, o17, o18, ov⟩ := id hO
  have hN := wN_i o0.1
  refine Ct.of [some (.ref m)] kt_X12_lead rfl (Nat.le_of_ble_eq_true rfl) rfl (fun d hd => ?_)
  generalize hX : xN E _ _ _ = X
  refine xg_aloadn 1 dX12_lead_0 rfl rfl rfl ?_
  refine xg_iconst 2 dX12_lead_1 rfl ?_
  refine xg_putI 5 kf_RX12_3 dX12_lead_2 rfl (by assumption) ?_
  refine xg_aloadn 6 dX12_lead_5 rfl rfl rfl ?_
  refine xg_callV0 (As := []) 9 kv_X12_laysAhead ⟨_, _, rfl⟩ kl_RX12_443 dX12_lead_6 rfl (by assumption) (by omega) rfl rfl (Nat.le_of_ble_eq_true rfl) (by omega) ⟨Nat.le_refl _, Nat.le_refl _⟩ (ct_X12_laysAhead hw hO) (fun v h9 e => ?_)
  obtain ⟨rfl, u, hp, rfl⟩ := e
  refine xG_00 ?_
  refine xg_aloadn 10 dX12_lead_9 rfl rfl rfl ?_
  refine xg_getP 13 kf_RX12_45 dX12_lead_10 rfl (by assumption) (by assumption) ?_
  refine xg_iconst 14 dX12_lead_13 rfl ?_
  refine xg_aloadn 15 dX12_lead_14 rfl rfl rfl ?_
  refine xg_callV 18 12 [] _ kv_X12_runs ⟨_, _, rfl⟩ kl_RX12_66 dX12_lead_15 rfl (by assumption) (by omega) rfl rfl (Nat.le_of_ble_eq_true rfl) (by omega) ⟨Nat.le_refl _, Nat.le_refl _⟩ (ct_X12_runs hw) rfl ?_
  refine xg_callS 21 [_, _] _ ks_X12_aheadAt kl_RX12_434 dX12_lead_18 rfl rfl rfl (Nat.le_of_ble_eq_true rfl) (by omega) ⟨Nat.le_refl _, Nat.le_refl _⟩ (ct_X12_aheadAt) rfl ?_
  refine xg_ialdU 22 dX12_lead_21 rfl ⟨v2, v4⟩ (by first | omega | exact hR _ | exact ⟨hR _, by omega⟩ | exact ⟨by omega, hR _⟩ | exact ⟨hR _, hR _⟩) ?_
  rw [show u (13 * 0 + w 0) = sAh w (wN w) 0 by rw [show (13 * 0 + w 0 : Int) = 13 * ((0 : Nat) : Int) + (((0 : Nat) : Int) + ((wN w : Nat) : Int)) by omega]; exact hp 0 (wN w) (by omega) (Or.inl (by omega))]
  subst hX
  exact xg_ireturn dX12_lead_22 rfl ⟨Nat.le_refl _, Nat.le_refl _⟩ ⟨rfl, upA I (m + 10) u, xScr.rf.up (by omega) u, rfl⟩

theorem dX12_side_0 : decode cX12_side 0 = .ok (.aload_n 0, 1) := by decide +kernel
theorem dX12_side_1 : decode cX12_side 1 = .ok (.iconst 0, 1) := by decide +kernel
theorem dX12_side_2 : decode cX12_side 2 = .ok (.putfield 3, 3) := by decide +kernel
theorem dX12_side_5 : decode cX12_side 5 = .ok (.aload_n 0, 1) := by decide +kernel
theorem dX12_side_6 : decode cX12_side 6 = .ok (.invokevirtual 443, 3) := by decide +kernel
theorem dX12_side_9 : decode cX12_side 9 = .ok (.aload_n 0, 1) := by decide +kernel
theorem dX12_side_10 : decode cX12_side 10 = .ok (.invokevirtual 66, 3) := by decide +kernel
theorem dX12_side_13 : decode cX12_side 13 = .ok (.ifCond .eq 24, 3) := by decide +kernel
theorem dX12_side_16 : decode cX12_side 16 = .ok (.aload_n 0, 1) := by decide +kernel
theorem dX12_side_17 : decode cX12_side 17 = .ok (.iconst 0, 1) := by decide +kernel
theorem dX12_side_18 : decode cX12_side 18 = .ok (.aload_n 0, 1) := by decide +kernel
theorem dX12_side_19 : decode cX12_side 19 = .ok (.invokevirtual 66, 3) := by decide +kernel
theorem dX12_side_22 : decode cX12_side 22 = .ok (.invokevirtual 437, 3) := by decide +kernel
theorem dX12_side_25 : decode cX12_side 25 = .ok (.aload_n 0, 1) := by decide +kernel
theorem dX12_side_26 : decode cX12_side 26 = .ok (.iconst 0, 1) := by decide +kernel
theorem dX12_side_27 : decode cX12_side 27 = .ok (.aload_n 0, 1) := by decide +kernel
theorem dX12_side_28 : decode cX12_side 28 = .ok (.invokevirtual 66, 3) := by decide +kernel
theorem dX12_side_31 : decode cX12_side 31 = .ok (.invokevirtual 440, 3) := by decide +kernel
theorem dX12_side_34 : decode cX12_side 34 = .ok (.if_icmp .lt 7, 3) := by decide +kernel
theorem dX12_side_37 : decode cX12_side 37 = .ok (.iconst 0, 1) := by decide +kernel
theorem dX12_side_38 : decode cX12_side 38 = .ok (.goto 4, 3) := by decide +kernel
theorem dX12_side_41 : decode cX12_side 41 = .ok (.iconst 1, 1) := by decide +kernel
theorem dX12_side_42 : decode cX12_side 42 = .ok (.ireturn, 1) := by decide +kernel
set_option maxHeartbeats 4000000 in
set_option maxRecDepth 100000 in
theorem ct_X12_side {E : xE} {z : Nat} {T : Nat → Nat × Int} {F : Nat → Nat → Int} {I : Nat → Int → Int} {P : Nat → Nat → Option Nat} {Y : Nat → Int → Option Nat} {m : Nat} {w : Int → Int} (hw : wM T P m) (hO : wOk w) : Ct E 4 mX12_side 0 0 [.ref m] (z, T, F, upA I (m + 1) w, P, Y) (xs m (some (J (sSide w))) z T (upF F m 0 0) I w P Y) := by
  obtain ⟨⟨q0, q1, q2, q3⟩, -, -, -, -, -, -, -, -, ⟨v1, v2, v3⟩, -⟩ := id hw
  have v4 : m + 10 ≠ m + 1 := by omega
  obtain ⟨hR, o0, o1, o2, o3, o4, o5, o6, oc, o13, o14, o16, o17, o18, ov⟩ := id hO
  have hN := wN_i o0.1
  refine Ct.of [some (.ref m)] kt_X12_side rfl (Nat.le_of_ble_eq_true rfl) rfl (fun d hd => ?_)
  generalize hX : xN E _ _ _ = X
  refine xg_aloadn 1 dX12_side_0 rfl rfl rfl ?_
  refine xg_iconst 2 dX12_side_1 rfl ?_
  refine xg_putI 5 kf_RX12_3 dX12_side_2 rfl (by assumption) ?_
  refine xg_aloadn 6 dX12_side_5 rfl rfl rfl ?_
  refine xg_callV0 (As := []) 9 kv_X12_laysAhead ⟨_, _, rfl⟩ kl_RX12_443 dX12_side_6 rfl (by assumption) (by omega) rfl rfl (Nat.le_of_ble_eq_true rfl) (by omega) ⟨Nat.le_refl _, Nat.le_refl _⟩ (ct_X12_laysAhead hw hO) (fun v h9 e => ?_)
  obtain ⟨rfl, u, hp, rfl⟩ := e
  refine xG_00 ?_
  refine xg_aloadn 10 dX12_side_9 rfl rfl rfl ?_
  refine xg_callV 13 12 [] _ kv_X12_runs ⟨_, _, rfl⟩ kl_RX12_66 dX12_side_10 rfl (by assumption) (by omega) rfl rfl (Nat.le_of_ble_eq_true rfl) (by omega) ⟨Nat.le_refl _, Nat.le_refl _⟩ (ct_X12_runs hw) rfl ?_
  refine xg_ifeq 37 16 dX12_side_13 rfl rfl (by first | omega | exact hR _ | exact ⟨hR _, by omega⟩ | exact ⟨by omega, hR _⟩ | exact ⟨hR _, hR _⟩) (fun hb13 => ?_) (fun hb13 => ?_)
  · skip
    refine xg_iconst 38 dX12_side_37 rfl ?_
    refine xg_goto 42 dX12_side_38 rfl ?_
    subst hX
    exact xg_ireturn dX12_side_42 rfl ⟨Nat.le_refl _, Nat.le_refl _⟩ ⟨by unfold sSide; rw [if_pos (Or.inl hb13)], upA I (m + 10) u, xScr.rf.up (by omega) u, rfl⟩
  · skip
    refine xg_aloadn 17 dX12_side_16 rfl rfl rfl ?_
    refine xg_iconst 18 dX12_side_17 rfl ?_
    refine xg_aloadn 19 dX12_side_18 rfl rfl rfl ?_
    refine xg_callV 22 12 [] _ kv_X12_runs ⟨_, _, rfl⟩ kl_RX12_66 dX12_side_19 rfl (by assumption) (by omega) rfl rfl (Nat.le_of_ble_eq_true rfl) (by omega) ⟨Nat.le_refl _, Nat.le_refl _⟩ (ct_X12_runs hw) rfl ?_
    refine xg_callV 25 12 [_, _] _ kv_X12_byNewest ⟨_, _, rfl⟩ kl_RX12_437 dX12_side_22 rfl (by assumption) (by omega) rfl rfl (Nat.le_of_ble_eq_true rfl) (by omega) ⟨Nat.le_refl _, Nat.le_refl _⟩ (ct_X12_byNewest hw hO (by omega)) rfl ?_
    rw [upA_at, show (13 * (0 + 1) + w 0 : Int) = 13 * ((1 : Nat) : Int) + (((1 : Nat) : Int) + ((wN w - 1 : Nat) : Int)) by omega, hp 1 (wN w - 1) (by omega) (Or.inl (by omega))]
    refine xg_aloadn 26 dX12_side_25 rfl rfl rfl ?_
    refine xg_iconst 27 dX12_side_26 rfl ?_
    refine xg_aloadn 28 dX12_side_27 rfl rfl rfl ?_
    refine xg_callV 31 12 [] _ kv_X12_runs ⟨_, _, rfl⟩ kl_RX12_66 dX12_side_28 rfl (by assumption) (by omega) rfl rfl (Nat.le_of_ble_eq_true rfl) (by omega) ⟨Nat.le_refl _, Nat.le_refl _⟩ (ct_X12_runs hw) rfl ?_
    refine xg_callV 34 12 [_, _] _ kv_X12_byOldest ⟨_, _, rfl⟩ kl_RX12_440 dX12_side_31 rfl (by assumption) (by omega) rfl rfl (Nat.le_of_ble_eq_true rfl) (by omega) ⟨Nat.le_refl _, Nat.le_refl _⟩ (ct_X12_byOldest hw hO (by omega)) rfl ?_
    rw [upA_at, show (13 * 0 + (w 0 - 1) : Int) = 13 * ((0 : Nat) : Int) + (((0 : Nat) : Int) + ((wN w - 1 : Nat) : Int)) by omega, hp 0 (wN w - 1) (by omega) (Or.inl (by omega))]
    have b1 := sAh_bd w (wN w - 1) (((1 : Nat) : Int))
    have b2 := sAh_bd w (wN w - 1) (((0 : Nat) : Int))
    have b3 : 0 ≤ sE w 0 ∧ sE w 0 ≤ 60 := sEnt_bd w _
    have b4 : 0 ≤ sE w (w 0 - 1) ∧ sE w (w 0 - 1) ≤ 60 := sEnt_bd w _
    refine xg_iclt 41 37 dX12_side_34 rfl rfl (by first | omega | exact hR _ | exact ⟨hR _, by omega⟩ | exact ⟨by omega, hR _⟩ | exact ⟨hR _, hR _⟩) (fun hb34 => ?_) (fun hb34 => ?_)
    · skip
      refine xg_iconst 42 dX12_side_41 rfl ?_
      subst hX
      exact xg_ireturn dX12_side_42 rfl ⟨Nat.le_refl _, Nat.le_refl _⟩ ⟨by unfold sSide; rw [if_neg (by rintro (q | q); exact hb13 q; exact absurd (show _ ≤ _ from q) (Int.not_le.mpr hb34))], upA I (m + 10) u, xScr.rf.up (by omega) u, rfl⟩
    · skip
      refine xg_iconst 38 dX12_side_37 rfl ?_
      refine xg_goto 42 dX12_side_38 rfl ?_
      subst hX
      exact xg_ireturn dX12_side_42 rfl ⟨Nat.le_refl _, Nat.le_refl _⟩ ⟨by unfold sSide; rw [if_pos (Or.inr (show sE w (w 0 - 1) - sAh w (wN w - 1) 0 ≤ sE w 0 - sAh w (wN w - 1) 1 from hb34))], upA I (m + 10) u, xScr.rf.up (by omega) u, rfl⟩

