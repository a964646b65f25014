theorem drop_d {bs : List Int} {k : Nat} (h : k < bs.length) : bs.drop k = bs.getD k 0 :: bs.drop (k + 1) := by
  rw [List.drop_eq_getElem_cons h, List.getD_eq_getElem?_getD, List.getElem?_eq_getElem h]; rfl
def zEq (u : Int → Int) : Int → List Int → Bool
  | _, [] => true
  | b, ch :: cs => decide (u b = ch) && zEq u (b + 1) cs
/-- n characters from b on are the list -/
def zIsB (u : Int → Int) (b n : Int) (bs : List Int) : Bool := decide (n = bs.length) && zEq u b bs
theorem zIsB_f {u : Int → Int} {b n : Int} {bs : List Int} (h : n ≠ bs.length) : zIsB u b n bs = false := by unfold zIsB; rw [decide_eq_false h]; rfl
theorem zIsB_t {u : Int → Int} {b n : Int} {bs : List Int} (h : n = bs.length) : zIsB u b n bs = zEq u b bs := by unfold zIsB; rw [decide_eq_true h]; rfl
theorem zIsB_m {t u : Int → Int} {e e0 : Int} (h : rTp t u e) : ∀ (bs : List Int) (b : Int), 0 ≤ b → e0 ≤ e → (∀ c ∈ bs, 0 ≤ c ∧ c < 128) → zIsB u b (e0 - b) bs = zMp t e0 b bs
  | [], b, hb, he, _ => by
    unfold zIsB
    rw [zEq, zMp, Bool.and_true]
    by_cases q : b = e0
    · rw [decide_eq_true q, decide_eq_true (by show e0 - b = ((0 : Nat) : Int); omega)]
    · rw [decide_eq_false q, decide_eq_false (by show ¬ e0 - b = ((0 : Nat) : Int); omega)]
  | ch :: cs, b, hb, he, hc => by
    have ih := zIsB_m h cs (b + 1) (by omega) he (fun c hc2 => hc c (List.mem_cons_of_mem _ hc2))
    rw [zMp, ← ih]
    unfold zIsB
    rw [zEq, List.length_cons]
    by_cases q : e0 - b = ((cs.length + 1 : Nat) : Int)
    · rw [decide_eq_true q, decide_eq_true (show e0 - (b + 1) = (cs.length : Int) by omega), Bool.true_and, Bool.true_and]
      have h1 := h.at (j := b) (c := ch) (by omega) (hc ch List.mem_cons_self)
      by_cases q2 : u b = ch
      · rw [decide_eq_true q2, decide_eq_true ⟨by omega, h1.mp q2⟩]
      · rw [decide_eq_false q2, decide_eq_false (fun z => q2 (h1.mpr z.2))]
    · rw [decide_eq_false q, decide_eq_false (show ¬ e0 - (b + 1) = (cs.length : Int) by omega), Bool.false_and, Bool.false_and, Bool.and_false]
theorem dX12_isWord_0 : decode cX12_isWord 0 = .ok (.aload_n 0, 1) := by decide +kernel
theorem dX12_isWord_1 : decode cX12_isWord 1 = .ok (.getfield 83, 3) := by decide +kernel
theorem dX12_isWord_4 : decode cX12_isWord 4 = .ok (.aload_n 0, 1) := by decide +kernel
theorem dX12_isWord_5 : decode cX12_isWord 5 = .ok (.getfield 93, 3) := by decide +kernel
theorem dX12_isWord_8 : decode cX12_isWord 8 = .ok (.isub, 1) := by decide +kernel
theorem dX12_isWord_9 : decode cX12_isWord 9 = .ok (.aload_n 1, 1) := by decide +kernel
theorem dX12_isWord_10 : decode cX12_isWord 10 = .ok (.invokevirtual 99, 3) := by decide +kernel
theorem dX12_isWord_13 : decode cX12_isWord 13 = .ok (.if_icmp .ne 7, 3) := by decide +kernel
theorem dX12_isWord_16 : decode cX12_isWord 16 = .ok (.iconst 1, 1) := by decide +kernel
theorem dX12_isWord_17 : decode cX12_isWord 17 = .ok (.goto 4, 3) := by decide +kernel
theorem dX12_isWord_20 : decode cX12_isWord 20 = .ok (.iconst 0, 1) := by decide +kernel
theorem dX12_isWord_21 : decode cX12_isWord 21 = .ok (.istore_n 2, 1) := by decide +kernel
theorem dX12_isWord_22 : decode cX12_isWord 22 = .ok (.iconst 0, 1) := by decide +kernel
theorem dX12_isWord_23 : decode cX12_isWord 23 = .ok (.istore_n 3, 1) := by decide +kernel
theorem dX12_isWord_24 : decode cX12_isWord 24 = .ok (.iload_n 2, 1) := by decide +kernel
theorem dX12_isWord_25 : decode cX12_isWord 25 = .ok (.ifCond .eq 42, 3) := by decide +kernel
theorem dX12_isWord_28 : decode cX12_isWord 28 = .ok (.iload_n 3, 1) := by decide +kernel
theorem dX12_isWord_29 : decode cX12_isWord 29 = .ok (.aload_n 1, 1) := by decide +kernel
theorem dX12_isWord_30 : decode cX12_isWord 30 = .ok (.invokevirtual 99, 3) := by decide +kernel
theorem dX12_isWord_33 : decode cX12_isWord 33 = .ok (.if_icmp .ge 34, 3) := by decide +kernel
theorem dX12_isWord_36 : decode cX12_isWord 36 = .ok (.aload_n 0, 1) := by decide +kernel
theorem dX12_isWord_37 : decode cX12_isWord 37 = .ok (.getfield 29, 3) := by decide +kernel
theorem dX12_isWord_40 : decode cX12_isWord 40 = .ok (.aload_n 0, 1) := by decide +kernel
theorem dX12_isWord_41 : decode cX12_isWord 41 = .ok (.getfield 93, 3) := by decide +kernel
theorem dX12_isWord_44 : decode cX12_isWord 44 = .ok (.iload_n 3, 1) := by decide +kernel
theorem dX12_isWord_45 : decode cX12_isWord 45 = .ok (.iadd, 1) := by decide +kernel
theorem dX12_isWord_46 : decode cX12_isWord 46 = .ok (.baload, 1) := by decide +kernel
theorem dX12_isWord_47 : decode cX12_isWord 47 = .ok (.aload_n 1, 1) := by decide +kernel
theorem dX12_isWord_48 : decode cX12_isWord 48 = .ok (.iload_n 3, 1) := by decide +kernel
theorem dX12_isWord_49 : decode cX12_isWord 49 = .ok (.invokevirtual 104, 3) := by decide +kernel
theorem dX12_isWord_52 : decode cX12_isWord 52 = .ok (.if_icmp .ne 7, 3) := by decide +kernel
theorem dX12_isWord_55 : decode cX12_isWord 55 = .ok (.iconst 1, 1) := by decide +kernel
theorem dX12_isWord_56 : decode cX12_isWord 56 = .ok (.goto 4, 3) := by decide +kernel
theorem dX12_isWord_59 : decode cX12_isWord 59 = .ok (.iconst 0, 1) := by decide +kernel
theorem dX12_isWord_60 : decode cX12_isWord 60 = .ok (.istore_n 2, 1) := by decide +kernel
theorem dX12_isWord_61 : decode cX12_isWord 61 = .ok (.iinc 3 1, 3) := by decide +kernel
theorem dX12_isWord_64 : decode cX12_isWord 64 = .ok (.goto (-40), 3) := by decide +kernel
theorem dX12_isWord_67 : decode cX12_isWord 67 = .ok (.iload_n 2, 1) := by decide +kernel
theorem dX12_isWord_68 : decode cX12_isWord 68 = .ok (.ireturn, 1) := by decide +kernel
set_option maxHeartbeats 4000000 in
set_option maxRecDepth 100000 in
theorem ct_X12_isWord {E : xE} {z : Nat} {T : Nat → Nat × Int} {F : Nat → Nat → Int} {I : Nat → Int → Int} {P : Nat → Nat → Option Nat} {Y : Nat → Int → Option Nat} {m : Nat} {w : Int → Int} (hw : wM T P m)(hT : ∀ j : Int, -128 ≤ I (m + 6) j ∧ I (m + 6) j ≤ 127) (hE : 0 ≤ F m 12 ∧ F m 12 ≤ F m 10 ∧ F m 10 ≤ 400) {q8 v0 : Nat} {bs : List Int} (hSt : ∀ u : State, E.2.2.2.2 u → oStr E.2.2.2.1 q8 v0 bs u) {sio : Option Nat} (hZ : ∀ u : State, E.2.2.2.2 u → oSts E.2.2.2.1 sio u) (hn : bs.length < 1000) (hA : ∀ j : Nat, 0 ≤ bs.getD j 0 ∧ bs.getD j 0 < 128)  : Ct E 4 mX12_isWord 0 0 [.ref m, .ref q8] (z, T, F, upA I (m + 1) w, P, Y) (xd (some (J (bI (zIsB (I (m + 6)) (F m 12) (F m 10 - F m 12) bs)))) (z, T, F, upA I (m + 1) w, P, Y)) := by
  obtain ⟨⟨q0, q1, q2, q3⟩, -⟩ := id hw
  obtain ⟨⟨q0, q1, q2, q3⟩, -, -, -, -, ⟨y1, y2, y3⟩, -⟩ := id hw
  have y4 : m + 6 ≠ m + 1 := by omega
  refine Ct.of [some (.ref m), some (.ref q8), none, none] kt_X12_isWord rfl (Nat.le_of_ble_eq_true rfl) rfl (fun d hd => ?_)
  generalize hX : xN E _ _ _ = X
  refine xg_aloadn 1 dX12_isWord_0 rfl rfl rfl ?_
  refine xg_getI 4 kf_RX12_83 dX12_isWord_1 rfl (by assumption) ?_
  refine xg_aloadn 5 dX12_isWord_4 rfl rfl rfl ?_
  refine xg_getI 8 kf_RX12_93 dX12_isWord_5 rfl (by assumption) ?_
  refine xg_isub 9 dX12_isWord_8 rfl ?_
  refine xg_aloadn 10 dX12_isWord_9 rfl rfl rfl ?_
  refine xg_callVo 13 (As := []) kv_J0_length_8abf5 rfl (fun u hu => (hSt u hu).1) kl_RX12_99 dX12_isWord_10 rfl rfl rfl (Nat.le_of_ble_eq_true rfl) (by omega) ⟨Nat.le_refl _, Nat.le_refl _⟩ (ct_J0_length hSt hZ hn) rfl ?_
  refine xg_icne 20 16 dX12_isWord_13 rfl rfl (by first | omega | exact hR _ | exact ⟨hR _, by omega⟩ | exact ⟨by omega, hR _⟩ | exact ⟨hR _, hR _⟩) (fun hb13 => ?_) (fun hb13 => ?_)
  · skip
    refine xg_iconst 21 dX12_isWord_20 rfl ?_
    refine xg_istoren 22 _ dX12_isWord_21 rfl rfl rfl (by decide) (Or.inr rfl) ?_
    refine xg_iconst 23 dX12_isWord_22 rfl ?_
    refine xg_istoren 24 _ dX12_isWord_23 rfl rfl rfl (by decide) (Or.inr rfl) ?_
    have loop24 : ∀ (mm : Nat) (k : Nat) (al : Bool), k ≤ bs.length → ((al = true → F m 10 - F m 12 = bs.length) ∧ zIsB (I (m + 6)) (F m 12) (F m 10 - F m 12) bs = (al && zEq (I (m + 6)) (F m 12 + (k : Int)) (bs.drop k))) → 2000 - (k : Int) < (mm : Int) → xG E mX12_isWord (xR d 0 0) X 24 [some (.ref m), some (.ref q8), some (J (bI al)), some (J (k : Int))] [] (z, T, F, upA I (m + 1) w, P, Y) 0 0 := by
      intro mm
      induction mm with
      | zero => intro k al hk hq hm; exfalso; omega
      | succ mm ih =>
        intro k al hk hq hm
        refine xg_iloadn 25 dX12_isWord_24 rfl rfl rfl ?_
        refine xg_beq 67 28 dX12_isWord_25 rfl rfl (fun hb25 => ?_) (fun hb25 => ?_)
        · skip
          refine xg_iloadn 68 dX12_isWord_67 rfl rfl rfl ?_
          subst hX
          exact xg_zreturn dX12_isWord_68 rfl (by first | exact bI_01 _ | omega) ⟨Nat.le_refl _, Nat.le_refl _⟩ ⟨by rw [hq.2, hb25]; rfl, rfl⟩
        · skip
          refine xg_iloadn 29 dX12_isWord_28 rfl rfl rfl ?_
          refine xg_aloadn 30 dX12_isWord_29 rfl rfl rfl ?_
          refine xg_callVo 33 (As := []) kv_J0_length_8abf5 rfl (fun u hu => (hSt u hu).1) kl_RX12_99 dX12_isWord_30 rfl rfl rfl (Nat.le_of_ble_eq_true rfl) (by omega) ⟨Nat.le_refl _, Nat.le_refl _⟩ (ct_J0_length hSt hZ hn) rfl ?_
          refine xg_icge 67 36 dX12_isWord_33 rfl rfl (by first | omega | exact hR _ | exact ⟨hR _, by omega⟩ | exact ⟨by omega, hR _⟩ | exact ⟨hR _, hR _⟩) (fun hb33 => ?_) (fun hb33 => ?_)
          · skip
            refine xg_iloadn 68 dX12_isWord_67 rfl rfl rfl ?_
            subst hX
            exact xg_zreturn dX12_isWord_68 rfl (by first | exact bI_01 _ | omega) ⟨Nat.le_refl _, Nat.le_refl _⟩ ⟨by rw [hq.2, List.drop_eq_nil_of_le (by omega), zEq, Bool.and_true], rfl⟩
          · skip
            refine xg_aloadn 37 dX12_isWord_36 rfl rfl rfl ?_
            refine xg_getP 40 kf_RX12_29 dX12_isWord_37 rfl (by assumption) (by assumption) ?_
            refine xg_aloadn 41 dX12_isWord_40 rfl rfl rfl ?_
            refine xg_getI 44 kf_RX12_93 dX12_isWord_41 rfl (by assumption) ?_
            refine xg_iloadn 45 dX12_isWord_44 rfl rfl rfl ?_
            refine xg_iadd 46 dX12_isWord_45 rfl ?_
            have hal := hq.1 hb25
            have ht1 := hT (F m 12 + (k : Int)) 
            have hA1 := hA k
            refine xg_baldW 47 dX12_isWord_46 rfl ⟨y2, y4⟩ (by first | omega | exact hR _ | exact ⟨hR _, by omega⟩ | exact ⟨by omega, hR _⟩ | exact ⟨hR _, hR _⟩) ?_
            refine xg_aloadn 48 dX12_isWord_47 rfl rfl rfl ?_
            refine xg_iloadn 49 dX12_isWord_48 rfl rfl rfl ?_
            refine xg_callVo 52 (As := [J (k : Int)]) kv_J0_charAt_5068e rfl (fun u hu => (hSt u hu).1) kl_RX12_104 dX12_isWord_49 rfl rfl rfl (Nat.le_of_ble_eq_true rfl) (by omega) ⟨Nat.le_refl _, Nat.le_refl _⟩ (ct_J0_charAt hSt hZ hn hA (k := k) (by omega)) rfl ?_
            refine xg_icne 59 55 dX12_isWord_52 rfl rfl (by omega) (fun hb52 => ?_) (fun hb52 => ?_)
            · skip
              refine xg_iconst 60 dX12_isWord_59 rfl ?_
              refine xg_istoren 61 _ dX12_isWord_60 rfl rfl rfl (by decide) (Or.inr rfl) ?_
              refine xg_iinc 64 _ dX12_isWord_61 rfl rfl rfl rfl (by decide) (Or.inr rfl) ?_
              refine xg_goto 24 dX12_isWord_64 rfl ?_
              exact xg_weak _ (xle_s rfl (xle_s rfl (xle_s (show some (J 0) = some (J (bI false)) from rfl) (xle_s (by rw [show ((k + 1 : Nat) : Int) = (k : Int) + 1 by omega]) xle_0)))) (ih (k + 1) false (by omega) ⟨fun z => (by cases z), hq.2.trans (by rw [hb25, drop_d (show k < bs.length by omega), zEq, decide_eq_false hb52, Bool.false_and, Bool.and_false, Bool.false_and])⟩ (by omega))
            · skip
              refine xg_iconst 56 dX12_isWord_55 rfl ?_
              refine xg_goto 60 dX12_isWord_56 rfl ?_
              refine xg_istoren 61 _ dX12_isWord_60 rfl rfl rfl (by decide) (Or.inr rfl) ?_
              refine xg_iinc 64 _ dX12_isWord_61 rfl rfl rfl rfl (by decide) (Or.inr rfl) ?_
              refine xg_goto 24 dX12_isWord_64 rfl ?_
              exact xg_weak _ (xle_s rfl (xle_s rfl (xle_s (show some (J 1) = some (J (bI true)) from rfl) (xle_s (by rw [show ((k + 1 : Nat) : Int) = (k : Int) + 1 by omega]) xle_0)))) (ih (k + 1) true (by omega) ⟨fun _ => hal, hq.2.trans (by rw [hb25, drop_d (show k < bs.length by omega), zEq, decide_eq_true (show I (m + 6) (F m 12 + (k : Int)) = bs.getD k 0 by omega), Bool.true_and, show F m 12 + ((k + 1 : Nat) : Int) = F m 12 + (k : Int) + 1 by omega])⟩ (by omega))
    exact xg_weak _ (xle_s rfl (xle_s rfl (xle_s (show some (J 0) = some (J (bI false)) from rfl) (xle_s rfl xle_0)))) (loop24 3000 0 false (by omega) ⟨fun z => (by cases z), zIsB_f hb13⟩ (by omega))
  · skip
    refine xg_iconst 17 dX12_isWord_16 rfl ?_
    refine xg_goto 21 dX12_isWord_17 rfl ?_
    refine xg_istoren 22 _ dX12_isWord_21 rfl rfl rfl (by decide) (Or.inr rfl) ?_
    refine xg_iconst 23 dX12_isWord_22 rfl ?_
    refine xg_istoren 24 _ dX12_isWord_23 rfl rfl rfl (by decide) (Or.inr rfl) ?_
    have loop24 : ∀ (mm : Nat) (k : Nat) (al : Bool), k ≤ bs.length → ((al = true → F m 10 - F m 12 = bs.length) ∧ zIsB (I (m + 6)) (F m 12) (F m 10 - F m 12) bs = (al && zEq (I (m + 6)) (F m 12 + (k : Int)) (bs.drop k))) → 2000 - (k : Int) < (mm : Int) → xG E mX12_isWord (xR d 0 0) X 24 [some (.ref m), some (.ref q8), some (J (bI al)), some (J (k : Int))] [] (z, T, F, upA I (m + 1) w, P, Y) 0 0 := by
      intro mm
      induction mm with
      | zero => intro k al hk hq hm; exfalso; omega
      | succ mm ih =>
        intro k al hk hq hm
        refine xg_iloadn 25 dX12_isWord_24 rfl rfl rfl ?_
        refine xg_beq 67 28 dX12_isWord_25 rfl rfl (fun hb25 => ?_) (fun hb25 => ?_)
        · skip
          refine xg_iloadn 68 dX12_isWord_67 rfl rfl rfl ?_
          subst hX
          exact xg_zreturn dX12_isWord_68 rfl (by first | exact bI_01 _ | omega) ⟨Nat.le_refl _, Nat.le_refl _⟩ ⟨by rw [hq.2, hb25]; rfl, rfl⟩
        · skip
          refine xg_iloadn 29 dX12_isWord_28 rfl rfl rfl ?_
          refine xg_aloadn 30 dX12_isWord_29 rfl rfl rfl ?_
          refine xg_callVo 33 (As := []) kv_J0_length_8abf5 rfl (fun u hu => (hSt u hu).1) kl_RX12_99 dX12_isWord_30 rfl rfl rfl (Nat.le_of_ble_eq_true rfl) (by omega) ⟨Nat.le_refl _, Nat.le_refl _⟩ (ct_J0_length hSt hZ hn) rfl ?_
          refine xg_icge 67 36 dX12_isWord_33 rfl rfl (by first | omega | exact hR _ | exact ⟨hR _, by omega⟩ | exact ⟨by omega, hR _⟩ | exact ⟨hR _, hR _⟩) (fun hb33 => ?_) (fun hb33 => ?_)
          · skip
            refine xg_iloadn 68 dX12_isWord_67 rfl rfl rfl ?_
            subst hX
            exact xg_zreturn dX12_isWord_68 rfl (by first | exact bI_01 _ | omega) ⟨Nat.le_refl _, Nat.le_refl _⟩ ⟨by rw [hq.2, List.drop_eq_nil_of_le (by omega), zEq, Bool.and_true], rfl⟩
          · skip
            refine xg_aloadn 37 dX12_isWord_36 rfl rfl rfl ?_
            refine xg_getP 40 kf_RX12_29 dX12_isWord_37 rfl (by assumption) (by assumption) ?_
            refine xg_aloadn 41 dX12_isWord_40 rfl rfl rfl ?_
            refine xg_getI 44 kf_RX12_93 dX12_isWord_41 rfl (by assumption) ?_
            refine xg_iloadn 45 dX12_isWord_44 rfl rfl rfl ?_
            refine xg_iadd 46 dX12_isWord_45 rfl ?_
            have hal := hq.1 hb25
            have ht1 := hT (F m 12 + (k : Int)) 
            have hA1 := hA k
            refine xg_baldW 47 dX12_isWord_46 rfl ⟨y2, y4⟩ (by first | omega | exact hR _ | exact ⟨hR _, by omega⟩ | exact ⟨by omega, hR _⟩ | exact ⟨hR _, hR _⟩) ?_
            refine xg_aloadn 48 dX12_isWord_47 rfl rfl rfl ?_
            refine xg_iloadn 49 dX12_isWord_48 rfl rfl rfl ?_
            refine xg_callVo 52 (As := [J (k : Int)]) kv_J0_charAt_5068e rfl (fun u hu => (hSt u hu).1) kl_RX12_104 dX12_isWord_49 rfl rfl rfl (Nat.le_of_ble_eq_true rfl) (by omega) ⟨Nat.le_refl _, Nat.le_refl _⟩ (ct_J0_charAt hSt hZ hn hA (k := k) (by omega)) rfl ?_
            refine xg_icne 59 55 dX12_isWord_52 rfl rfl (by omega) (fun hb52 => ?_) (fun hb52 => ?_)
            · skip
              refine xg_iconst 60 dX12_isWord_59 rfl ?_
              refine xg_istoren 61 _ dX12_isWord_60 rfl rfl rfl (by decide) (Or.inr rfl) ?_
              refine xg_iinc 64 _ dX12_isWord_61 rfl rfl rfl rfl (by decide) (Or.inr rfl) ?_
              refine xg_goto 24 dX12_isWord_64 rfl ?_
              exact xg_weak _ (xle_s rfl (xle_s rfl (xle_s (show some (J 0) = some (J (bI false)) from rfl) (xle_s (by rw [show ((k + 1 : Nat) : Int) = (k : Int) + 1 by omega]) xle_0)))) (ih (k + 1) false (by omega) ⟨fun z => (by cases z), hq.2.trans (by rw [hb25, drop_d (show k < bs.length by omega), zEq, decide_eq_false hb52, Bool.false_and, Bool.and_false, Bool.false_and])⟩ (by omega))
            · skip
              refine xg_iconst 56 dX12_isWord_55 rfl ?_
              refine xg_goto 60 dX12_isWord_56 rfl ?_
              refine xg_istoren 61 _ dX12_isWord_60 rfl rfl rfl (by decide) (Or.inr rfl) ?_
              refine xg_iinc 64 _ dX12_isWord_61 rfl rfl rfl rfl (by decide) (Or.inr rfl) ?_
              refine xg_goto 24 dX12_isWord_64 rfl ?_
              exact xg_weak _ (xle_s rfl (xle_s rfl (xle_s (show some (J 1) = some (J (bI true)) from rfl) (xle_s (by rw [show ((k + 1 : Nat) : Int) = (k : Int) + 1 by omega]) xle_0)))) (ih (k + 1) true (by omega) ⟨fun _ => hal, hq.2.trans (by rw [hb25, drop_d (show k < bs.length by omega), zEq, decide_eq_true (show I (m + 6) (F m 12 + (k : Int)) = bs.getD k 0 by omega), Bool.true_and, show F m 12 + ((k + 1 : Nat) : Int) = F m 12 + (k : Int) + 1 by omega])⟩ (by omega))
    exact xg_weak _ (xle_s rfl (xle_s rfl (xle_s (show some (J 1) = some (J (bI true)) from rfl) (xle_s rfl xle_0)))) (loop24 3000 0 true (by omega) ⟨fun _ => by omega, by rw [zIsB_t (by omega), Bool.true_and, List.drop_zero, show F m 12 + ((0 : Nat) : Int) = F m 12 by omega]⟩ (by omega))

