theorem dX7_wordIn_0 : decode cX7_wordIn 0 = .ok (.iconst 0, 1) := by decide +kernel
theorem dX7_wordIn_1 : decode cX7_wordIn 1 = .ok (.istore_n 3, 1) := by decide +kernel
theorem dX7_wordIn_2 : decode cX7_wordIn 2 = .ok (.iconst 0, 1) := by decide +kernel
theorem dX7_wordIn_3 : decode cX7_wordIn 3 = .ok (.istore 4, 2) := by decide +kernel
theorem dX7_wordIn_5 : decode cX7_wordIn 5 = .ok (.iconst 1, 1) := by decide +kernel
theorem dX7_wordIn_6 : decode cX7_wordIn 6 = .ok (.istore 5, 2) := by decide +kernel
theorem dX7_wordIn_8 : decode cX7_wordIn 8 = .ok (.iconst 0, 1) := by decide +kernel
theorem dX7_wordIn_9 : decode cX7_wordIn 9 = .ok (.istore 6, 2) := by decide +kernel
theorem dX7_wordIn_11 : decode cX7_wordIn 11 = .ok (.iload 6, 2) := by decide +kernel
theorem dX7_wordIn_13 : decode cX7_wordIn 13 = .ok (.ldc 52, 2) := by decide +kernel
theorem dX7_wordIn_15 : decode cX7_wordIn 15 = .ok (.invokevirtual 54, 3) := by decide +kernel
theorem dX7_wordIn_18 : decode cX7_wordIn 18 = .ok (.if_icmp .ge 86, 3) := by decide +kernel
theorem dX7_wordIn_21 : decode cX7_wordIn 21 = .ok (.ldc 52, 2) := by decide +kernel
theorem dX7_wordIn_23 : decode cX7_wordIn 23 = .ok (.iload 6, 2) := by decide +kernel
theorem dX7_wordIn_25 : decode cX7_wordIn 25 = .ok (.invokevirtual 60, 3) := by decide +kernel
theorem dX7_wordIn_28 : decode cX7_wordIn 28 = .ok (.istore 7, 2) := by decide +kernel
theorem dX7_wordIn_30 : decode cX7_wordIn 30 = .ok (.iload 7, 2) := by decide +kernel
theorem dX7_wordIn_32 : decode cX7_wordIn 32 = .ok (.bipush 32, 2) := by decide +kernel
theorem dX7_wordIn_34 : decode cX7_wordIn 34 = .ok (.if_icmp .ne 30, 3) := by decide +kernel
theorem dX7_wordIn_37 : decode cX7_wordIn 37 = .ok (.iload 5, 2) := by decide +kernel
theorem dX7_wordIn_39 : decode cX7_wordIn 39 = .ok (.ifCond .eq 13, 3) := by decide +kernel
theorem dX7_wordIn_42 : decode cX7_wordIn 42 = .ok (.iload_n 1, 1) := by decide +kernel
theorem dX7_wordIn_43 : decode cX7_wordIn 43 = .ok (.iload 4, 2) := by decide +kernel
theorem dX7_wordIn_45 : decode cX7_wordIn 45 = .ok (.iadd, 1) := by decide +kernel
theorem dX7_wordIn_46 : decode cX7_wordIn 46 = .ok (.iload_n 2, 1) := by decide +kernel
theorem dX7_wordIn_47 : decode cX7_wordIn 47 = .ok (.if_icmp .ne 5, 3) := by decide +kernel
theorem dX7_wordIn_50 : decode cX7_wordIn 50 = .ok (.iload_n 3, 1) := by decide +kernel
theorem dX7_wordIn_51 : decode cX7_wordIn 51 = .ok (.ireturn, 1) := by decide +kernel
theorem dX7_wordIn_52 : decode cX7_wordIn 52 = .ok (.iinc 3 1, 3) := by decide +kernel
theorem dX7_wordIn_55 : decode cX7_wordIn 55 = .ok (.iconst 0, 1) := by decide +kernel
theorem dX7_wordIn_56 : decode cX7_wordIn 56 = .ok (.istore 4, 2) := by decide +kernel
theorem dX7_wordIn_58 : decode cX7_wordIn 58 = .ok (.iconst 1, 1) := by decide +kernel
theorem dX7_wordIn_59 : decode cX7_wordIn 59 = .ok (.istore 5, 2) := by decide +kernel
theorem dX7_wordIn_61 : decode cX7_wordIn 61 = .ok (.goto 37, 3) := by decide +kernel
theorem dX7_wordIn_64 : decode cX7_wordIn 64 = .ok (.iload 5, 2) := by decide +kernel
theorem dX7_wordIn_66 : decode cX7_wordIn 66 = .ok (.ifCond .eq 26, 3) := by decide +kernel
theorem dX7_wordIn_69 : decode cX7_wordIn 69 = .ok (.iload_n 1, 1) := by decide +kernel
theorem dX7_wordIn_70 : decode cX7_wordIn 70 = .ok (.iload 4, 2) := by decide +kernel
theorem dX7_wordIn_72 : decode cX7_wordIn 72 = .ok (.iadd, 1) := by decide +kernel
theorem dX7_wordIn_73 : decode cX7_wordIn 73 = .ok (.iload_n 2, 1) := by decide +kernel
theorem dX7_wordIn_74 : decode cX7_wordIn 74 = .ok (.if_icmp .ge 18, 3) := by decide +kernel
theorem dX7_wordIn_77 : decode cX7_wordIn 77 = .ok (.aload_n 0, 1) := by decide +kernel
theorem dX7_wordIn_78 : decode cX7_wordIn 78 = .ok (.iload_n 1, 1) := by decide +kernel
theorem dX7_wordIn_79 : decode cX7_wordIn 79 = .ok (.iload 4, 2) := by decide +kernel
theorem dX7_wordIn_81 : decode cX7_wordIn 81 = .ok (.iadd, 1) := by decide +kernel
theorem dX7_wordIn_82 : decode cX7_wordIn 82 = .ok (.iaload, 1) := by decide +kernel
theorem dX7_wordIn_83 : decode cX7_wordIn 83 = .ok (.iload 7, 2) := by decide +kernel
theorem dX7_wordIn_85 : decode cX7_wordIn 85 = .ok (.if_icmp .ne 7, 3) := by decide +kernel
theorem dX7_wordIn_88 : decode cX7_wordIn 88 = .ok (.iconst 1, 1) := by decide +kernel
theorem dX7_wordIn_89 : decode cX7_wordIn 89 = .ok (.goto 4, 3) := by decide +kernel
theorem dX7_wordIn_92 : decode cX7_wordIn 92 = .ok (.iconst 0, 1) := by decide +kernel
theorem dX7_wordIn_93 : decode cX7_wordIn 93 = .ok (.istore 5, 2) := by decide +kernel
theorem dX7_wordIn_95 : decode cX7_wordIn 95 = .ok (.iinc 4 1, 3) := by decide +kernel
theorem dX7_wordIn_98 : decode cX7_wordIn 98 = .ok (.iinc 6 1, 3) := by decide +kernel
theorem dX7_wordIn_101 : decode cX7_wordIn 101 = .ok (.goto (-90), 3) := by decide +kernel
theorem dX7_wordIn_104 : decode cX7_wordIn 104 = .ok (.bipush 50, 2) := by decide +kernel
theorem dX7_wordIn_106 : decode cX7_wordIn 106 = .ok (.ireturn, 1) := by decide +kernel
theorem dX7_sortOf_0 : decode cX7_sortOf 0 = .ok (.aload_n 0, 1) := by decide +kernel
theorem dX7_sortOf_1 : decode cX7_sortOf 1 = .ok (.iload_n 1, 1) := by decide +kernel
theorem dX7_sortOf_2 : decode cX7_sortOf 2 = .ok (.iaload, 1) := by decide +kernel
theorem dX7_sortOf_3 : decode cX7_sortOf 3 = .ok (.invokestatic 45, 3) := by decide +kernel
theorem dX7_sortOf_6 : decode cX7_sortOf 6 = .ok (.istore_n 3, 1) := by decide +kernel
theorem dX7_sortOf_7 : decode cX7_sortOf 7 = .ok (.iload_n 3, 1) := by decide +kernel
theorem dX7_sortOf_8 : decode cX7_sortOf 8 = .ok (.bipush 100, 2) := by decide +kernel
theorem dX7_sortOf_10 : decode cX7_sortOf 10 = .ok (.if_icmp .ne 10, 3) := by decide +kernel
theorem dX7_sortOf_13 : decode cX7_sortOf 13 = .ok (.bipush 100, 2) := by decide +kernel
theorem dX7_sortOf_15 : decode cX7_sortOf 15 = .ok (.aload_n 0, 1) := by decide +kernel
theorem dX7_sortOf_16 : decode cX7_sortOf 16 = .ok (.iload_n 1, 1) := by decide +kernel
theorem dX7_sortOf_17 : decode cX7_sortOf 17 = .ok (.iaload, 1) := by decide +kernel
theorem dX7_sortOf_18 : decode cX7_sortOf 18 = .ok (.iadd, 1) := by decide +kernel
theorem dX7_sortOf_19 : decode cX7_sortOf 19 = .ok (.ireturn, 1) := by decide +kernel
theorem dX7_sortOf_20 : decode cX7_sortOf 20 = .ok (.iload_n 3, 1) := by decide +kernel
theorem dX7_sortOf_21 : decode cX7_sortOf 21 = .ok (.bipush 51, 2) := by decide +kernel
theorem dX7_sortOf_23 : decode cX7_sortOf 23 = .ok (.if_icmp .ne 8, 3) := by decide +kernel
theorem dX7_sortOf_26 : decode cX7_sortOf 26 = .ok (.bipush 51, 2) := by decide +kernel
theorem dX7_sortOf_28 : decode cX7_sortOf 28 = .ok (.goto 9, 3) := by decide +kernel
theorem dX7_sortOf_31 : decode cX7_sortOf 31 = .ok (.aload_n 0, 1) := by decide +kernel
theorem dX7_sortOf_32 : decode cX7_sortOf 32 = .ok (.iload_n 1, 1) := by decide +kernel
theorem dX7_sortOf_33 : decode cX7_sortOf 33 = .ok (.iload_n 2, 1) := by decide +kernel
theorem dX7_sortOf_34 : decode cX7_sortOf 34 = .ok (.invokestatic 49, 3) := by decide +kernel
theorem dX7_sortOf_37 : decode cX7_sortOf 37 = .ok (.ireturn, 1) := by decide +kernel
theorem dX7_open_0 : decode cX7_open 0 = .ok (.aload_n 0, 1) := by decide +kernel
theorem dX7_open_1 : decode cX7_open 1 = .ok (.iconst 0, 1) := by decide +kernel
theorem dX7_open_2 : decode cX7_open 2 = .ok (.putfield 25, 3) := by decide +kernel
theorem dX7_open_5 : decode cX7_open 5 = .ok (.aload_n 0, 1) := by decide +kernel
theorem dX7_open_6 : decode cX7_open 6 = .ok (.iconst 0, 1) := by decide +kernel
theorem dX7_open_7 : decode cX7_open 7 = .ok (.putfield 28, 3) := by decide +kernel
theorem dX7_open_10 : decode cX7_open 10 = .ok (.aload_n 0, 1) := by decide +kernel
theorem dX7_open_11 : decode cX7_open 11 = .ok (.iconst (-1), 1) := by decide +kernel
theorem dX7_open_12 : decode cX7_open 12 = .ok (.putfield 21, 3) := by decide +kernel
theorem dX7_open_15 : decode cX7_open 15 = .ok (.iconst 0, 1) := by decide +kernel
theorem dX7_open_16 : decode cX7_open 16 = .ok (.istore_n 3, 1) := by decide +kernel
theorem dX7_open_17 : decode cX7_open 17 = .ok (.iconst 0, 1) := by decide +kernel
theorem dX7_open_18 : decode cX7_open 18 = .ok (.istore 4, 2) := by decide +kernel
theorem dX7_open_20 : decode cX7_open 20 = .ok (.iload 4, 2) := by decide +kernel
theorem dX7_open_22 : decode cX7_open 22 = .ok (.sipush 400, 3) := by decide +kernel
theorem dX7_open_25 : decode cX7_open 25 = .ok (.if_icmp .ge 63, 3) := by decide +kernel
theorem dX7_open_28 : decode cX7_open 28 = .ok (.iload_n 3, 1) := by decide +kernel
theorem dX7_open_29 : decode cX7_open 29 = .ok (.iload_n 2, 1) := by decide +kernel
theorem dX7_open_30 : decode cX7_open 30 = .ok (.if_icmp .ge 58, 3) := by decide +kernel
theorem dX7_open_33 : decode cX7_open 33 = .ok (.iload_n 3, 1) := by decide +kernel
theorem dX7_open_34 : decode cX7_open 34 = .ok (.aload_n 1, 1) := by decide +kernel
theorem dX7_open_35 : decode cX7_open 35 = .ok (.arraylength, 1) := by decide +kernel
theorem dX7_open_36 : decode cX7_open 36 = .ok (.if_icmp .ge 52, 3) := by decide +kernel
theorem dX7_open_39 : decode cX7_open 39 = .ok (.iload_n 3, 1) := by decide +kernel
theorem dX7_open_40 : decode cX7_open 40 = .ok (.iconst 1, 1) := by decide +kernel
theorem dX7_open_41 : decode cX7_open 41 = .ok (.iadd, 1) := by decide +kernel
theorem dX7_open_42 : decode cX7_open 42 = .ok (.istore 5, 2) := by decide +kernel
theorem dX7_open_44 : decode cX7_open 44 = .ok (.aload_n 1, 1) := by decide +kernel
theorem dX7_open_45 : decode cX7_open 45 = .ok (.iload_n 3, 1) := by decide +kernel
theorem dX7_open_46 : decode cX7_open 46 = .ok (.iaload, 1) := by decide +kernel
theorem dX7_open_47 : decode cX7_open 47 = .ok (.bipush 32, 2) := by decide +kernel
theorem dX7_open_49 : decode cX7_open 49 = .ok (.if_icmp .eq 30, 3) := by decide +kernel
theorem dX7_open_52 : decode cX7_open 52 = .ok (.aload_n 1, 1) := by decide +kernel
theorem dX7_open_53 : decode cX7_open 53 = .ok (.iload_n 3, 1) := by decide +kernel
theorem dX7_open_54 : decode cX7_open 54 = .ok (.iload_n 2, 1) := by decide +kernel
theorem dX7_open_55 : decode cX7_open 55 = .ok (.invokestatic 31, 3) := by decide +kernel
theorem dX7_open_58 : decode cX7_open 58 = .ok (.istore 5, 2) := by decide +kernel
theorem dX7_open_60 : decode cX7_open 60 = .ok (.aload_n 0, 1) := by decide +kernel
theorem dX7_open_61 : decode cX7_open 61 = .ok (.iload_n 3, 1) := by decide +kernel
theorem dX7_open_62 : decode cX7_open 62 = .ok (.aload_n 1, 1) := by decide +kernel
theorem dX7_open_63 : decode cX7_open 63 = .ok (.iload_n 3, 1) := by decide +kernel
theorem dX7_open_64 : decode cX7_open 64 = .ok (.iload 5, 2) := by decide +kernel
theorem dX7_open_66 : decode cX7_open 66 = .ok (.invokestatic 35, 3) := by decide +kernel
theorem dX7_open_69 : decode cX7_open 69 = .ok (.aload_n 1, 1) := by decide +kernel
theorem dX7_open_70 : decode cX7_open 70 = .ok (.iload_n 3, 1) := by decide +kernel
theorem dX7_open_71 : decode cX7_open 71 = .ok (.iload 5, 2) := by decide +kernel
theorem dX7_open_73 : decode cX7_open 73 = .ok (.invokestatic 38, 3) := by decide +kernel
theorem dX7_open_76 : decode cX7_open 76 = .ok (.invokevirtual 41, 3) := by decide +kernel
theorem dX7_open_79 : decode cX7_open 79 = .ok (.iload 5, 2) := by decide +kernel
theorem dX7_open_81 : decode cX7_open 81 = .ok (.istore_n 3, 1) := by decide +kernel
theorem dX7_open_82 : decode cX7_open 82 = .ok (.iinc 4 1, 3) := by decide +kernel
theorem dX7_open_85 : decode cX7_open 85 = .ok (.goto (-65), 3) := by decide +kernel
theorem dX7_open_88 : decode cX7_open 88 = .ok (.aload_n 0, 1) := by decide +kernel
theorem dX7_open_89 : decode cX7_open 89 = .ok (.iload_n 2, 1) := by decide +kernel
theorem dX7_open_90 : decode cX7_open 90 = .ok (.bipush 52, 2) := by decide +kernel
theorem dX7_open_92 : decode cX7_open 92 = .ok (.iconst (-1), 1) := by decide +kernel
theorem dX7_open_93 : decode cX7_open 93 = .ok (.invokevirtual 41, 3) := by decide +kernel
theorem dX7_open_96 : decode cX7_open 96 = .ok (.return_, 1) := by decide +kernel
def zTx : List Int := [108, 101, 118, 101, 108, 32, 114, 117, 110, 115, 32, 101, 110, 116, 114, 105, 101, 115, 32, 100, 101, 98, 116, 32, 116, 97, 98, 108, 101, 32, 102, 97, 110, 32, 116, 105, 99, 107, 32, 98, 117, 115, 121, 32, 116, 105, 101, 114, 101, 100, 32, 102, 117, 108, 108, 32, 112, 97, 99, 101, 32, 99, 111, 115, 116, 32, 119, 111, 114, 116, 104, 32, 114, 117, 110, 32, 111, 102, 32, 115, 105, 122, 101, 32, 108, 101, 118, 101, 108, 108, 101, 100, 32, 105, 102, 32, 111, 114, 32, 97, 110, 100, 32, 110, 111, 116, 32]
theorem zTx_len : zTx.length = 107 := by decide +kernel
theorem zTx_d0 : ∀ i : Fin 107, zTx.drop i.val = zTx.getD i.val 0 :: zTx.drop (i.val + 1) := by decide +kernel
theorem zTx_d {i : Nat} (h : i < 107) : zTx.drop i = zTx.getD i 0 :: zTx.drop (i + 1) := zTx_d0 ⟨i, h⟩
theorem zTx_e : zTx.drop 107 = [] := by decide +kernel
theorem zTx_b0 : ∀ i : Fin 107, 0 ≤ zTx.getD i.val 0 ∧ zTx.getD i.val 0 < 128 := by decide +kernel
theorem zTx_b (i : Nat) : 0 ≤ zTx.getD i 0 ∧ zTx.getD i 0 < 128 := by
  by_cases h : i < 107
  · exact zTx_b0 ⟨i, h⟩
  · rw [List.getD_eq_getElem?_getD, List.getElem?_eq_none (by rw [zTx_len]; omega)]
    decide
/-- the place of the word from p to e among the words that are told one behind another -/
def zWd (t : Int → Int) (p e : Int) : List Int → Int → Int → Bool → Int
  | [], _, _, _ => 50
  | ch :: cs, word, same, al => if ch = 32 then (if al = true ∧ p + same = e then word else zWd t p e cs (word + 1) 0 true) else zWd t p e cs word (same + 1) (al && decide (p + same < e ∧ t (p + same) = ch))
def zWrd (t : Int → Int) (p e : Int) : Int := zWd t p e zTx 0 0 true
/-- the sort of the token from p to e -/
def zSrt (t : Int → Int) (p e : Int) : Int := if zCs (t p) = 100 then 100 + t p else if zCs (t p) = 51 then 51 else zWrd t p e
theorem zWd_b {t : Int → Int} {p e m : Int} (l : List Int) : ∀ (w s : Int) (al : Bool), 50 ≤ m → 0 ≤ w → w + l.length ≤ m → 0 ≤ zWd t p e l w s al ∧ zWd t p e l w s al ≤ m := by
  induction l with
  | nil => intro w s al h0 h1 h2; rw [zWd]; omega
  | cons ch cs ih =>
    intro w s al h0 h1 h2
    rw [List.length_cons] at h2
    rw [zWd]
    split
    · split
      · omega
      · exact ih (w + 1) 0 true h0 (by omega) (by omega)
    · exact ih w (s + 1) _ h0 h1 (by omega)
theorem zWrd_b (t : Int → Int) (p e : Int) : 0 ≤ zWrd t p e ∧ zWrd t p e ≤ 1000 := zWd_b zTx 0 0 true (by omega) (by omega) (by rw [zTx_len]; omega)
set_option maxHeartbeats 4000000 in
set_option maxRecDepth 100000 in
theorem ct_X7_wordIn {E : xE} {z : Nat} {T : Nat → Nat × Int} {F : Nat → Nat → Int} {I : Nat → Int → Int} {P : Nat → Nat → Option Nat} {Y : Nat → Int → Option Nat} {x : Nat} {p e : Int} (hx : (T x).1 = 14 ∧ (T x).2 = 400) (hT : ∀ j : Int, 0 ≤ j → j < 400 → 0 ≤ I x j ∧ I x j ≤ 255) (hp : 0 ≤ p ∧ p < e ∧ e ≤ 400) {q0 v0 : Nat} (hSt : ∀ u : State, E.2.2.2.2 u → oStr E.2.2.2.1 q0 v0 zTx u) {sio : Option Nat} (hZ : ∀ u : State, E.2.2.2.2 u → oSts E.2.2.2.1 sio u) {tx : String} (hR : ∀ u : State, E.2.2.2.2 u → vk_R RX7 52 tx q0 u) : Ct E 4 mX7_wordIn 0 0 [.ref x, J p, J e] (z, T, F, I, P, Y) (xd (some (J (zWrd (I x) p e))) (z, T, F, I, P, Y)) := by
  refine Ct.of [some (.ref x), some (J p), some (J e), none, none, none, none, none] kt_X7_wordIn rfl (Nat.le_of_ble_eq_true rfl) rfl (fun d hd => ?_)
  generalize hX : xN E _ _ _ = X
  refine xg_iconst 1 dX7_wordIn_0 rfl ?_
  refine xg_istoren 2 _ dX7_wordIn_1 rfl rfl rfl (by decide) (Or.inr rfl) ?_
  refine xg_iconst 3 dX7_wordIn_2 rfl ?_
  refine xg_istore 5 _ dX7_wordIn_3 rfl rfl (by decide) (Or.inr rfl) ?_
  refine xg_iconst 6 dX7_wordIn_5 rfl ?_
  refine xg_istore 8 _ dX7_wordIn_6 rfl rfl (by decide) (Or.inr rfl) ?_
  refine xg_iconst 9 dX7_wordIn_8 rfl ?_
  refine xg_istore 11 _ dX7_wordIn_9 rfl rfl (by decide) (Or.inr rfl) ?_
  have loop11 : ∀ (mm : Nat) (i : Nat) (word same : Int) (al : Bool), i ≤ 107 → (0 ≤ word ∧ word ≤ i ∧ 0 ≤ same ∧ same ≤ i) → zWrd (I x) p e = zWd (I x) p e (zTx.drop i) word same al → 200 - (i : Int) < (mm : Int) → xG E mX7_wordIn (xR d 0 0) X 11 [some (.ref x), some (J p), some (J e), some (J word), some (J same), some (J (bI al)), some (J (i : Int)), none] [] (z, T, F, I, P, Y) 0 0 := by
    intro mm
    induction mm with
    | zero => intro i word same al hi hb hq hm; exfalso; omega
    | succ mm ih =>
      intro i word same al hi hb hq hm
      have hz0 := zTx_len
      have hzb := zTx_b i
      refine xg_iload 13 dX7_wordIn_11 rfl rfl ?_
      refine xg_ldcS 15 rfl hR dX7_wordIn_13 rfl ?_
      refine xg_callVo 18 (As := []) kv_J0_length_8abf5 rfl (fun u hu => (hSt u hu).1) kl_RX7_54 dX7_wordIn_15 rfl rfl rfl (Nat.le_of_ble_eq_true rfl) (by omega) ⟨Nat.le_refl _, Nat.le_refl _⟩ (ct_J0_length hSt hZ (by rw [zTx_len]; omega)) rfl ?_
      rw [hz0]
      refine xg_icge 104 21 dX7_wordIn_18 rfl rfl (by omega) (fun hb18 => ?_) (fun hb18 => ?_)
      · skip
        refine xg_bipush 106 dX7_wordIn_104 rfl (by decide) ?_
        subst hX
        exact xg_ireturn dX7_wordIn_106 rfl ⟨Nat.le_refl _, Nat.le_refl _⟩ ⟨congrArg (fun v => some (J v)) (Eq.symm (hq.trans (by rw [show i = 107 by omega, zTx_e, zWd]))), rfl⟩
      · skip
        refine xg_ldcS 23 rfl hR dX7_wordIn_21 rfl ?_
        refine xg_iload 25 dX7_wordIn_23 rfl rfl ?_
        refine xg_callVo 28 (As := [J (i : Int)]) kv_J0_charAt_5068e rfl (fun u hu => (hSt u hu).1) kl_RX7_60 dX7_wordIn_25 rfl rfl rfl (Nat.le_of_ble_eq_true rfl) (by omega) ⟨Nat.le_refl _, Nat.le_refl _⟩ (ct_J0_charAt hSt hZ (by rw [zTx_len]; omega) zTx_b (k := i) (by rw [zTx_len]; omega)) rfl ?_
        refine xg_istore 30 _ dX7_wordIn_28 rfl rfl (by decide) (Or.inr rfl) ?_
        skip
        refine xg_iload 32 dX7_wordIn_30 rfl rfl ?_
        refine xg_bipush 34 dX7_wordIn_32 rfl (by decide) ?_
        refine xg_icne 64 37 dX7_wordIn_34 rfl rfl (by omega) (fun hb34 => ?_) (fun hb34 => ?_)
        · skip
          refine xg_iload 66 dX7_wordIn_64 rfl rfl ?_
          refine xg_beq 92 69 dX7_wordIn_66 rfl rfl (fun hb66 => ?_) (fun hb66 => ?_)
          · skip
            refine xg_iconst 93 dX7_wordIn_92 rfl ?_
            refine xg_istore 95 _ dX7_wordIn_93 rfl rfl (by decide) (Or.inr rfl) ?_
            refine xg_iinc 98 _ dX7_wordIn_95 rfl rfl rfl rfl (by decide) (Or.inr rfl) ?_
            refine xg_iinc 101 _ dX7_wordIn_98 rfl rfl rfl rfl (by decide) (Or.inr rfl) ?_
            refine xg_goto 11 dX7_wordIn_101 rfl ?_
            exact xg_weak _ (xle_s rfl (xle_s rfl (xle_s rfl (xle_s rfl (xle_s rfl (xle_s rfl (xle_s (by rw [show ((i + 1 : Nat) : Int) = (i : Int) + 1 by omega]) (xle_n xle_0)))))))) (ih (i + 1) word (same + 1) false (by omega) (by omega) (hq.trans (by rw [zTx_d (show i < 107 by omega), zWd, if_neg hb34, hb66, Bool.false_and])) (by omega))
          · skip
            refine xg_iloadn 70 dX7_wordIn_69 rfl rfl rfl ?_
            refine xg_iload 72 dX7_wordIn_70 rfl rfl ?_
            refine xg_iadd 73 dX7_wordIn_72 rfl ?_
            refine xg_iloadn 74 dX7_wordIn_73 rfl rfl rfl ?_
            refine xg_icge 92 77 dX7_wordIn_74 rfl rfl (by omega) (fun hb74 => ?_) (fun hb74 => ?_)
            · skip
              refine xg_iconst 93 dX7_wordIn_92 rfl ?_
              refine xg_istore 95 _ dX7_wordIn_93 rfl rfl (by decide) (Or.inr rfl) ?_
              refine xg_iinc 98 _ dX7_wordIn_95 rfl rfl rfl rfl (by decide) (Or.inr rfl) ?_
              refine xg_iinc 101 _ dX7_wordIn_98 rfl rfl rfl rfl (by decide) (Or.inr rfl) ?_
              refine xg_goto 11 dX7_wordIn_101 rfl ?_
              exact xg_weak _ (xle_s rfl (xle_s rfl (xle_s rfl (xle_s rfl (xle_s rfl (xle_s rfl (xle_s (by rw [show ((i + 1 : Nat) : Int) = (i : Int) + 1 by omega]) (xle_n xle_0)))))))) (ih (i + 1) word (same + 1) false (by omega) (by omega) (hq.trans (by rw [zTx_d (show i < 107 by omega), zWd, if_neg hb34, decide_eq_false (by omega), Bool.and_false])) (by omega))
            · skip
              refine xg_aloadn 78 dX7_wordIn_77 rfl rfl rfl ?_
              refine xg_iloadn 79 dX7_wordIn_78 rfl rfl rfl ?_
              refine xg_iload 81 dX7_wordIn_79 rfl rfl ?_
              refine xg_iadd 82 dX7_wordIn_81 rfl ?_
              refine xg_iald 83 dX7_wordIn_82 rfl hx.1 (by rw [hx.2]; omega) ?_
              refine xg_iload 85 dX7_wordIn_83 rfl rfl ?_
              refine xg_icne 92 88 dX7_wordIn_85 rfl rfl (by have := hT (p + same) (by omega) (by omega); omega) (fun hb85 => ?_) (fun hb85 => ?_)
              · skip
                refine xg_iconst 93 dX7_wordIn_92 rfl ?_
                refine xg_istore 95 _ dX7_wordIn_93 rfl rfl (by decide) (Or.inr rfl) ?_
                refine xg_iinc 98 _ dX7_wordIn_95 rfl rfl rfl rfl (by decide) (Or.inr rfl) ?_
                refine xg_iinc 101 _ dX7_wordIn_98 rfl rfl rfl rfl (by decide) (Or.inr rfl) ?_
                refine xg_goto 11 dX7_wordIn_101 rfl ?_
                exact xg_weak _ (xle_s rfl (xle_s rfl (xle_s rfl (xle_s rfl (xle_s rfl (xle_s rfl (xle_s (by rw [show ((i + 1 : Nat) : Int) = (i : Int) + 1 by omega]) (xle_n xle_0)))))))) (ih (i + 1) word (same + 1) false (by omega) (by omega) (hq.trans (by rw [zTx_d (show i < 107 by omega), zWd, if_neg hb34, decide_eq_false (by omega), Bool.and_false])) (by omega))
              · skip
                refine xg_iconst 89 dX7_wordIn_88 rfl ?_
                refine xg_goto 93 dX7_wordIn_89 rfl ?_
                refine xg_istore 95 _ dX7_wordIn_93 rfl rfl (by decide) (Or.inr rfl) ?_
                refine xg_iinc 98 _ dX7_wordIn_95 rfl rfl rfl rfl (by decide) (Or.inr rfl) ?_
                refine xg_iinc 101 _ dX7_wordIn_98 rfl rfl rfl rfl (by decide) (Or.inr rfl) ?_
                refine xg_goto 11 dX7_wordIn_101 rfl ?_
                exact xg_weak _ (xle_s rfl (xle_s rfl (xle_s rfl (xle_s rfl (xle_s rfl (xle_s rfl (xle_s (by rw [show ((i + 1 : Nat) : Int) = (i : Int) + 1 by omega]) (xle_n xle_0)))))))) (ih (i + 1) word (same + 1) true (by omega) (by omega) (hq.trans (by rw [zTx_d (show i < 107 by omega), zWd, if_neg hb34, hb66, decide_eq_true (by omega), Bool.and_true])) (by omega))
        · skip
          refine xg_iload 39 dX7_wordIn_37 rfl rfl ?_
          refine xg_beq 52 42 dX7_wordIn_39 rfl rfl (fun hb39 => ?_) (fun hb39 => ?_)
          · skip
            refine xg_iinc 55 _ dX7_wordIn_52 rfl rfl rfl rfl (by decide) (Or.inr rfl) ?_
            refine xg_iconst 56 dX7_wordIn_55 rfl ?_
            refine xg_istore 58 _ dX7_wordIn_56 rfl rfl (by decide) (Or.inr rfl) ?_
            refine xg_iconst 59 dX7_wordIn_58 rfl ?_
            refine xg_istore 61 _ dX7_wordIn_59 rfl rfl (by decide) (Or.inr rfl) ?_
            refine xg_goto 98 dX7_wordIn_61 rfl ?_
            refine xg_iinc 101 _ dX7_wordIn_98 rfl rfl rfl rfl (by decide) (Or.inr rfl) ?_
            refine xg_goto 11 dX7_wordIn_101 rfl ?_
            exact xg_weak _ (xle_s rfl (xle_s rfl (xle_s rfl (xle_s rfl (xle_s rfl (xle_s rfl (xle_s (by rw [show ((i + 1 : Nat) : Int) = (i : Int) + 1 by omega]) (xle_n xle_0)))))))) (ih (i + 1) (word + 1) 0 true (by omega) (by omega) (hq.trans (by rw [zTx_d (show i < 107 by omega), zWd, if_pos (by omega), if_neg (fun q => by rw [hb39] at q; exact absurd q.1 (by decide))])) (by omega))
          · skip
            refine xg_iloadn 43 dX7_wordIn_42 rfl rfl rfl ?_
            refine xg_iload 45 dX7_wordIn_43 rfl rfl ?_
            refine xg_iadd 46 dX7_wordIn_45 rfl ?_
            refine xg_iloadn 47 dX7_wordIn_46 rfl rfl rfl ?_
            refine xg_icne 52 50 dX7_wordIn_47 rfl rfl (by omega) (fun hb47 => ?_) (fun hb47 => ?_)
            · skip
              refine xg_iinc 55 _ dX7_wordIn_52 rfl rfl rfl rfl (by decide) (Or.inr rfl) ?_
              refine xg_iconst 56 dX7_wordIn_55 rfl ?_
              refine xg_istore 58 _ dX7_wordIn_56 rfl rfl (by decide) (Or.inr rfl) ?_
              refine xg_iconst 59 dX7_wordIn_58 rfl ?_
              refine xg_istore 61 _ dX7_wordIn_59 rfl rfl (by decide) (Or.inr rfl) ?_
              refine xg_goto 98 dX7_wordIn_61 rfl ?_
              refine xg_iinc 101 _ dX7_wordIn_98 rfl rfl rfl rfl (by decide) (Or.inr rfl) ?_
              refine xg_goto 11 dX7_wordIn_101 rfl ?_
              exact xg_weak _ (xle_s rfl (xle_s rfl (xle_s rfl (xle_s rfl (xle_s rfl (xle_s rfl (xle_s (by rw [show ((i + 1 : Nat) : Int) = (i : Int) + 1 by omega]) (xle_n xle_0)))))))) (ih (i + 1) (word + 1) 0 true (by omega) (by omega) (hq.trans (by rw [zTx_d (show i < 107 by omega), zWd, if_pos (by omega), if_neg (fun q => by omega)])) (by omega))
            · skip
              refine xg_iloadn 51 dX7_wordIn_50 rfl rfl rfl ?_
              subst hX
              exact xg_ireturn dX7_wordIn_51 rfl ⟨Nat.le_refl _, Nat.le_refl _⟩ ⟨congrArg (fun v => some (J v)) (Eq.symm (hq.trans (by rw [zTx_d (show i < 107 by omega), zWd, if_pos (by omega), if_pos ⟨hb39, by omega⟩]))), rfl⟩
  exact xg_weak _ (xle_s rfl (xle_s rfl (xle_s rfl (xle_s rfl (xle_s rfl (xle_s rfl (xle_s rfl (xle_n xle_0)))))))) (loop11 300 0 0 0 true (by omega) (by omega) rfl (by omega))

set_option maxHeartbeats 4000000 in
set_option maxRecDepth 100000 in
theorem ct_X7_sortOf {E : xE} {z : Nat} {T : Nat → Nat × Int} {F : Nat → Nat → Int} {I : Nat → Int → Int} {P : Nat → Nat → Option Nat} {Y : Nat → Int → Option Nat} {x : Nat} {p e : Int} (hx : (T x).1 = 14 ∧ (T x).2 = 400) (hT : ∀ j : Int, 0 ≤ j → j < 400 → 0 ≤ I x j ∧ I x j ≤ 255) (hp : 0 ≤ p ∧ p < e ∧ e ≤ 400) {q0 v0 : Nat} (hSt : ∀ u : State, E.2.2.2.2 u → oStr E.2.2.2.1 q0 v0 zTx u) {sio : Option Nat} (hZ : ∀ u : State, E.2.2.2.2 u → oSts E.2.2.2.1 sio u) {tx : String} (hR : ∀ u : State, E.2.2.2.2 u → vk_R RX7 52 tx q0 u) : Ct E 5 mX7_sortOf 0 0 [.ref x, J p, J e] (z, T, F, I, P, Y) (xd (some (J (zSrt (I x) p e))) (z, T, F, I, P, Y)) := by
  have hsp := zCs_b (I x p)
  have htp := hT p (by omega) (by omega)
  refine Ct.of [some (.ref x), some (J p), some (J e), none] kt_X7_sortOf rfl (Nat.le_of_ble_eq_true rfl) rfl (fun d hd => ?_)
  generalize hX : xN E _ _ _ = X
  refine xg_aloadn 1 dX7_sortOf_0 rfl rfl rfl ?_
  refine xg_iloadn 2 dX7_sortOf_1 rfl rfl rfl ?_
  refine xg_iald 3 dX7_sortOf_2 rfl hx.1 (by rw [hx.2]; omega) ?_
  refine xg_callS 6 [_] _ ks_X7_charSort kl_RX7_45 dX7_sortOf_3 rfl rfl rfl (Nat.le_of_ble_eq_true rfl) (by omega) ⟨Nat.le_refl _, Nat.le_refl _⟩ (ct_X7_charSort (by omega)) rfl ?_
  refine xg_istoren 7 _ dX7_sortOf_6 rfl rfl rfl (by decide) (Or.inr rfl) ?_
  refine xg_iloadn 8 dX7_sortOf_7 rfl rfl rfl ?_
  refine xg_bipush 10 dX7_sortOf_8 rfl (by decide) ?_
  refine xg_icne 20 13 dX7_sortOf_10 rfl rfl (by omega) (fun hb10 => ?_) (fun hb10 => ?_)
  · skip
    refine xg_iloadn 21 dX7_sortOf_20 rfl rfl rfl ?_
    refine xg_bipush 23 dX7_sortOf_21 rfl (by decide) ?_
    refine xg_icne 31 26 dX7_sortOf_23 rfl rfl (by omega) (fun hb23 => ?_) (fun hb23 => ?_)
    · skip
      refine xg_aloadn 32 dX7_sortOf_31 rfl rfl rfl ?_
      refine xg_iloadn 33 dX7_sortOf_32 rfl rfl rfl ?_
      refine xg_iloadn 34 dX7_sortOf_33 rfl rfl rfl ?_
      refine xg_callS 37 [_, _, _] _ ks_X7_wordIn kl_RX7_49 dX7_sortOf_34 rfl rfl rfl (Nat.le_of_ble_eq_true rfl) (by omega) ⟨Nat.le_refl _, Nat.le_refl _⟩ (ct_X7_wordIn hx hT hp hSt hZ hR) rfl ?_
      subst hX
      exact xg_ireturn dX7_sortOf_37 rfl ⟨Nat.le_refl _, Nat.le_refl _⟩ ⟨by unfold zSrt; rw [if_neg (by omega), if_neg (by omega)], rfl⟩
    · skip
      refine xg_bipush 28 dX7_sortOf_26 rfl (by decide) ?_
      refine xg_goto 37 dX7_sortOf_28 rfl ?_
      subst hX
      exact xg_ireturn dX7_sortOf_37 rfl ⟨Nat.le_refl _, Nat.le_refl _⟩ ⟨by unfold zSrt; rw [if_neg (by omega), if_pos (by omega)], rfl⟩
  · skip
    refine xg_bipush 15 dX7_sortOf_13 rfl (by decide) ?_
    refine xg_aloadn 16 dX7_sortOf_15 rfl rfl rfl ?_
    refine xg_iloadn 17 dX7_sortOf_16 rfl rfl rfl ?_
    refine xg_iald 18 dX7_sortOf_17 rfl hx.1 (by rw [hx.2]; omega) ?_
    refine xg_iadd 19 dX7_sortOf_18 rfl ?_
    subst hX
    exact xg_ireturn dX7_sortOf_19 rfl ⟨Nat.le_refl _, Nat.le_refl _⟩ ⟨by unfold zSrt; rw [if_pos (by omega)], rfl⟩

/-- blanks skipped -/
def zSkF (t : Int → Int) (e : Int) : Nat → Int → Int
  | 0, p => p
  | k + 1, p => if p < e ∧ t p = 32 then zSkF t e k (p + 1) else p
def zSk (t : Int → Int) (e p : Int) : Int := zSkF t e 400 p
theorem zSkF_out {t : Int → Int} {e p : Int} (h : ¬ (p < e ∧ t p = 32)) : ∀ k : Nat, zSkF t e k p = p
  | 0 => rfl
  | k + 1 => if_neg h
theorem zSkF_b {t : Int → Int} {e : Int} : ∀ (k : Nat) (p : Int), p ≤ e → p ≤ zSkF t e k p ∧ zSkF t e k p ≤ e
  | 0, p, h => by rw [zSkF]; omega
  | k + 1, p, h => by
    rw [zSkF]; split
    · have := zSkF_b (t := t) (e := e) k (p + 1) (by omega); omega
    · omega
theorem zSkF_m {t : Int → Int} {e : Int} : ∀ (k m : Nat) (p : Int), e - p ≤ k → e - p ≤ m → zSkF t e k p = zSkF t e m p
  | 0, m, p, h, h2 => by rw [zSkF, zSkF_out (by omega)]
  | k + 1, 0, p, h, h2 => by rw [zSkF_out (t := t) (e := e) (p := p) (by omega) (k + 1), zSkF]
  | k + 1, m + 1, p, h, h2 => by
    rw [zSkF, zSkF]
    split
    · exact zSkF_m k m (p + 1) (by omega) (by omega)
    · rfl
theorem zSkF_n {t : Int → Int} {e : Int} : ∀ (k : Nat) (p : Int), e - p ≤ k → p ≤ e → zSkF t e k p = e ∨ t (zSkF t e k p) ≠ 32
  | 0, p, h, h2 => by rw [zSkF]; omega
  | k + 1, p, h, h2 => by
    rw [zSkF]; split
    · exact zSkF_n k (p + 1) (by omega) (by omega)
    · by_cases q : p = e
      · exact Or.inl q
      · exact Or.inr (by omega)
theorem zSk_b {t : Int → Int} {e p : Int} (h : p ≤ e) : p ≤ zSk t e p ∧ zSk t e p ≤ e := zSkF_b 400 p h
theorem zSk_out {t : Int → Int} {e p : Int} (h : ¬ (p < e ∧ t p = 32)) : zSk t e p = p := zSkF_out h 400
theorem zSk_s {t : Int → Int} {e p : Int} (h : p < e ∧ t p = 32) (h0 : 0 ≤ p ∧ e ≤ 400) : zSk t e p = zSk t e (p + 1) := by
  unfold zSk
  rw [zSkF, if_pos h]
  exact zSkF_m 399 400 (p + 1) (by omega) (by omega)
theorem zSk_n {t : Int → Int} {e p : Int} (h : p ≤ e) (h0 : 0 ≤ p ∧ e ≤ 400) : zSk t e p = e ∨ t (zSk t e p) ≠ 32 := zSkF_n 400 p (by omega) h
theorem zSk_sk {t : Int → Int} {e p : Int} (h : p ≤ e) (h0 : 0 ≤ p ∧ e ≤ 400) : zSk t e (zSk t e p) = zSk t e p := by
  have h1 := zSk_b (t := t) h
  refine zSk_out (fun q => ?_)
  rcases zSk_n (t := t) h h0 with h2 | h2
  · omega
  · exact h2 q.2
theorem zLe_b {t : Int → Int} {k e : Int} : ∀ (n : Nat) (p : Int), p ≤ e → p ≤ zLe t k n p e ∧ zLe t k n p e ≤ e
  | 0, p, h => by rw [zLe]; omega
  | n + 1, p, h => by
    rw [zLe]; split
    · have := zLe_b (t := t) (k := k) (e := e) n (p + 1) (by omega); omega
    · omega
theorem zLen_b {t : Int → Int} {p e : Int} (h : p < e) : p < zLen t p e ∧ zLen t p e ≤ e := by
  have := zLe_b (t := t) (k := zCs (t p)) 400 (p + 1) (show p + 1 ≤ e by omega)
  unfold zLen; split <;> omega
/-- where the next token begins -/
def zX (t : Int → Int) (e q : Int) : Int := zSk t e (zLen t q e)
theorem zX_b {t : Int → Int} {q e : Int} (h : q < e) : q < zX t e q ∧ zX t e q ≤ e := by
  have h1 := zLen_b (t := t) h
  have h2 := zSk_b (t := t) (e := e) (p := zLen t q e) h1.2
  unfold zX; omega
/-- where the tokens begin -/
def zB (t : Int → Int) (e : Int) : Nat → Int
  | 0 => zSk t e 0
  | i + 1 => if zB t e i < e then zX t e (zB t e i) else e
def zK (t : Int → Int) (e q : Int) : Int := if q < e then zSrt t q (zLen t q e) else 52
def zNm (t : Int → Int) (e q : Int) : Int := if q < e then zNum t q (zLen t q e) else -1
theorem zB_b {t : Int → Int} {e : Int} (h : 0 ≤ e) : ∀ i : Nat, 0 ≤ zB t e i ∧ zB t e i ≤ e ∧ (zB t e i < e → (i : Int) ≤ zB t e i)
  | 0 => by have := zSk_b (t := t) h; rw [zB]; omega
  | i + 1 => by
    have h1 := zB_b (t := t) h i
    rw [zB]; split
    · rename_i h2
      have := zX_b (t := t) h2
      omega
    · omega
/-- the scan holds the tokens of the text -/
def zTok (t : Int → Int) (e : Int) (F : Nat → Nat → Int) (I : Nat → Int → Int) (s N : Nat) : Prop := F s 3 = (N : Int) + 1 ∧ N ≤ 400 ∧ (∀ i : Nat, i ≤ N → I (s + 1) (i : Int) = zB t e i ∧ I (s + 2) (i : Int) = zK t e (zB t e i) ∧ I (s + 3) (i : Int) = zNm t e (zB t e i)) ∧ zB t e N = e ∧ ∀ i : Nat, i < N → zB t e i < e
def pTk (t : Int → Int) (e : Int) (I : Nat → Int → Int) (s c : Nat) : Prop := ∀ i : Nat, i < c → (I (s + 1) (i : Int) = zB t e i ∧ I (s + 2) (i : Int) = zK t e (zB t e i) ∧ I (s + 3) (i : Int) = zNm t e (zB t e i)) ∧ zB t e i < e
theorem zKp_at (I : Nat → Int → Int) (s : Nat) (c b k v : Int) : zKp I s c b k v (s + 1) c = b ∧ zKp I s c b k v (s + 2) c = k ∧ zKp I s c b k v (s + 3) c = v := by
  unfold zKp
  refine ⟨?_, ?_, ?_⟩
  · rw [upI_na _ _ _ _ (by omega), upI_na _ _ _ _ (by omega), upI_at]
  · rw [upI_na _ _ _ _ (by omega), upI_at]
  · rw [upI_at]
theorem zKp_nk (I : Nat → Int → Int) (s : Nat) (c b k v : Int) {j : Int} (hj : j ≠ c) (x : Nat) : zKp I s c b k v x j = I x j := by
  unfold zKp
  rw [upI_nk _ _ _ _ hj, upI_nk _ _ _ _ hj, upI_nk _ _ _ _ hj]
theorem zKp_na (I : Nat → Int → Int) (s : Nat) (c b k v : Int) {x : Nat} (hx : x < s + 1 ∨ s + 4 ≤ x) : zKp I s c b k v x = I x := by
  unfold zKp
  rw [upI_na _ _ _ _ (by omega), upI_na _ _ _ _ (by omega), upI_na _ _ _ _ (by omega)]
theorem pTk.S {t : Int → Int} {e : Int} {I : Nat → Int → Int} {s c : Nat} (h : pTk t e I s c) (hb : zB t e c < e) : pTk t e (zKp I s (c : Int) (zB t e c) (zK t e (zB t e c)) (zNm t e (zB t e c))) s (c + 1) := by
  intro i hi
  by_cases q : i = c
  · subst q; exact ⟨zKp_at I s i _ _ _, hb⟩
  · rw [zKp_nk _ _ _ _ _ _ (by omega), zKp_nk _ _ _ _ _ _ (by omega), zKp_nk _ _ _ _ _ _ (by omega)]
    exact h i (by omega)
theorem pTk.end {t : Int → Int} {e : Int} {F : Nat → Nat → Int} {I : Nat → Int → Int} {s c : Nat} (h : pTk t e I s c) (hb : zB t e c = e) (hc : c ≤ 400) (hF : F s 3 = (c : Int) + 1) : zTok t e F (zKp I s (c : Int) e 52 (-1)) s c := by
  refine ⟨hF, hc, fun i hi => ?_, hb, fun i hi => (h i hi).2⟩
  by_cases q : i = c
  · subst q
    have := zKp_at I s i e 52 (-1)
    unfold zK zNm
    rw [hb, if_neg (by omega), if_neg (by omega)]; exact this
  · rw [zKp_nk _ _ _ _ _ _ (by omega), zKp_nk _ _ _ _ _ _ (by omega), zKp_nk _ _ _ _ _ _ (by omega)]
    exact (h i (by omega)).1
/-- behind open -/
def xOpn (s x : Nat) (e : Int) (z : Nat) (T : Nat → Nat × Int) (F : Nat → Nat → Int) (I : Nat → Int → Int) (P : Nat → Nat → Option Nat) (Y : Nat → Int → Option Nat) : Option Value → xH → Prop := fun v h' => v = none ∧ ∃ (F' : Nat → Nat → Int) (I' : Nat → Int → Int) (N : Nat), h' = (z, T, F', I', P, Y) ∧ zTok (I x) e F' I' s N ∧ (F' s 4 = 0 ∧ F' s 5 = -1) ∧ (∀ b : Nat, b ≠ s → F' b = F b) ∧ ∀ b : Nat, b < s + 1 ∨ s + 4 ≤ b → I' b = I b
set_option maxHeartbeats 4000000 in
set_option maxRecDepth 100000 in
theorem ct_X7_open {E : xE} {z : Nat} {T : Nat → Nat × Int} {F : Nat → Nat → Int} {I : Nat → Int → Int} {P : Nat → Nat → Option Nat} {Y : Nat → Int → Option Nat} {s x : Nat} {e : Int} (hs : wScn T P s) (hx : (T x).1 = 14 ∧ (T x).2 = 400) (hT : ∀ j : Int, 0 ≤ j → j < 400 → 0 ≤ I x j ∧ I x j ≤ 255) (he : 0 ≤ e ∧ e ≤ 400) (hsx : x < s + 1 ∨ s + 4 ≤ x) {qS v0 : Nat} (hSt : ∀ u : State, E.2.2.2.2 u → oStr E.2.2.2.1 qS v0 zTx u) {sio : Option Nat} (hZ : ∀ u : State, E.2.2.2.2 u → oSts E.2.2.2.1 sio u) {tx : String} (hR : ∀ u : State, E.2.2.2.2 u → vk_R RX7 52 tx qS u) : Ct E 6 mX7_open 0 0 [.ref s, .ref x, J e] (z, T, F, I, P, Y) (xOpn s x e z T F I P Y) := by
  obtain ⟨s0, ⟨p0, q0, r0⟩, ⟨p1, q1, r1⟩, p2, q2, r2⟩ := id hs
  refine Ct.of [some (.ref s), some (.ref x), some (J e), none, none, none] kt_X7_open rfl (Nat.le_of_ble_eq_true rfl) rfl (fun d hd => ?_)
  generalize hX : xN E _ _ _ = X
  refine xg_aloadn 1 dX7_open_0 rfl rfl rfl ?_
  refine xg_iconst 2 dX7_open_1 rfl ?_
  refine xg_putI 5 kf_RX7_25 dX7_open_2 rfl (by assumption) ?_
  refine xg_aloadn 6 dX7_open_5 rfl rfl rfl ?_
  refine xg_iconst 7 dX7_open_6 rfl ?_
  refine xg_putI 10 kf_RX7_28 dX7_open_7 rfl (by assumption) ?_
  refine xg_aloadn 11 dX7_open_10 rfl rfl rfl ?_
  refine xg_iconst 12 dX7_open_11 rfl ?_
  refine xg_putI 15 kf_RX7_21 dX7_open_12 rfl (by assumption) ?_
  refine xg_iconst 16 dX7_open_15 rfl ?_
  refine xg_istoren 17 _ dX7_open_16 rfl rfl rfl (by decide) (Or.inr rfl) ?_
  refine xg_iconst 18 dX7_open_17 rfl ?_
  refine xg_istore 20 _ dX7_open_18 rfl rfl (by decide) (Or.inr rfl) ?_
  have loop20 : ∀ (mm : Nat) (i c : Nat) (at0 : Int) (G : Nat → Nat → Int) (J2 : Nat → Int → Int), ((i : Int) ≤ at0 ∧ (c : Int) ≤ at0 ∧ at0 ≤ e ∧ i ≤ 400) → (G s 3 = (c : Int) ∧ G s 4 = 0 ∧ G s 5 = -1) → (∀ b : Nat, b ≠ s → G b = F b) → (∀ b : Nat, b < s + 1 ∨ s + 4 ≤ b → J2 b = I b) → zB (I x) e c = zSk (I x) e at0 → pTk (I x) e J2 s c → 500 - (i : Int) < (mm : Int) → xG E mX7_open (xR d 0 0) X 20 [some (.ref s), some (.ref x), some (J e), some (J at0), some (J (i : Int)), none] [] (z, T, G, J2, P, Y) 0 0 := by
    intro mm
    induction mm with
    | zero => intro i c at0 G J2 hb hG hG4 hJ hk hp hm; exfalso; omega
    | succ mm ih =>
      intro i c at0 G J2 hb hG hG4 hJ hk hp hm
      have hJx : J2 x = I x := hJ x hsx
      refine xg_iload 22 dX7_open_20 rfl rfl ?_
      refine xg_sipush 25 dX7_open_22 rfl (by decide) ?_
      refine xg_icge 88 28 dX7_open_25 rfl rfl (by omega) (fun hb25 => ?_) (fun hb25 => ?_)
      · skip
        refine xg_aloadn 89 dX7_open_88 rfl rfl rfl ?_
        refine xg_iloadn 90 dX7_open_89 rfl rfl rfl ?_
        refine xg_bipush 92 dX7_open_90 rfl (by decide) ?_
        refine xg_iconst 93 dX7_open_92 rfl ?_
        refine xg_callV 96 7 [_, _, _] _ kv_X7_keep ⟨_, _, rfl⟩ kl_RX7_41 dX7_open_93 rfl (by assumption) (by omega) rfl rfl (Nat.le_of_ble_eq_true rfl) (by omega) ⟨Nat.le_refl _, Nat.le_refl _⟩ (ct_X7_keep hs (by omega)) rfl ?_
        subst hX
        refine xg_return dX7_open_96 rfl ⟨Nat.le_refl _, Nat.le_refl _⟩ ?_
        have kc : zB (I x) e c = e := by rw [hk, show at0 = e by omega, zSk_out (by omega)]
        refine ⟨rfl, _, _, c, rfl, ?_, ⟨by rw [upF_nk _ _ _ _ (by omega)]; exact hG.2.1, by rw [upF_nk _ _ _ _ (by omega)]; exact hG.2.2⟩, fun b hb9 => by rw [upF_na _ _ _ _ hb9]; exact hG4 b hb9, fun b hb9 => by rw [zKp_na _ _ _ _ _ _ hb9]; exact hJ b hb9⟩
        rw [hG.1]
        exact hp.end kc (by omega) (by rw [upF_at])
      · skip
        refine xg_iloadn 29 dX7_open_28 rfl rfl rfl ?_
        refine xg_iloadn 30 dX7_open_29 rfl rfl rfl ?_
        refine xg_icge 88 33 dX7_open_30 rfl rfl (by omega) (fun hb30 => ?_) (fun hb30 => ?_)
        · skip
          refine xg_aloadn 89 dX7_open_88 rfl rfl rfl ?_
          refine xg_iloadn 90 dX7_open_89 rfl rfl rfl ?_
          refine xg_bipush 92 dX7_open_90 rfl (by decide) ?_
          refine xg_iconst 93 dX7_open_92 rfl ?_
          refine xg_callV 96 7 [_, _, _] _ kv_X7_keep ⟨_, _, rfl⟩ kl_RX7_41 dX7_open_93 rfl (by assumption) (by omega) rfl rfl (Nat.le_of_ble_eq_true rfl) (by omega) ⟨Nat.le_refl _, Nat.le_refl _⟩ (ct_X7_keep hs (by omega)) rfl ?_
          subst hX
          refine xg_return dX7_open_96 rfl ⟨Nat.le_refl _, Nat.le_refl _⟩ ?_
          have kc : zB (I x) e c = e := by rw [hk, show at0 = e by omega, zSk_out (by omega)]
          refine ⟨rfl, _, _, c, rfl, ?_, ⟨by rw [upF_nk _ _ _ _ (by omega)]; exact hG.2.1, by rw [upF_nk _ _ _ _ (by omega)]; exact hG.2.2⟩, fun b hb9 => by rw [upF_na _ _ _ _ hb9]; exact hG4 b hb9, fun b hb9 => by rw [zKp_na _ _ _ _ _ _ hb9]; exact hJ b hb9⟩
          rw [hG.1]
          exact hp.end kc (by omega) (by rw [upF_at])
        · skip
          refine xg_iloadn 34 dX7_open_33 rfl rfl rfl ?_
          refine xg_aloadn 35 dX7_open_34 rfl rfl rfl ?_
          refine xg_alen 36 dX7_open_35 rfl hx.1 hx.2 ?_
          refine xg_icge 88 39 dX7_open_36 rfl rfl (by omega) (fun hb36 => ?_) (fun hb36 => ?_)
          · exfalso; omega
          · skip
            refine xg_iloadn 40 dX7_open_39 rfl rfl rfl ?_
            refine xg_iconst 41 dX7_open_40 rfl ?_
            refine xg_iadd 42 dX7_open_41 rfl ?_
            refine xg_istore 44 _ dX7_open_42 rfl rfl (by decide) (Or.inr rfl) ?_
            refine xg_aloadn 45 dX7_open_44 rfl rfl rfl ?_
            refine xg_iloadn 46 dX7_open_45 rfl rfl rfl ?_
            refine xg_iald 47 dX7_open_46 rfl hx.1 (by rw [hx.2]; omega) ?_
            rw [hJx]
            refine xg_bipush 49 dX7_open_47 rfl (by decide) ?_
            refine xg_iceq 79 52 dX7_open_49 rfl rfl (by have := hT at0 (by omega) (by omega); omega) (fun hb49 => ?_) (fun hb49 => ?_)
            · skip
              refine xg_iload 81 dX7_open_79 rfl rfl ?_
              refine xg_istoren 82 _ dX7_open_81 rfl rfl rfl (by decide) (Or.inr rfl) ?_
              refine xg_iinc 85 _ dX7_open_82 rfl rfl rfl rfl (by decide) (Or.inr rfl) ?_
              refine xg_goto 20 dX7_open_85 rfl ?_
              exact xg_weak _ (xle_s rfl (xle_s rfl (xle_s rfl (xle_s rfl (xle_s (by rw [show ((i + 1 : Nat) : Int) = (i : Int) + 1 by omega]) (xle_n xle_0)))))) (ih (i + 1) c (at0 + 1) G J2 (by omega) hG hG4 hJ (by rw [hk, zSk_s ⟨by omega, hb49⟩ (by omega)]) hp (by omega))
            · skip
              have kL := zLen_b (t := I x) (p := at0) (e := e) (by omega)
              refine xg_aloadn 53 dX7_open_52 rfl rfl rfl ?_
              refine xg_iloadn 54 dX7_open_53 rfl rfl rfl ?_
              refine xg_iloadn 55 dX7_open_54 rfl rfl rfl ?_
              refine xg_callS 58 [_, _, _] _ ks_X7_lengthOf kl_RX7_31 dX7_open_55 rfl rfl rfl (Nat.le_of_ble_eq_true rfl) (by omega) ⟨Nat.le_refl _, Nat.le_refl _⟩ (ct_X7_lengthOf (I := J2) (x := x) hx (by rw [hJ x hsx]; exact hT) (by omega)) rfl ?_
              rw [hJ x hsx]
              refine xg_istore 60 _ dX7_open_58 rfl rfl (by decide) (Or.inr rfl) ?_
              refine xg_aloadn 61 dX7_open_60 rfl rfl rfl ?_
              refine xg_iloadn 62 dX7_open_61 rfl rfl rfl ?_
              refine xg_aloadn 63 dX7_open_62 rfl rfl rfl ?_
              refine xg_iloadn 64 dX7_open_63 rfl rfl rfl ?_
              refine xg_iload 66 dX7_open_64 rfl rfl ?_
              refine xg_callS 69 [_, _, _] _ ks_X7_sortOf kl_RX7_35 dX7_open_66 rfl rfl rfl (Nat.le_of_ble_eq_true rfl) (by omega) ⟨Nat.le_refl _, Nat.le_refl _⟩ (ct_X7_sortOf (I := J2) (x := x) hx (by rw [hJ x hsx]; exact hT) (e := zLen (I x) at0 e) (by omega) hSt hZ hR) rfl ?_
              rw [hJ x hsx]
              refine xg_aloadn 70 dX7_open_69 rfl rfl rfl ?_
              refine xg_iloadn 71 dX7_open_70 rfl rfl rfl ?_
              refine xg_iload 73 dX7_open_71 rfl rfl ?_
              refine xg_callS 76 [_, _, _] _ ks_X7_numberIn kl_RX7_38 dX7_open_73 rfl rfl rfl (Nat.le_of_ble_eq_true rfl) (by omega) ⟨Nat.le_refl _, Nat.le_refl _⟩ (ct_X7_numberIn (I := J2) (x := x) hx (by rw [hJ x hsx]; exact hT) (e := zLen (I x) at0 e) (by omega)) rfl ?_
              rw [hJ x hsx]
              refine xg_callV 79 7 [_, _, _] _ kv_X7_keep ⟨_, _, rfl⟩ kl_RX7_41 dX7_open_76 rfl (by assumption) (by omega) rfl rfl (Nat.le_of_ble_eq_true rfl) (by omega) ⟨Nat.le_refl _, Nat.le_refl _⟩ (ct_X7_keep hs (by omega)) rfl ?_
              refine xg_iload 81 dX7_open_79 rfl rfl ?_
              refine xg_istoren 82 _ dX7_open_81 rfl rfl rfl (by decide) (Or.inr rfl) ?_
              refine xg_iinc 85 _ dX7_open_82 rfl rfl rfl rfl (by decide) (Or.inr rfl) ?_
              refine xg_goto 20 dX7_open_85 rfl ?_
              have kt : zB (I x) e c = at0 := by rw [hk, zSk_out (fun q => hb49 q.2)]
              exact xg_weak _ (xle_s rfl (xle_s rfl (xle_s rfl (xle_s rfl (xle_s (by rw [show ((i + 1 : Nat) : Int) = (i : Int) + 1 by omega]) (xle_n xle_0)))))) (ih (i + 1) (c + 1) (zLen (I x) at0 e) _ _ (by omega) ⟨by rw [upF_at]; omega, by rw [upF_nk _ _ _ _ (by omega)]; exact hG.2.1, by rw [upF_nk _ _ _ _ (by omega)]; exact hG.2.2⟩ (fun b hb9 => by rw [upF_na _ _ _ _ hb9]; exact hG4 b hb9) (fun b hb9 => by rw [zKp_na _ _ _ _ _ _ hb9]; exact hJ b hb9) (by rw [zB, kt, if_pos (by omega)]; rfl) (by
                have h9 := hp.S (by rw [kt]; omega)
                rw [kt] at h9
                unfold zK zNm at h9
                rw [if_pos (by omega), if_pos (by omega)] at h9
                rw [hG.1]; exact h9) (by omega))
  exact xg_weak _ (xle_s rfl (xle_s rfl (xle_s rfl (xle_s rfl (xle_s rfl (xle_n xle_0)))))) (loop20 600 0 0 0 _ I (by omega) ⟨by rw [upF_nk _ _ _ _ (by omega), upF_nk _ _ _ _ (by omega), upF_at]; rfl, by rw [upF_nk _ _ _ _ (by omega), upF_at], by rw [upF_at]⟩ (fun b hb => by rw [upF_na _ _ _ _ hb, upF_na _ _ _ _ hb, upF_na _ _ _ _ hb]) (fun b hb => rfl) rfl (fun i hi => by omega) (by omega))

