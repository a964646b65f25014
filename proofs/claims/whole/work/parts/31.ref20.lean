theorem nPop_le : ∀ k a : Nat, nPop k a ≤ k
  | 0, _ => Nat.le_refl _
  | k + 1, a => by have := nPop_le k a; rw [nPop]; split <;> omega
def nzI (s : Nat) : Int := xand (xxor (s : Int) (-1)) ((s : Int) - 1)
/-- the least element of a set; 32 of none -/
def nLow (s : Nat) : Int := if s = 0 then 32 else (sFind (fun r => s.testBit r) 12 0 : Nat)
theorem nz_b0 : ∀ a b : Fin 64, -1 ≤ nzI (64 * a.val + b.val) ∧ nzI (64 * a.val + b.val) < 4096 := by decide +kernel
theorem nz_e0 : ∀ a b : Fin 64, nzI (64 * a.val + b.val) ≤ 0 → xand (nzI (64 * a.val + b.val)) 32 = nLow (64 * a.val + b.val) := by decide +kernel
theorem nz_b {s : Nat} (h : s < 4096) : -1 ≤ nzI s ∧ nzI s < 4096 := by
  have := nz_b0 ⟨s / 64, by omega⟩ ⟨s % 64, by omega⟩
  rwa [show 64 * (s / 64) + s % 64 = s by omega] at this
theorem nz_e {s : Nat} (h : s < 4096) (h1 : nzI s ≤ 0) : xand (nzI s) 32 = nLow s := by
  have := nz_e0 ⟨s / 64, by omega⟩ ⟨s % 64, by omega⟩
  rw [show 64 * (s / 64) + s % 64 = s by omega] at this
  exact this h1
theorem xushr_r (a b : Int) : -2147483648 ≤ xushr a b ∧ xushr a b < 2147483648 := by
  unfold xushr
  have h1 := Int32.le_toInt ((Int32.ofInt a).toUInt32 >>> ((Int32.ofInt b).toUInt32 &&& Int32.toUInt32 31)).toInt32
  have h2 := Int32.toInt_lt ((Int32.ofInt a).toUInt32 >>> ((Int32.ofInt b).toUInt32 &&& Int32.toUInt32 31)).toInt32
  omega
theorem nz_0000 : ∀ a b : Fin 64, 0 < nzI (64 * a.val + b.val) → nzI (64 * a.val + b.val) ≤ 256 → nzI (64 * a.val + b.val) ≤ 16 → nzI (64 * a.val + b.val) ≤ 4 → 1 + xushr (nzI (64 * a.val + b.val)) 1 = nLow (64 * a.val + b.val) := by decide +kernel
theorem nz_000 {s : Nat} (h : s < 4096) (h0 : 0 < nzI s) (h1 : nzI s ≤ 256) (h2 : nzI s ≤ 16) (h3 : nzI s ≤ 4) : 1 + xushr (nzI s) 1 = nLow s := by
  have := nz_0000 ⟨s / 64, by omega⟩ ⟨s % 64, by omega⟩
  rw [show 64 * (s / 64) + s % 64 = s by omega] at this
  exact this h0 h1 h2 h3
theorem nz_0010 : ∀ a b : Fin 64, 0 < nzI (64 * a.val + b.val) → nzI (64 * a.val + b.val) ≤ 256 → nzI (64 * a.val + b.val) ≤ 16 → 4 < nzI (64 * a.val + b.val) → 1 + 2 + xushr (xushr (nzI (64 * a.val + b.val)) 2) 1 = nLow (64 * a.val + b.val) := by decide +kernel
theorem nz_001 {s : Nat} (h : s < 4096) (h0 : 0 < nzI s) (h1 : nzI s ≤ 256) (h2 : nzI s ≤ 16) (h3 : 4 < nzI s) : 1 + 2 + xushr (xushr (nzI s) 2) 1 = nLow s := by
  have := nz_0010 ⟨s / 64, by omega⟩ ⟨s % 64, by omega⟩
  rw [show 64 * (s / 64) + s % 64 = s by omega] at this
  exact this h0 h1 h2 h3
theorem nz_0100 : ∀ a b : Fin 64, 0 < nzI (64 * a.val + b.val) → nzI (64 * a.val + b.val) ≤ 256 → 16 < nzI (64 * a.val + b.val) → xushr (nzI (64 * a.val + b.val)) 4 ≤ 4 → 1 + 4 + xushr (xushr (nzI (64 * a.val + b.val)) 4) 1 = nLow (64 * a.val + b.val) := by decide +kernel
theorem nz_010 {s : Nat} (h : s < 4096) (h0 : 0 < nzI s) (h1 : nzI s ≤ 256) (h2 : 16 < nzI s) (h3 : xushr (nzI s) 4 ≤ 4) : 1 + 4 + xushr (xushr (nzI s) 4) 1 = nLow s := by
  have := nz_0100 ⟨s / 64, by omega⟩ ⟨s % 64, by omega⟩
  rw [show 64 * (s / 64) + s % 64 = s by omega] at this
  exact this h0 h1 h2 h3
theorem nz_0110 : ∀ a b : Fin 64, 0 < nzI (64 * a.val + b.val) → nzI (64 * a.val + b.val) ≤ 256 → 16 < nzI (64 * a.val + b.val) → 4 < xushr (nzI (64 * a.val + b.val)) 4 → 1 + 4 + 2 + xushr (xushr (xushr (nzI (64 * a.val + b.val)) 4) 2) 1 = nLow (64 * a.val + b.val) := by decide +kernel
theorem nz_011 {s : Nat} (h : s < 4096) (h0 : 0 < nzI s) (h1 : nzI s ≤ 256) (h2 : 16 < nzI s) (h3 : 4 < xushr (nzI s) 4) : 1 + 4 + 2 + xushr (xushr (xushr (nzI s) 4) 2) 1 = nLow s := by
  have := nz_0110 ⟨s / 64, by omega⟩ ⟨s % 64, by omega⟩
  rw [show 64 * (s / 64) + s % 64 = s by omega] at this
  exact this h0 h1 h2 h3
theorem nz_1000 : ∀ a b : Fin 64, 0 < nzI (64 * a.val + b.val) → 256 < nzI (64 * a.val + b.val) → xushr (nzI (64 * a.val + b.val)) 8 ≤ 16 → xushr (nzI (64 * a.val + b.val)) 8 ≤ 4 → 1 + 8 + xushr (xushr (nzI (64 * a.val + b.val)) 8) 1 = nLow (64 * a.val + b.val) := by decide +kernel
theorem nz_100 {s : Nat} (h : s < 4096) (h0 : 0 < nzI s) (h1 : 256 < nzI s) (h2 : xushr (nzI s) 8 ≤ 16) (h3 : xushr (nzI s) 8 ≤ 4) : 1 + 8 + xushr (xushr (nzI s) 8) 1 = nLow s := by
  have := nz_1000 ⟨s / 64, by omega⟩ ⟨s % 64, by omega⟩
  rw [show 64 * (s / 64) + s % 64 = s by omega] at this
  exact this h0 h1 h2 h3
theorem nz_1010 : ∀ a b : Fin 64, 0 < nzI (64 * a.val + b.val) → 256 < nzI (64 * a.val + b.val) → xushr (nzI (64 * a.val + b.val)) 8 ≤ 16 → 4 < xushr (nzI (64 * a.val + b.val)) 8 → 1 + 8 + 2 + xushr (xushr (xushr (nzI (64 * a.val + b.val)) 8) 2) 1 = nLow (64 * a.val + b.val) := by decide +kernel
theorem nz_101 {s : Nat} (h : s < 4096) (h0 : 0 < nzI s) (h1 : 256 < nzI s) (h2 : xushr (nzI s) 8 ≤ 16) (h3 : 4 < xushr (nzI s) 8) : 1 + 8 + 2 + xushr (xushr (xushr (nzI s) 8) 2) 1 = nLow s := by
  have := nz_1010 ⟨s / 64, by omega⟩ ⟨s % 64, by omega⟩
  rw [show 64 * (s / 64) + s % 64 = s by omega] at this
  exact this h0 h1 h2 h3
theorem nz_1100 : ∀ a b : Fin 64, 0 < nzI (64 * a.val + b.val) → 256 < nzI (64 * a.val + b.val) → 16 < xushr (nzI (64 * a.val + b.val)) 8 → xushr (xushr (nzI (64 * a.val + b.val)) 8) 4 ≤ 4 → 1 + 8 + 4 + xushr (xushr (xushr (nzI (64 * a.val + b.val)) 8) 4) 1 = nLow (64 * a.val + b.val) := by decide +kernel
theorem nz_110 {s : Nat} (h : s < 4096) (h0 : 0 < nzI s) (h1 : 256 < nzI s) (h2 : 16 < xushr (nzI s) 8) (h3 : xushr (xushr (nzI s) 8) 4 ≤ 4) : 1 + 8 + 4 + xushr (xushr (xushr (nzI s) 8) 4) 1 = nLow s := by
  have := nz_1100 ⟨s / 64, by omega⟩ ⟨s % 64, by omega⟩
  rw [show 64 * (s / 64) + s % 64 = s by omega] at this
  exact this h0 h1 h2 h3
theorem nz_1110 : ∀ a b : Fin 64, 0 < nzI (64 * a.val + b.val) → 256 < nzI (64 * a.val + b.val) → 16 < xushr (nzI (64 * a.val + b.val)) 8 → 4 < xushr (xushr (nzI (64 * a.val + b.val)) 8) 4 → 1 + 8 + 4 + 2 + xushr (xushr (xushr (xushr (nzI (64 * a.val + b.val)) 8) 4) 2) 1 = nLow (64 * a.val + b.val) := by decide +kernel
theorem nz_111 {s : Nat} (h : s < 4096) (h0 : 0 < nzI s) (h1 : 256 < nzI s) (h2 : 16 < xushr (nzI s) 8) (h3 : 4 < xushr (xushr (nzI s) 8) 4) : 1 + 8 + 4 + 2 + xushr (xushr (xushr (xushr (nzI s) 8) 4) 2) 1 = nLow s := by
  have := nz_1110 ⟨s / 64, by omega⟩ ⟨s % 64, by omega⟩
  rw [show 64 * (s / 64) + s % 64 = s by omega] at this
  exact this h0 h1 h2 h3
theorem dJ6_numberOfTrailingZeros_0f7a4_0 : decode cJ6_numberOfTrailingZeros_0f7a4 0 = .ok (.iload_n 0, 1) := by decide +kernel
theorem dJ6_numberOfTrailingZeros_0f7a4_1 : decode cJ6_numberOfTrailingZeros_0f7a4 1 = .ok (.iconst (-1), 1) := by decide +kernel
theorem dJ6_numberOfTrailingZeros_0f7a4_2 : decode cJ6_numberOfTrailingZeros_0f7a4 2 = .ok (.ixor, 1) := by decide +kernel
theorem dJ6_numberOfTrailingZeros_0f7a4_3 : decode cJ6_numberOfTrailingZeros_0f7a4 3 = .ok (.iload_n 0, 1) := by decide +kernel
theorem dJ6_numberOfTrailingZeros_0f7a4_4 : decode cJ6_numberOfTrailingZeros_0f7a4 4 = .ok (.iconst 1, 1) := by decide +kernel
theorem dJ6_numberOfTrailingZeros_0f7a4_5 : decode cJ6_numberOfTrailingZeros_0f7a4 5 = .ok (.isub, 1) := by decide +kernel
theorem dJ6_numberOfTrailingZeros_0f7a4_6 : decode cJ6_numberOfTrailingZeros_0f7a4 6 = .ok (.iand, 1) := by decide +kernel
theorem dJ6_numberOfTrailingZeros_0f7a4_7 : decode cJ6_numberOfTrailingZeros_0f7a4 7 = .ok (.istore_n 0, 1) := by decide +kernel
theorem dJ6_numberOfTrailingZeros_0f7a4_8 : decode cJ6_numberOfTrailingZeros_0f7a4 8 = .ok (.iload_n 0, 1) := by decide +kernel
theorem dJ6_numberOfTrailingZeros_0f7a4_9 : decode cJ6_numberOfTrailingZeros_0f7a4 9 = .ok (.ifCond .gt 8, 3) := by decide +kernel
theorem dJ6_numberOfTrailingZeros_0f7a4_12 : decode cJ6_numberOfTrailingZeros_0f7a4 12 = .ok (.iload_n 0, 1) := by decide +kernel
theorem dJ6_numberOfTrailingZeros_0f7a4_13 : decode cJ6_numberOfTrailingZeros_0f7a4 13 = .ok (.bipush 32, 2) := by decide +kernel
theorem dJ6_numberOfTrailingZeros_0f7a4_15 : decode cJ6_numberOfTrailingZeros_0f7a4 15 = .ok (.iand, 1) := by decide +kernel
theorem dJ6_numberOfTrailingZeros_0f7a4_16 : decode cJ6_numberOfTrailingZeros_0f7a4 16 = .ok (.ireturn, 1) := by decide +kernel
theorem dJ6_numberOfTrailingZeros_0f7a4_17 : decode cJ6_numberOfTrailingZeros_0f7a4 17 = .ok (.iconst 1, 1) := by decide +kernel
theorem dJ6_numberOfTrailingZeros_0f7a4_18 : decode cJ6_numberOfTrailingZeros_0f7a4 18 = .ok (.istore_n 1, 1) := by decide +kernel
theorem dJ6_numberOfTrailingZeros_0f7a4_19 : decode cJ6_numberOfTrailingZeros_0f7a4 19 = .ok (.iload_n 0, 1) := by decide +kernel
theorem dJ6_numberOfTrailingZeros_0f7a4_20 : decode cJ6_numberOfTrailingZeros_0f7a4 20 = .ok (.ldc_w 264, 3) := by decide +kernel
theorem dJ6_numberOfTrailingZeros_0f7a4_23 : decode cJ6_numberOfTrailingZeros_0f7a4 23 = .ok (.if_icmp .le 11, 3) := by decide +kernel
theorem dJ6_numberOfTrailingZeros_0f7a4_26 : decode cJ6_numberOfTrailingZeros_0f7a4 26 = .ok (.iinc 1 16, 3) := by decide +kernel
theorem dJ6_numberOfTrailingZeros_0f7a4_29 : decode cJ6_numberOfTrailingZeros_0f7a4 29 = .ok (.iload_n 0, 1) := by decide +kernel
theorem dJ6_numberOfTrailingZeros_0f7a4_30 : decode cJ6_numberOfTrailingZeros_0f7a4 30 = .ok (.bipush 16, 2) := by decide +kernel
theorem dJ6_numberOfTrailingZeros_0f7a4_32 : decode cJ6_numberOfTrailingZeros_0f7a4 32 = .ok (.iushr, 1) := by decide +kernel
theorem dJ6_numberOfTrailingZeros_0f7a4_33 : decode cJ6_numberOfTrailingZeros_0f7a4 33 = .ok (.istore_n 0, 1) := by decide +kernel
theorem dJ6_numberOfTrailingZeros_0f7a4_34 : decode cJ6_numberOfTrailingZeros_0f7a4 34 = .ok (.iload_n 0, 1) := by decide +kernel
theorem dJ6_numberOfTrailingZeros_0f7a4_35 : decode cJ6_numberOfTrailingZeros_0f7a4 35 = .ok (.sipush 256, 3) := by decide +kernel
theorem dJ6_numberOfTrailingZeros_0f7a4_38 : decode cJ6_numberOfTrailingZeros_0f7a4 38 = .ok (.if_icmp .le 11, 3) := by decide +kernel
theorem dJ6_numberOfTrailingZeros_0f7a4_41 : decode cJ6_numberOfTrailingZeros_0f7a4 41 = .ok (.iinc 1 8, 3) := by decide +kernel
theorem dJ6_numberOfTrailingZeros_0f7a4_44 : decode cJ6_numberOfTrailingZeros_0f7a4 44 = .ok (.iload_n 0, 1) := by decide +kernel
theorem dJ6_numberOfTrailingZeros_0f7a4_45 : decode cJ6_numberOfTrailingZeros_0f7a4 45 = .ok (.bipush 8, 2) := by decide +kernel
theorem dJ6_numberOfTrailingZeros_0f7a4_47 : decode cJ6_numberOfTrailingZeros_0f7a4 47 = .ok (.iushr, 1) := by decide +kernel
theorem dJ6_numberOfTrailingZeros_0f7a4_48 : decode cJ6_numberOfTrailingZeros_0f7a4 48 = .ok (.istore_n 0, 1) := by decide +kernel
theorem dJ6_numberOfTrailingZeros_0f7a4_49 : decode cJ6_numberOfTrailingZeros_0f7a4 49 = .ok (.iload_n 0, 1) := by decide +kernel
theorem dJ6_numberOfTrailingZeros_0f7a4_50 : decode cJ6_numberOfTrailingZeros_0f7a4 50 = .ok (.bipush 16, 2) := by decide +kernel
theorem dJ6_numberOfTrailingZeros_0f7a4_52 : decode cJ6_numberOfTrailingZeros_0f7a4 52 = .ok (.if_icmp .le 10, 3) := by decide +kernel
theorem dJ6_numberOfTrailingZeros_0f7a4_55 : decode cJ6_numberOfTrailingZeros_0f7a4 55 = .ok (.iinc 1 4, 3) := by decide +kernel
theorem dJ6_numberOfTrailingZeros_0f7a4_58 : decode cJ6_numberOfTrailingZeros_0f7a4 58 = .ok (.iload_n 0, 1) := by decide +kernel
theorem dJ6_numberOfTrailingZeros_0f7a4_59 : decode cJ6_numberOfTrailingZeros_0f7a4 59 = .ok (.iconst 4, 1) := by decide +kernel
theorem dJ6_numberOfTrailingZeros_0f7a4_60 : decode cJ6_numberOfTrailingZeros_0f7a4 60 = .ok (.iushr, 1) := by decide +kernel
theorem dJ6_numberOfTrailingZeros_0f7a4_61 : decode cJ6_numberOfTrailingZeros_0f7a4 61 = .ok (.istore_n 0, 1) := by decide +kernel
theorem dJ6_numberOfTrailingZeros_0f7a4_62 : decode cJ6_numberOfTrailingZeros_0f7a4 62 = .ok (.iload_n 0, 1) := by decide +kernel
theorem dJ6_numberOfTrailingZeros_0f7a4_63 : decode cJ6_numberOfTrailingZeros_0f7a4 63 = .ok (.iconst 4, 1) := by decide +kernel
theorem dJ6_numberOfTrailingZeros_0f7a4_64 : decode cJ6_numberOfTrailingZeros_0f7a4 64 = .ok (.if_icmp .le 10, 3) := by decide +kernel
theorem dJ6_numberOfTrailingZeros_0f7a4_67 : decode cJ6_numberOfTrailingZeros_0f7a4 67 = .ok (.iinc 1 2, 3) := by decide +kernel
theorem dJ6_numberOfTrailingZeros_0f7a4_70 : decode cJ6_numberOfTrailingZeros_0f7a4 70 = .ok (.iload_n 0, 1) := by decide +kernel
theorem dJ6_numberOfTrailingZeros_0f7a4_71 : decode cJ6_numberOfTrailingZeros_0f7a4 71 = .ok (.iconst 2, 1) := by decide +kernel
theorem dJ6_numberOfTrailingZeros_0f7a4_72 : decode cJ6_numberOfTrailingZeros_0f7a4 72 = .ok (.iushr, 1) := by decide +kernel
theorem dJ6_numberOfTrailingZeros_0f7a4_73 : decode cJ6_numberOfTrailingZeros_0f7a4 73 = .ok (.istore_n 0, 1) := by decide +kernel
theorem dJ6_numberOfTrailingZeros_0f7a4_74 : decode cJ6_numberOfTrailingZeros_0f7a4 74 = .ok (.iload_n 1, 1) := by decide +kernel
theorem dJ6_numberOfTrailingZeros_0f7a4_75 : decode cJ6_numberOfTrailingZeros_0f7a4 75 = .ok (.iload_n 0, 1) := by decide +kernel
theorem dJ6_numberOfTrailingZeros_0f7a4_76 : decode cJ6_numberOfTrailingZeros_0f7a4 76 = .ok (.iconst 1, 1) := by decide +kernel
theorem dJ6_numberOfTrailingZeros_0f7a4_77 : decode cJ6_numberOfTrailingZeros_0f7a4 77 = .ok (.iushr, 1) := by decide +kernel
theorem dJ6_numberOfTrailingZeros_0f7a4_78 : decode cJ6_numberOfTrailingZeros_0f7a4 78 = .ok (.iadd, 1) := by decide +kernel
theorem dJ6_numberOfTrailingZeros_0f7a4_79 : decode cJ6_numberOfTrailingZeros_0f7a4 79 = .ok (.ireturn, 1) := by decide +kernel
set_option maxHeartbeats 4000000 in
set_option maxRecDepth 100000 in
theorem ct_J6_numberOfTrailingZeros_0f7a4 {E : xE} {h : xH} {s : Nat} (hs : s < 4096) : Ct E 0 mJ6_numberOfTrailingZeros_0f7a4 0 0 [J (s : Int)] h (xd (some (J (nLow s))) h) := by
  have hb0 := nz_b hs
  have u8 := xushr_r (nzI s) 8
  have u4 := xushr_r (nzI s) 4
  have u2 := xushr_r (nzI s) 2
  have u84 := xushr_r (xushr (nzI s) 8) 4
  have u82 := xushr_r (xushr (nzI s) 8) 2
  have u42 := xushr_r (xushr (nzI s) 4) 2
  have u842 := xushr_r (xushr (xushr (nzI s) 8) 4) 2
  refine Ct.of [some (J (s : Int)), none] kt_J6_numberOfTrailingZeros_0f7a4 rfl (Nat.le_of_ble_eq_true rfl) rfl (fun d hd => ?_)
  generalize hX : xN E _ _ _ = X
  refine xg_iloadn 1 dJ6_numberOfTrailingZeros_0f7a4_0 rfl rfl rfl ?_
  refine xg_iconst 2 dJ6_numberOfTrailingZeros_0f7a4_1 rfl ?_
  refine xg_ixor 3 dJ6_numberOfTrailingZeros_0f7a4_2 rfl ?_
  refine xg_iloadn 4 dJ6_numberOfTrailingZeros_0f7a4_3 rfl rfl rfl ?_
  refine xg_iconst 5 dJ6_numberOfTrailingZeros_0f7a4_4 rfl ?_
  refine xg_isub 6 dJ6_numberOfTrailingZeros_0f7a4_5 rfl ?_
  refine xg_iand 7 dJ6_numberOfTrailingZeros_0f7a4_6 rfl ?_
  change xG _ _ _ _ _ _ (J (nzI s) :: _) _ _ _
  refine xg_istoren 8 _ dJ6_numberOfTrailingZeros_0f7a4_7 rfl rfl rfl (by decide) (Or.inl rfl) ?_
  refine xg_iloadn 9 dJ6_numberOfTrailingZeros_0f7a4_8 rfl rfl rfl ?_
  refine xg_ifgt 17 12 dJ6_numberOfTrailingZeros_0f7a4_9 rfl rfl (by omega) (fun hb9 => ?_) (fun hb9 => ?_)
  · skip
    refine xg_iconst 18 dJ6_numberOfTrailingZeros_0f7a4_17 rfl ?_
    refine xg_istoren 19 _ dJ6_numberOfTrailingZeros_0f7a4_18 rfl rfl rfl (by decide) (Or.inr rfl) ?_
    refine xg_iloadn 20 dJ6_numberOfTrailingZeros_0f7a4_19 rfl rfl rfl ?_
    refine xg_ldcw (z := 65536) 23 kk_RJ6_264 dJ6_numberOfTrailingZeros_0f7a4_20 rfl rfl ?_
    refine xg_icle 34 26 dJ6_numberOfTrailingZeros_0f7a4_23 rfl rfl (by omega) (fun hb23 => ?_) (fun hb23 => ?_)
    · skip
      refine xg_iloadn 35 dJ6_numberOfTrailingZeros_0f7a4_34 rfl rfl rfl ?_
      refine xg_sipush 38 dJ6_numberOfTrailingZeros_0f7a4_35 rfl (by decide) ?_
      refine xg_icle 49 41 dJ6_numberOfTrailingZeros_0f7a4_38 rfl rfl (by omega) (fun hb38 => ?_) (fun hb38 => ?_)
      · skip
        refine xg_iloadn 50 dJ6_numberOfTrailingZeros_0f7a4_49 rfl rfl rfl ?_
        refine xg_bipush 52 dJ6_numberOfTrailingZeros_0f7a4_50 rfl (by decide) ?_
        refine xg_icle 62 55 dJ6_numberOfTrailingZeros_0f7a4_52 rfl rfl (by omega) (fun hb52 => ?_) (fun hb52 => ?_)
        · skip
          refine xg_iloadn 63 dJ6_numberOfTrailingZeros_0f7a4_62 rfl rfl rfl ?_
          refine xg_iconst 64 dJ6_numberOfTrailingZeros_0f7a4_63 rfl ?_
          refine xg_icle 74 67 dJ6_numberOfTrailingZeros_0f7a4_64 rfl rfl (by omega) (fun hb64 => ?_) (fun hb64 => ?_)
          · skip
            refine xg_iloadn 75 dJ6_numberOfTrailingZeros_0f7a4_74 rfl rfl rfl ?_
            refine xg_iloadn 76 dJ6_numberOfTrailingZeros_0f7a4_75 rfl rfl rfl ?_
            refine xg_iconst 77 dJ6_numberOfTrailingZeros_0f7a4_76 rfl ?_
            refine xg_iushr 78 dJ6_numberOfTrailingZeros_0f7a4_77 rfl ?_
            refine xg_iadd 79 dJ6_numberOfTrailingZeros_0f7a4_78 rfl ?_
            subst hX
            exact xg_ireturn dJ6_numberOfTrailingZeros_0f7a4_79 rfl ⟨Nat.le_refl _, Nat.le_refl _⟩ ⟨congrArg (fun v => some (J v)) (nz_000 hs hb9 hb38 hb52 hb64), rfl⟩
          · skip
            refine xg_iinc 70 _ dJ6_numberOfTrailingZeros_0f7a4_67 rfl rfl rfl rfl (by decide) (Or.inr rfl) ?_
            refine xg_iloadn 71 dJ6_numberOfTrailingZeros_0f7a4_70 rfl rfl rfl ?_
            refine xg_iconst 72 dJ6_numberOfTrailingZeros_0f7a4_71 rfl ?_
            refine xg_iushr 73 dJ6_numberOfTrailingZeros_0f7a4_72 rfl ?_
            refine xg_istoren 74 _ dJ6_numberOfTrailingZeros_0f7a4_73 rfl rfl rfl (by decide) (Or.inl rfl) ?_
            refine xg_iloadn 75 dJ6_numberOfTrailingZeros_0f7a4_74 rfl rfl rfl ?_
            refine xg_iloadn 76 dJ6_numberOfTrailingZeros_0f7a4_75 rfl rfl rfl ?_
            refine xg_iconst 77 dJ6_numberOfTrailingZeros_0f7a4_76 rfl ?_
            refine xg_iushr 78 dJ6_numberOfTrailingZeros_0f7a4_77 rfl ?_
            refine xg_iadd 79 dJ6_numberOfTrailingZeros_0f7a4_78 rfl ?_
            subst hX
            exact xg_ireturn dJ6_numberOfTrailingZeros_0f7a4_79 rfl ⟨Nat.le_refl _, Nat.le_refl _⟩ ⟨congrArg (fun v => some (J v)) (nz_001 hs hb9 hb38 hb52 hb64), rfl⟩
        · skip
          refine xg_iinc 58 _ dJ6_numberOfTrailingZeros_0f7a4_55 rfl rfl rfl rfl (by decide) (Or.inr rfl) ?_
          refine xg_iloadn 59 dJ6_numberOfTrailingZeros_0f7a4_58 rfl rfl rfl ?_
          refine xg_iconst 60 dJ6_numberOfTrailingZeros_0f7a4_59 rfl ?_
          refine xg_iushr 61 dJ6_numberOfTrailingZeros_0f7a4_60 rfl ?_
          refine xg_istoren 62 _ dJ6_numberOfTrailingZeros_0f7a4_61 rfl rfl rfl (by decide) (Or.inl rfl) ?_
          refine xg_iloadn 63 dJ6_numberOfTrailingZeros_0f7a4_62 rfl rfl rfl ?_
          refine xg_iconst 64 dJ6_numberOfTrailingZeros_0f7a4_63 rfl ?_
          refine xg_icle 74 67 dJ6_numberOfTrailingZeros_0f7a4_64 rfl rfl (by omega) (fun hb64 => ?_) (fun hb64 => ?_)
          · skip
            refine xg_iloadn 75 dJ6_numberOfTrailingZeros_0f7a4_74 rfl rfl rfl ?_
            refine xg_iloadn 76 dJ6_numberOfTrailingZeros_0f7a4_75 rfl rfl rfl ?_
            refine xg_iconst 77 dJ6_numberOfTrailingZeros_0f7a4_76 rfl ?_
            refine xg_iushr 78 dJ6_numberOfTrailingZeros_0f7a4_77 rfl ?_
            refine xg_iadd 79 dJ6_numberOfTrailingZeros_0f7a4_78 rfl ?_
            subst hX
            exact xg_ireturn dJ6_numberOfTrailingZeros_0f7a4_79 rfl ⟨Nat.le_refl _, Nat.le_refl _⟩ ⟨congrArg (fun v => some (J v)) (nz_010 hs hb9 hb38 hb52 hb64), rfl⟩
          · skip
            refine xg_iinc 70 _ dJ6_numberOfTrailingZeros_0f7a4_67 rfl rfl rfl rfl (by decide) (Or.inr rfl) ?_
            refine xg_iloadn 71 dJ6_numberOfTrailingZeros_0f7a4_70 rfl rfl rfl ?_
            refine xg_iconst 72 dJ6_numberOfTrailingZeros_0f7a4_71 rfl ?_
            refine xg_iushr 73 dJ6_numberOfTrailingZeros_0f7a4_72 rfl ?_
            refine xg_istoren 74 _ dJ6_numberOfTrailingZeros_0f7a4_73 rfl rfl rfl (by decide) (Or.inl rfl) ?_
            refine xg_iloadn 75 dJ6_numberOfTrailingZeros_0f7a4_74 rfl rfl rfl ?_
            refine xg_iloadn 76 dJ6_numberOfTrailingZeros_0f7a4_75 rfl rfl rfl ?_
            refine xg_iconst 77 dJ6_numberOfTrailingZeros_0f7a4_76 rfl ?_
            refine xg_iushr 78 dJ6_numberOfTrailingZeros_0f7a4_77 rfl ?_
            refine xg_iadd 79 dJ6_numberOfTrailingZeros_0f7a4_78 rfl ?_
            subst hX
            exact xg_ireturn dJ6_numberOfTrailingZeros_0f7a4_79 rfl ⟨Nat.le_refl _, Nat.le_refl _⟩ ⟨congrArg (fun v => some (J v)) (nz_011 hs hb9 hb38 hb52 hb64), rfl⟩
      · skip
        refine xg_iinc 44 _ dJ6_numberOfTrailingZeros_0f7a4_41 rfl rfl rfl rfl (by decide) (Or.inr rfl) ?_
        refine xg_iloadn 45 dJ6_numberOfTrailingZeros_0f7a4_44 rfl rfl rfl ?_
        refine xg_bipush 47 dJ6_numberOfTrailingZeros_0f7a4_45 rfl (by decide) ?_
        refine xg_iushr 48 dJ6_numberOfTrailingZeros_0f7a4_47 rfl ?_
        refine xg_istoren 49 _ dJ6_numberOfTrailingZeros_0f7a4_48 rfl rfl rfl (by decide) (Or.inl rfl) ?_
        refine xg_iloadn 50 dJ6_numberOfTrailingZeros_0f7a4_49 rfl rfl rfl ?_
        refine xg_bipush 52 dJ6_numberOfTrailingZeros_0f7a4_50 rfl (by decide) ?_
        refine xg_icle 62 55 dJ6_numberOfTrailingZeros_0f7a4_52 rfl rfl (by omega) (fun hb52 => ?_) (fun hb52 => ?_)
        · skip
          refine xg_iloadn 63 dJ6_numberOfTrailingZeros_0f7a4_62 rfl rfl rfl ?_
          refine xg_iconst 64 dJ6_numberOfTrailingZeros_0f7a4_63 rfl ?_
          refine xg_icle 74 67 dJ6_numberOfTrailingZeros_0f7a4_64 rfl rfl (by omega) (fun hb64 => ?_) (fun hb64 => ?_)
          · skip
            refine xg_iloadn 75 dJ6_numberOfTrailingZeros_0f7a4_74 rfl rfl rfl ?_
            refine xg_iloadn 76 dJ6_numberOfTrailingZeros_0f7a4_75 rfl rfl rfl ?_
            refine xg_iconst 77 dJ6_numberOfTrailingZeros_0f7a4_76 rfl ?_
            refine xg_iushr 78 dJ6_numberOfTrailingZeros_0f7a4_77 rfl ?_
            refine xg_iadd 79 dJ6_numberOfTrailingZeros_0f7a4_78 rfl ?_
            subst hX
            exact xg_ireturn dJ6_numberOfTrailingZeros_0f7a4_79 rfl ⟨Nat.le_refl _, Nat.le_refl _⟩ ⟨congrArg (fun v => some (J v)) (nz_100 hs hb9 hb38 hb52 hb64), rfl⟩
          · skip
            refine xg_iinc 70 _ dJ6_numberOfTrailingZeros_0f7a4_67 rfl rfl rfl rfl (by decide) (Or.inr rfl) ?_
            refine xg_iloadn 71 dJ6_numberOfTrailingZeros_0f7a4_70 rfl rfl rfl ?_
            refine xg_iconst 72 dJ6_numberOfTrailingZeros_0f7a4_71 rfl ?_
            refine xg_iushr 73 dJ6_numberOfTrailingZeros_0f7a4_72 rfl ?_
            refine xg_istoren 74 _ dJ6_numberOfTrailingZeros_0f7a4_73 rfl rfl rfl (by decide) (Or.inl rfl) ?_
            refine xg_iloadn 75 dJ6_numberOfTrailingZeros_0f7a4_74 rfl rfl rfl ?_
            refine xg_iloadn 76 dJ6_numberOfTrailingZeros_0f7a4_75 rfl rfl rfl ?_
            refine xg_iconst 77 dJ6_numberOfTrailingZeros_0f7a4_76 rfl ?_
            refine xg_iushr 78 dJ6_numberOfTrailingZeros_0f7a4_77 rfl ?_
            refine xg_iadd 79 dJ6_numberOfTrailingZeros_0f7a4_78 rfl ?_
            subst hX
            exact xg_ireturn dJ6_numberOfTrailingZeros_0f7a4_79 rfl ⟨Nat.le_refl _, Nat.le_refl _⟩ ⟨congrArg (fun v => some (J v)) (nz_101 hs hb9 hb38 hb52 hb64), rfl⟩
        · skip
          refine xg_iinc 58 _ dJ6_numberOfTrailingZeros_0f7a4_55 rfl rfl rfl rfl (by decide) (Or.inr rfl) ?_
          refine xg_iloadn 59 dJ6_numberOfTrailingZeros_0f7a4_58 rfl rfl rfl ?_
          refine xg_iconst 60 dJ6_numberOfTrailingZeros_0f7a4_59 rfl ?_
          refine xg_iushr 61 dJ6_numberOfTrailingZeros_0f7a4_60 rfl ?_
          refine xg_istoren 62 _ dJ6_numberOfTrailingZeros_0f7a4_61 rfl rfl rfl (by decide) (Or.inl rfl) ?_
          refine xg_iloadn 63 dJ6_numberOfTrailingZeros_0f7a4_62 rfl rfl rfl ?_
          refine xg_iconst 64 dJ6_numberOfTrailingZeros_0f7a4_63 rfl ?_
          refine xg_icle 74 67 dJ6_numberOfTrailingZeros_0f7a4_64 rfl rfl (by omega) (fun hb64 => ?_) (fun hb64 => ?_)
          · skip
            refine xg_iloadn 75 dJ6_numberOfTrailingZeros_0f7a4_74 rfl rfl rfl ?_
            refine xg_iloadn 76 dJ6_numberOfTrailingZeros_0f7a4_75 rfl rfl rfl ?_
            refine xg_iconst 77 dJ6_numberOfTrailingZeros_0f7a4_76 rfl ?_
            refine xg_iushr 78 dJ6_numberOfTrailingZeros_0f7a4_77 rfl ?_
            refine xg_iadd 79 dJ6_numberOfTrailingZeros_0f7a4_78 rfl ?_
            subst hX
            exact xg_ireturn dJ6_numberOfTrailingZeros_0f7a4_79 rfl ⟨Nat.le_refl _, Nat.le_refl _⟩ ⟨congrArg (fun v => some (J v)) (nz_110 hs hb9 hb38 hb52 hb64), rfl⟩
          · skip
            refine xg_iinc 70 _ dJ6_numberOfTrailingZeros_0f7a4_67 rfl rfl rfl rfl (by decide) (Or.inr rfl) ?_
            refine xg_iloadn 71 dJ6_numberOfTrailingZeros_0f7a4_70 rfl rfl rfl ?_
            refine xg_iconst 72 dJ6_numberOfTrailingZeros_0f7a4_71 rfl ?_
            refine xg_iushr 73 dJ6_numberOfTrailingZeros_0f7a4_72 rfl ?_
            refine xg_istoren 74 _ dJ6_numberOfTrailingZeros_0f7a4_73 rfl rfl rfl (by decide) (Or.inl rfl) ?_
            refine xg_iloadn 75 dJ6_numberOfTrailingZeros_0f7a4_74 rfl rfl rfl ?_
            refine xg_iloadn 76 dJ6_numberOfTrailingZeros_0f7a4_75 rfl rfl rfl ?_
            refine xg_iconst 77 dJ6_numberOfTrailingZeros_0f7a4_76 rfl ?_
            refine xg_iushr 78 dJ6_numberOfTrailingZeros_0f7a4_77 rfl ?_
            refine xg_iadd 79 dJ6_numberOfTrailingZeros_0f7a4_78 rfl ?_
            subst hX
            exact xg_ireturn dJ6_numberOfTrailingZeros_0f7a4_79 rfl ⟨Nat.le_refl _, Nat.le_refl _⟩ ⟨congrArg (fun v => some (J v)) (nz_111 hs hb9 hb38 hb52 hb64), rfl⟩
    · exfalso; omega
  · skip
    refine xg_iloadn 13 dJ6_numberOfTrailingZeros_0f7a4_12 rfl rfl rfl ?_
    refine xg_bipush 15 dJ6_numberOfTrailingZeros_0f7a4_13 rfl (by decide) ?_
    refine xg_iand 16 dJ6_numberOfTrailingZeros_0f7a4_15 rfl ?_
    subst hX
    exact xg_ireturn dJ6_numberOfTrailingZeros_0f7a4_16 rfl ⟨Nat.le_refl _, Nat.le_refl _⟩ ⟨congrArg (fun v => some (J v)) (nz_e hs hb9), rfl⟩

theorem dX12_firstOf_0 : decode cX12_firstOf 0 = .ok (.iload_n 0, 1) := by decide +kernel
theorem dX12_firstOf_1 : decode cX12_firstOf 1 = .ok (.invokestatic 425, 3) := by decide +kernel
theorem dX12_firstOf_4 : decode cX12_firstOf 4 = .ok (.ireturn, 1) := by decide +kernel
set_option maxHeartbeats 4000000 in
set_option maxRecDepth 100000 in
theorem ct_X12_firstOf {E : xE} {z : Nat} {T : Nat → Nat × Int} {F : Nat → Nat → Int} {I : Nat → Int → Int} {P : Nat → Nat → Option Nat} {Y : Nat → Int → Option Nat} {m : Nat} {w : Int → Int} {s : Nat} (hs : s < 4096) : Ct E 1 mX12_firstOf 0 0 [J (s : Int)] (z, T, F, upA I (m + 1) w, P, Y) (xd (some (J (nLow s))) (z, T, F, upA I (m + 1) w, P, Y)) := by
  skip
  refine Ct.of [some (J (s : Int))] kt_X12_firstOf rfl (Nat.le_of_ble_eq_true rfl) rfl (fun d hd => ?_)
  generalize hX : xN E _ _ _ = X
  refine xg_iloadn 1 dX12_firstOf_0 rfl rfl rfl ?_
  refine xg_callS 4 [_] _ ks_J6_numberOfTrailingZeros_0f7a4 kl_RX12_425 dX12_firstOf_1 rfl rfl rfl (Nat.le_of_ble_eq_true rfl) (by omega) ⟨Nat.le_refl _, Nat.le_refl _⟩ (ct_J6_numberOfTrailingZeros_0f7a4 (by assumption)) rfl ?_
  subst hX
  exact xg_ireturn dX12_firstOf_4 rfl ⟨Nat.le_refl _, Nat.le_refl _⟩ ⟨rfl, rfl⟩

theorem dX12_may_0 : decode cX12_may 0 = .ok (.aload_n 0, 1) := by decide +kernel
theorem dX12_may_1 : decode cX12_may 1 = .ok (.invokevirtual 240, 3) := by decide +kernel
theorem dX12_may_4 : decode cX12_may 4 = .ok (.aload_n 0, 1) := by decide +kernel
theorem dX12_may_5 : decode cX12_may 5 = .ok (.aload_n 0, 1) := by decide +kernel
theorem dX12_may_6 : decode cX12_may 6 = .ok (.invokevirtual 419, 3) := by decide +kernel
theorem dX12_may_9 : decode cX12_may 9 = .ok (.ifCond .ne 7, 3) := by decide +kernel
theorem dX12_may_12 : decode cX12_may 12 = .ok (.iconst 1, 1) := by decide +kernel
theorem dX12_may_13 : decode cX12_may 13 = .ok (.goto 4, 3) := by decide +kernel
theorem dX12_may_16 : decode cX12_may 16 = .ok (.iconst 0, 1) := by decide +kernel
theorem dX12_may_17 : decode cX12_may 17 = .ok (.iconst 1, 1) := by decide +kernel
theorem dX12_may_18 : decode cX12_may 18 = .ok (.invokevirtual 251, 3) := by decide +kernel
theorem dX12_may_21 : decode cX12_may 21 = .ok (.ifCond .eq 7, 3) := by decide +kernel
theorem dX12_may_24 : decode cX12_may 24 = .ok (.iconst 0, 1) := by decide +kernel
theorem dX12_may_25 : decode cX12_may 25 = .ok (.goto 8, 3) := by decide +kernel
theorem dX12_may_28 : decode cX12_may 28 = .ok (.aload_n 0, 1) := by decide +kernel
theorem dX12_may_29 : decode cX12_may 29 = .ok (.iconst 1, 1) := by decide +kernel
theorem dX12_may_30 : decode cX12_may 30 = .ok (.invokevirtual 422, 3) := by decide +kernel
theorem dX12_may_33 : decode cX12_may 33 = .ok (.ireturn, 1) := by decide +kernel
set_option maxHeartbeats 4000000 in
set_option maxRecDepth 100000 in
theorem ct_X12_may_t1 {E : xE} {z : Nat} {T : Nat → Nat × Int} {F : Nat → Nat → Int} {I : Nat → Int → Int} {P : Nat → Nat → Option Nat} {Y : Nat → Int → Option Nat} {m : Nat} {w : Int → Int} (hw : wM T P m) (hO : wOk w)(hT : ∀ j : Int, -128 ≤ I (m + 6) j ∧ I (m + 6) j ≤ 127) (h9 : 0 ≤ F m 9 ∧ F m 9 ≤ 400) (hb : sTld (I (m + 6)) (F m 9) = false) : Ct E 2 mX12_may 0 0 [.ref m] (z, T, F, upA I (m + 1) w, P, Y) (xd (some (J 0)) (z, T, upF (fUse F m) m 0 1, upA I (m + 1) (w), P, Y)) := by
  obtain ⟨⟨q0, q1, q2, q3⟩, -⟩ := id hw
  obtain ⟨hR, o0, o1, o2, o3, o4, o5, o6, oc, o13, o14, o16, o17, o18, ov⟩ := id hO
  have hN := wN_i o0.1
  have hE : 0 ≤ fUse F m m 11 ∧ fUse F m m 11 ≤ 400 := by rw [fUse_11]; exact h9
  have h11 := fUse_11 F m
  refine Ct.of [some (.ref m)] kt_X12_may rfl (Nat.le_of_ble_eq_true rfl) rfl (fun d hd => ?_)
  generalize hX : xN E _ _ _ = X
  refine xg_aloadn 1 dX12_may_0 rfl rfl rfl ?_
  refine xg_callV 4 12 [] _ kv_X12_uses ⟨_, _, rfl⟩ kl_RX12_240 dX12_may_1 rfl (by assumption) (by omega) rfl rfl (Nat.le_of_ble_eq_true rfl) (by omega) ⟨Nat.le_refl _, Nat.le_refl _⟩ (ct_X12_uses hw) rfl ?_
  refine xg_aloadn 5 dX12_may_4 rfl rfl rfl ?_
  refine xg_aloadn 6 dX12_may_5 rfl rfl rfl ?_
  refine xg_callV 9 12 [] _ kv_X12_areTold ⟨_, _, rfl⟩ kl_RX12_419 dX12_may_6 rfl (by assumption) (by omega) rfl rfl (Nat.le_of_ble_eq_true rfl) (by omega) ⟨Nat.le_refl _, Nat.le_refl _⟩ (ct_X12_areTold hw hT (by assumption)) rfl ?_
  rw [h11]
  refine xg_bne 16 12 dX12_may_9 rfl rfl (fun hb9 => ?_) (fun hb9 => ?_)
  · skip
    refine xg_iconst 17 dX12_may_16 rfl ?_
    refine xg_iconst 18 dX12_may_17 rfl ?_
    refine xg_callV 21 12 [_, _] _ kv_X12_throwsIf ⟨_, _, rfl⟩ kl_RX12_251 dX12_may_18 rfl (by assumption) (by omega) rfl rfl (Nat.le_of_ble_eq_true rfl) (by omega) ⟨Nat.le_refl _, Nat.le_refl _⟩ (ct_throwsF hw) rfl ?_
    refine xg_ifeq 28 24 dX12_may_21 rfl rfl (by first | omega | exact hR _ | exact ⟨hR _, by omega⟩ | exact ⟨by omega, hR _⟩ | exact ⟨hR _, hR _⟩) (fun hb21 => ?_) (fun hb21 => ?_)
    · skip
      exfalso; rw [hb] at hb9; cases hb9
    · exfalso; omega
  · skip
    refine xg_iconst 13 dX12_may_12 rfl ?_
    refine xg_goto 17 dX12_may_13 rfl ?_
    refine xg_iconst 18 dX12_may_17 rfl ?_
    refine xg_callV 21 12 [_, _] _ kv_X12_throwsIf ⟨_, _, rfl⟩ kl_RX12_251 dX12_may_18 rfl (by assumption) (by omega) rfl rfl (Nat.le_of_ble_eq_true rfl) (by omega) ⟨Nat.le_refl _, Nat.le_refl _⟩ (ct_throwsT hw) rfl ?_
    refine xg_ifeq 28 24 dX12_may_21 rfl rfl (by first | omega | exact hR _ | exact ⟨hR _, by omega⟩ | exact ⟨by omega, hR _⟩ | exact ⟨hR _, hR _⟩) (fun hb21 => ?_) (fun hb21 => ?_)
    · exfalso; omega
    · skip
      refine xg_iconst 25 dX12_may_24 rfl ?_
      refine xg_goto 33 dX12_may_25 rfl ?_
      subst hX
      exact xg_ireturn dX12_may_33 rfl ⟨Nat.le_refl _, Nat.le_refl _⟩ ⟨rfl, rfl⟩

theorem dX12_likely_0 : decode cX12_likely 0 = .ok (.aload_n 0, 1) := by decide +kernel
theorem dX12_likely_1 : decode cX12_likely 1 = .ok (.invokevirtual 240, 3) := by decide +kernel
theorem dX12_likely_4 : decode cX12_likely 4 = .ok (.aload_n 0, 1) := by decide +kernel
theorem dX12_likely_5 : decode cX12_likely 5 = .ok (.aload_n 0, 1) := by decide +kernel
theorem dX12_likely_6 : decode cX12_likely 6 = .ok (.invokevirtual 419, 3) := by decide +kernel
theorem dX12_likely_9 : decode cX12_likely 9 = .ok (.ifCond .ne 7, 3) := by decide +kernel
theorem dX12_likely_12 : decode cX12_likely 12 = .ok (.iconst 1, 1) := by decide +kernel
theorem dX12_likely_13 : decode cX12_likely 13 = .ok (.goto 4, 3) := by decide +kernel
theorem dX12_likely_16 : decode cX12_likely 16 = .ok (.iconst 0, 1) := by decide +kernel
theorem dX12_likely_17 : decode cX12_likely 17 = .ok (.iconst 1, 1) := by decide +kernel
theorem dX12_likely_18 : decode cX12_likely 18 = .ok (.invokevirtual 251, 3) := by decide +kernel
theorem dX12_likely_21 : decode cX12_likely 21 = .ok (.ifCond .eq 5, 3) := by decide +kernel
theorem dX12_likely_24 : decode cX12_likely 24 = .ok (.iconst 0, 1) := by decide +kernel
theorem dX12_likely_25 : decode cX12_likely 25 = .ok (.ireturn, 1) := by decide +kernel
theorem dX12_likely_26 : decode cX12_likely 26 = .ok (.aload_n 0, 1) := by decide +kernel
theorem dX12_likely_27 : decode cX12_likely 27 = .ok (.iconst 0, 1) := by decide +kernel
theorem dX12_likely_28 : decode cX12_likely 28 = .ok (.invokevirtual 422, 3) := by decide +kernel
theorem dX12_likely_31 : decode cX12_likely 31 = .ok (.ifCond .eq 11, 3) := by decide +kernel
theorem dX12_likely_34 : decode cX12_likely 34 = .ok (.aload_n 0, 1) := by decide +kernel
theorem dX12_likely_35 : decode cX12_likely 35 = .ok (.iconst 0, 1) := by decide +kernel
theorem dX12_likely_36 : decode cX12_likely 36 = .ok (.invokevirtual 422, 3) := by decide +kernel
theorem dX12_likely_39 : decode cX12_likely 39 = .ok (.goto 8, 3) := by decide +kernel
theorem dX12_likely_42 : decode cX12_likely 42 = .ok (.aload_n 0, 1) := by decide +kernel
theorem dX12_likely_43 : decode cX12_likely 43 = .ok (.iconst 1, 1) := by decide +kernel
theorem dX12_likely_44 : decode cX12_likely 44 = .ok (.invokevirtual 422, 3) := by decide +kernel
theorem dX12_likely_47 : decode cX12_likely 47 = .ok (.istore_n 1, 1) := by decide +kernel
theorem dX12_likely_48 : decode cX12_likely 48 = .ok (.iload_n 1, 1) := by decide +kernel
theorem dX12_likely_49 : decode cX12_likely 49 = .ok (.ifCond .ne 7, 3) := by decide +kernel
theorem dX12_likely_52 : decode cX12_likely 52 = .ok (.iconst (-1), 1) := by decide +kernel
theorem dX12_likely_53 : decode cX12_likely 53 = .ok (.goto 7, 3) := by decide +kernel
theorem dX12_likely_56 : decode cX12_likely 56 = .ok (.iload_n 1, 1) := by decide +kernel
theorem dX12_likely_57 : decode cX12_likely 57 = .ok (.invokestatic 428, 3) := by decide +kernel
theorem dX12_likely_60 : decode cX12_likely 60 = .ok (.ireturn, 1) := by decide +kernel
set_option maxHeartbeats 4000000 in
set_option maxRecDepth 100000 in
theorem ct_X12_likely_t1 {E : xE} {z : Nat} {T : Nat → Nat × Int} {F : Nat → Nat → Int} {I : Nat → Int → Int} {P : Nat → Nat → Option Nat} {Y : Nat → Int → Option Nat} {m : Nat} {w : Int → Int} (hw : wM T P m) (hO : wOk w)(hT : ∀ j : Int, -128 ≤ I (m + 6) j ∧ I (m + 6) j ≤ 127) (h9 : 0 ≤ F m 9 ∧ F m 9 ≤ 400) (hb : sTld (I (m + 6)) (F m 9) = false) : Ct E 2 mX12_likely 0 0 [.ref m] (z, T, F, upA I (m + 1) w, P, Y) (xd (some (J 0)) (z, T, upF (fUse F m) m 0 1, upA I (m + 1) (w), P, Y)) := by
  obtain ⟨⟨q0, q1, q2, q3⟩, -⟩ := id hw
  obtain ⟨hR, o0, o1, o2, o3, o4, o5, o6, oc, o13, o14, o16, o17, o18, ov⟩ := id hO
  have hN := wN_i o0.1
  have hE : 0 ≤ fUse F m m 11 ∧ fUse F m m 11 ≤ 400 := by rw [fUse_11]; exact h9
  have h11 := fUse_11 F m
  refine Ct.of [some (.ref m), none] kt_X12_likely rfl (Nat.le_of_ble_eq_true rfl) rfl (fun d hd => ?_)
  generalize hX : xN E _ _ _ = X
  refine xg_aloadn 1 dX12_likely_0 rfl rfl rfl ?_
  refine xg_callV 4 12 [] _ kv_X12_uses ⟨_, _, rfl⟩ kl_RX12_240 dX12_likely_1 rfl (by assumption) (by omega) rfl rfl (Nat.le_of_ble_eq_true rfl) (by omega) ⟨Nat.le_refl _, Nat.le_refl _⟩ (ct_X12_uses hw) rfl ?_
  refine xg_aloadn 5 dX12_likely_4 rfl rfl rfl ?_
  refine xg_aloadn 6 dX12_likely_5 rfl rfl rfl ?_
  refine xg_callV 9 12 [] _ kv_X12_areTold ⟨_, _, rfl⟩ kl_RX12_419 dX12_likely_6 rfl (by assumption) (by omega) rfl rfl (Nat.le_of_ble_eq_true rfl) (by omega) ⟨Nat.le_refl _, Nat.le_refl _⟩ (ct_X12_areTold hw hT (by assumption)) rfl ?_
  rw [h11]
  refine xg_bne 16 12 dX12_likely_9 rfl rfl (fun hb9 => ?_) (fun hb9 => ?_)
  · skip
    refine xg_iconst 17 dX12_likely_16 rfl ?_
    refine xg_iconst 18 dX12_likely_17 rfl ?_
    refine xg_callV 21 12 [_, _] _ kv_X12_throwsIf ⟨_, _, rfl⟩ kl_RX12_251 dX12_likely_18 rfl (by assumption) (by omega) rfl rfl (Nat.le_of_ble_eq_true rfl) (by omega) ⟨Nat.le_refl _, Nat.le_refl _⟩ (ct_throwsF hw) rfl ?_
    refine xg_ifeq 26 24 dX12_likely_21 rfl rfl (by first | omega | exact hR _ | exact ⟨hR _, by omega⟩ | exact ⟨by omega, hR _⟩ | exact ⟨hR _, hR _⟩) (fun hb21 => ?_) (fun hb21 => ?_)
    · skip
      exfalso; rw [hb] at hb9; cases hb9
    · exfalso; omega
  · skip
    refine xg_iconst 13 dX12_likely_12 rfl ?_
    refine xg_goto 17 dX12_likely_13 rfl ?_
    refine xg_iconst 18 dX12_likely_17 rfl ?_
    refine xg_callV 21 12 [_, _] _ kv_X12_throwsIf ⟨_, _, rfl⟩ kl_RX12_251 dX12_likely_18 rfl (by assumption) (by omega) rfl rfl (Nat.le_of_ble_eq_true rfl) (by omega) ⟨Nat.le_refl _, Nat.le_refl _⟩ (ct_throwsT hw) rfl ?_
    refine xg_ifeq 26 24 dX12_likely_21 rfl rfl (by first | omega | exact hR _ | exact ⟨hR _, by omega⟩ | exact ⟨by omega, hR _⟩ | exact ⟨hR _, hR _⟩) (fun hb21 => ?_) (fun hb21 => ?_)
    · exfalso; omega
    · skip
      refine xg_iconst 25 dX12_likely_24 rfl ?_
      subst hX
      exact xg_ireturn dX12_likely_25 rfl ⟨Nat.le_refl _, Nat.le_refl _⟩ ⟨rfl, rfl⟩

theorem dX12_look_0 : decode cX12_look 0 = .ok (.aload_n 0, 1) := by decide +kernel
theorem dX12_look_1 : decode cX12_look 1 = .ok (.invokevirtual 240, 3) := by decide +kernel
theorem dX12_look_4 : decode cX12_look 4 = .ok (.aload_n 0, 1) := by decide +kernel
theorem dX12_look_5 : decode cX12_look 5 = .ok (.aload_n 0, 1) := by decide +kernel
theorem dX12_look_6 : decode cX12_look 6 = .ok (.invokevirtual 419, 3) := by decide +kernel
theorem dX12_look_9 : decode cX12_look 9 = .ok (.ifCond .ne 7, 3) := by decide +kernel
theorem dX12_look_12 : decode cX12_look 12 = .ok (.iconst 1, 1) := by decide +kernel
theorem dX12_look_13 : decode cX12_look 13 = .ok (.goto 4, 3) := by decide +kernel
theorem dX12_look_16 : decode cX12_look 16 = .ok (.iconst 0, 1) := by decide +kernel
theorem dX12_look_17 : decode cX12_look 17 = .ok (.iconst 1, 1) := by decide +kernel
theorem dX12_look_18 : decode cX12_look 18 = .ok (.invokevirtual 251, 3) := by decide +kernel
theorem dX12_look_21 : decode cX12_look 21 = .ok (.ifCond .eq 5, 3) := by decide +kernel
theorem dX12_look_24 : decode cX12_look 24 = .ok (.iconst 0, 1) := by decide +kernel
theorem dX12_look_25 : decode cX12_look 25 = .ok (.ireturn, 1) := by decide +kernel
theorem dX12_look_26 : decode cX12_look 26 = .ok (.aload_n 0, 1) := by decide +kernel
theorem dX12_look_27 : decode cX12_look 27 = .ok (.iconst 1, 1) := by decide +kernel
theorem dX12_look_28 : decode cX12_look 28 = .ok (.invokevirtual 422, 3) := by decide +kernel
theorem dX12_look_31 : decode cX12_look 31 = .ok (.istore_n 1, 1) := by decide +kernel
theorem dX12_look_32 : decode cX12_look 32 = .ok (.iconst (-1), 1) := by decide +kernel
theorem dX12_look_33 : decode cX12_look 33 = .ok (.istore_n 2, 1) := by decide +kernel
theorem dX12_look_34 : decode cX12_look 34 = .ok (.iconst 0, 1) := by decide +kernel
theorem dX12_look_35 : decode cX12_look 35 = .ok (.istore_n 3, 1) := by decide +kernel
theorem dX12_look_36 : decode cX12_look 36 = .ok (.iload_n 3, 1) := by decide +kernel
theorem dX12_look_37 : decode cX12_look 37 = .ok (.bipush 60, 2) := by decide +kernel
theorem dX12_look_39 : decode cX12_look 39 = .ok (.if_icmp .ge 39, 3) := by decide +kernel
theorem dX12_look_42 : decode cX12_look 42 = .ok (.iload_n 1, 1) := by decide +kernel
theorem dX12_look_43 : decode cX12_look 43 = .ok (.invokestatic 257, 3) := by decide +kernel
theorem dX12_look_46 : decode cX12_look 46 = .ok (.iconst 1, 1) := by decide +kernel
theorem dX12_look_47 : decode cX12_look 47 = .ok (.if_icmp .le 31, 3) := by decide +kernel
theorem dX12_look_50 : decode cX12_look 50 = .ok (.iload_n 2, 1) := by decide +kernel
theorem dX12_look_51 : decode cX12_look 51 = .ok (.iconst (-1), 1) := by decide +kernel
theorem dX12_look_52 : decode cX12_look 52 = .ok (.if_icmp .eq 18, 3) := by decide +kernel
theorem dX12_look_55 : decode cX12_look 55 = .ok (.aload_n 0, 1) := by decide +kernel
theorem dX12_look_56 : decode cX12_look 56 = .ok (.iload_n 1, 1) := by decide +kernel
theorem dX12_look_57 : decode cX12_look 57 = .ok (.iload_n 3, 1) := by decide +kernel
theorem dX12_look_58 : decode cX12_look 58 = .ok (.invokevirtual 431, 3) := by decide +kernel
theorem dX12_look_61 : decode cX12_look 61 = .ok (.aload_n 0, 1) := by decide +kernel
theorem dX12_look_62 : decode cX12_look 62 = .ok (.iload_n 1, 1) := by decide +kernel
theorem dX12_look_63 : decode cX12_look 63 = .ok (.iload_n 2, 1) := by decide +kernel
theorem dX12_look_64 : decode cX12_look 64 = .ok (.invokevirtual 431, 3) := by decide +kernel
theorem dX12_look_67 : decode cX12_look 67 = .ok (.if_icmp .ge 5, 3) := by decide +kernel
theorem dX12_look_70 : decode cX12_look 70 = .ok (.iload_n 3, 1) := by decide +kernel
theorem dX12_look_71 : decode cX12_look 71 = .ok (.istore_n 2, 1) := by decide +kernel
theorem dX12_look_72 : decode cX12_look 72 = .ok (.iinc 3 1, 3) := by decide +kernel
theorem dX12_look_75 : decode cX12_look 75 = .ok (.goto (-39), 3) := by decide +kernel
theorem dX12_look_78 : decode cX12_look 78 = .ok (.iload_n 2, 1) := by decide +kernel
theorem dX12_look_79 : decode cX12_look 79 = .ok (.ireturn, 1) := by decide +kernel
set_option maxHeartbeats 4000000 in
set_option maxRecDepth 100000 in
theorem ct_X12_look_t1 {E : xE} {z : Nat} {T : Nat → Nat × Int} {F : Nat → Nat → Int} {I : Nat → Int → Int} {P : Nat → Nat → Option Nat} {Y : Nat → Int → Option Nat} {m : Nat} {w : Int → Int} (hw : wM T P m) (hO : wOk w)(hT : ∀ j : Int, -128 ≤ I (m + 6) j ∧ I (m + 6) j ≤ 127) (h9 : 0 ≤ F m 9 ∧ F m 9 ≤ 400) (hb : sTld (I (m + 6)) (F m 9) = false) : Ct E 2 mX12_look 0 0 [.ref m] (z, T, F, upA I (m + 1) w, P, Y) (xd (some (J 0)) (z, T, upF (fUse F m) m 0 1, upA I (m + 1) (w), P, Y)) := by
  obtain ⟨⟨q0, q1, q2, q3⟩, -⟩ := id hw
  obtain ⟨hR, o0, o1, o2, o3, o4, o5, o6, oc, o13, o14, o16, o17, o18, ov⟩ := id hO
  have hN := wN_i o0.1
  have hE : 0 ≤ fUse F m m 11 ∧ fUse F m m 11 ≤ 400 := by rw [fUse_11]; exact h9
  have h11 := fUse_11 F m
  refine Ct.of [some (.ref m), none, none, none] kt_X12_look rfl (Nat.le_of_ble_eq_true rfl) rfl (fun d hd => ?_)
  generalize hX : xN E _ _ _ = X
  refine xg_aloadn 1 dX12_look_0 rfl rfl rfl ?_
  refine xg_callV 4 12 [] _ kv_X12_uses ⟨_, _, rfl⟩ kl_RX12_240 dX12_look_1 rfl (by assumption) (by omega) rfl rfl (Nat.le_of_ble_eq_true rfl) (by omega) ⟨Nat.le_refl _, Nat.le_refl _⟩ (ct_X12_uses hw) rfl ?_
  refine xg_aloadn 5 dX12_look_4 rfl rfl rfl ?_
  refine xg_aloadn 6 dX12_look_5 rfl rfl rfl ?_
  refine xg_callV 9 12 [] _ kv_X12_areTold ⟨_, _, rfl⟩ kl_RX12_419 dX12_look_6 rfl (by assumption) (by omega) rfl rfl (Nat.le_of_ble_eq_true rfl) (by omega) ⟨Nat.le_refl _, Nat.le_refl _⟩ (ct_X12_areTold hw hT (by assumption)) rfl ?_
  rw [h11]
  refine xg_bne 16 12 dX12_look_9 rfl rfl (fun hb9 => ?_) (fun hb9 => ?_)
  · skip
    refine xg_iconst 17 dX12_look_16 rfl ?_
    refine xg_iconst 18 dX12_look_17 rfl ?_
    refine xg_callV 21 12 [_, _] _ kv_X12_throwsIf ⟨_, _, rfl⟩ kl_RX12_251 dX12_look_18 rfl (by assumption) (by omega) rfl rfl (Nat.le_of_ble_eq_true rfl) (by omega) ⟨Nat.le_refl _, Nat.le_refl _⟩ (ct_throwsF hw) rfl ?_
    refine xg_ifeq 26 24 dX12_look_21 rfl rfl (by first | omega | exact hR _ | exact ⟨hR _, by omega⟩ | exact ⟨by omega, hR _⟩ | exact ⟨hR _, hR _⟩) (fun hb21 => ?_) (fun hb21 => ?_)
    · skip
      exfalso; rw [hb] at hb9; cases hb9
    · exfalso; omega
  · skip
    refine xg_iconst 13 dX12_look_12 rfl ?_
    refine xg_goto 17 dX12_look_13 rfl ?_
    refine xg_iconst 18 dX12_look_17 rfl ?_
    refine xg_callV 21 12 [_, _] _ kv_X12_throwsIf ⟨_, _, rfl⟩ kl_RX12_251 dX12_look_18 rfl (by assumption) (by omega) rfl rfl (Nat.le_of_ble_eq_true rfl) (by omega) ⟨Nat.le_refl _, Nat.le_refl _⟩ (ct_throwsT hw) rfl ?_
    refine xg_ifeq 26 24 dX12_look_21 rfl rfl (by first | omega | exact hR _ | exact ⟨hR _, by omega⟩ | exact ⟨by omega, hR _⟩ | exact ⟨hR _, hR _⟩) (fun hb21 => ?_) (fun hb21 => ?_)
    · exfalso; omega
    · skip
      refine xg_iconst 25 dX12_look_24 rfl ?_
      subst hX
      exact xg_ireturn dX12_look_25 rfl ⟨Nat.le_refl _, Nat.le_refl _⟩ ⟨rfl, rfl⟩

set_option maxHeartbeats 4000000 in
set_option maxRecDepth 100000 in
theorem ct_X12_may {E : xE} {z : Nat} {T : Nat → Nat × Int} {F : Nat → Nat → Int} {I : Nat → Int → Int} {P : Nat → Nat → Option Nat} {Y : Nat → Int → Option Nat} {m : Nat} {w : Int → Int} (hw : wM T P m) (hO : wOk w)(hT : ∀ j : Int, -128 ≤ I (m + 6) j ∧ I (m + 6) j ≤ 127) (h9 : 0 ≤ F m 9 ∧ F m 9 ≤ 400) (hb : sTld (I (m + 6)) (F m 9) = true) : Ct E 5 mX12_may 0 0 [.ref m] (z, T, F, upA I (m + 1) w, P, Y) (xd (some (J (sFit w (I (m + 6)) (F m 9) 1 : Nat))) (z, T, fUse F m, upA I (m + 1) (w), P, Y)) := by
  obtain ⟨⟨q0, q1, q2, q3⟩, -⟩ := id hw
  obtain ⟨hR, o0, o1, o2, o3, o4, o5, o6, oc, o13, o14, o16, o17, o18, ov⟩ := id hO
  have hN := wN_i o0.1
  have hE : 0 ≤ fUse F m m 11 ∧ fUse F m m 11 ≤ 400 := by rw [fUse_11]; exact h9
  have h11 := fUse_11 F m
  have hV : sTld (I (m + 6)) (fUse F m m 11) = true := by rw [h11]; exact hb
  refine Ct.of [some (.ref m)] kt_X12_may rfl (Nat.le_of_ble_eq_true rfl) rfl (fun d hd => ?_)
  generalize hX : xN E _ _ _ = X
  refine xg_aloadn 1 dX12_may_0 rfl rfl rfl ?_
  refine xg_callV 4 12 [] _ kv_X12_uses ⟨_, _, rfl⟩ kl_RX12_240 dX12_may_1 rfl (by assumption) (by omega) rfl rfl (Nat.le_of_ble_eq_true rfl) (by omega) ⟨Nat.le_refl _, Nat.le_refl _⟩ (ct_X12_uses hw) rfl ?_
  refine xg_aloadn 5 dX12_may_4 rfl rfl rfl ?_
  refine xg_aloadn 6 dX12_may_5 rfl rfl rfl ?_
  refine xg_callV 9 12 [] _ kv_X12_areTold ⟨_, _, rfl⟩ kl_RX12_419 dX12_may_6 rfl (by assumption) (by omega) rfl rfl (Nat.le_of_ble_eq_true rfl) (by omega) ⟨Nat.le_refl _, Nat.le_refl _⟩ (ct_X12_areTold hw hT (by assumption)) rfl ?_
  rw [h11]
  refine xg_bne 16 12 dX12_may_9 rfl rfl (fun hb9 => ?_) (fun hb9 => ?_)
  · skip
    refine xg_iconst 17 dX12_may_16 rfl ?_
    refine xg_iconst 18 dX12_may_17 rfl ?_
    refine xg_callV 21 12 [_, _] _ kv_X12_throwsIf ⟨_, _, rfl⟩ kl_RX12_251 dX12_may_18 rfl (by assumption) (by omega) rfl rfl (Nat.le_of_ble_eq_true rfl) (by omega) ⟨Nat.le_refl _, Nat.le_refl _⟩ (ct_throwsF hw) rfl ?_
    refine xg_ifeq 28 24 dX12_may_21 rfl rfl (by first | omega | exact hR _ | exact ⟨hR _, by omega⟩ | exact ⟨by omega, hR _⟩ | exact ⟨hR _, hR _⟩) (fun hb21 => ?_) (fun hb21 => ?_)
    · skip
      refine xg_aloadn 29 dX12_may_28 rfl rfl rfl ?_
      refine xg_iconst 30 dX12_may_29 rfl ?_
      refine xg_callV 33 12 [_] _ kv_X12_thatFit ⟨_, _, rfl⟩ kl_RX12_422 dX12_may_30 rfl (by assumption) (by omega) rfl rfl (Nat.le_of_ble_eq_true rfl) (by omega) ⟨Nat.le_refl _, Nat.le_refl _⟩ (ct_X12_thatFit hw hO hT hE hV (by omega)) rfl ?_
      rw [h11]
      subst hX
      exact xg_ireturn dX12_may_33 rfl ⟨Nat.le_refl _, Nat.le_refl _⟩ ⟨rfl, rfl⟩
    · exfalso; omega
  · skip
    refine xg_iconst 13 dX12_may_12 rfl ?_
    refine xg_goto 17 dX12_may_13 rfl ?_
    refine xg_iconst 18 dX12_may_17 rfl ?_
    refine xg_callV 21 12 [_, _] _ kv_X12_throwsIf ⟨_, _, rfl⟩ kl_RX12_251 dX12_may_18 rfl (by assumption) (by omega) rfl rfl (Nat.le_of_ble_eq_true rfl) (by omega) ⟨Nat.le_refl _, Nat.le_refl _⟩ (ct_throwsT hw) rfl ?_
    refine xg_ifeq 28 24 dX12_may_21 rfl rfl (by first | omega | exact hR _ | exact ⟨hR _, by omega⟩ | exact ⟨by omega, hR _⟩ | exact ⟨hR _, hR _⟩) (fun hb21 => ?_) (fun hb21 => ?_)
    · exfalso; omega
    · skip
      exfalso; rw [hb] at hb9; cases hb9

def sLik (w t : Int → Int) (e : Int) : Int := if sFit w t e 0 ≠ 0 then nLow (sFit w t e 0) else if sFit w t e 1 = 0 then -1 else nLow (sFit w t e 1)
set_option maxHeartbeats 4000000 in
set_option maxRecDepth 100000 in
theorem ct_X12_likely {E : xE} {z : Nat} {T : Nat → Nat × Int} {F : Nat → Nat → Int} {I : Nat → Int → Int} {P : Nat → Nat → Option Nat} {Y : Nat → Int → Option Nat} {m : Nat} {w : Int → Int} (hw : wM T P m) (hO : wOk w)(hT : ∀ j : Int, -128 ≤ I (m + 6) j ∧ I (m + 6) j ≤ 127) (h9 : 0 ≤ F m 9 ∧ F m 9 ≤ 400) (hb : sTld (I (m + 6)) (F m 9) = true) : Ct E 5 mX12_likely 0 0 [.ref m] (z, T, F, upA I (m + 1) w, P, Y) (xd (some (J (sLik w (I (m + 6)) (F m 9)))) (z, T, fUse F m, upA I (m + 1) (w), P, Y)) := by
  obtain ⟨⟨q0, q1, q2, q3⟩, -⟩ := id hw
  obtain ⟨hR, o0, o1, o2, o3, o4, o5, o6, oc, o13, o14, o16, o17, o18, ov⟩ := id hO
  have hN := wN_i o0.1
  have hE : 0 ≤ fUse F m m 11 ∧ fUse F m m 11 ≤ 400 := by rw [fUse_11]; exact h9
  have h11 := fUse_11 F m
  have hV : sTld (I (m + 6)) (fUse F m m 11) = true := by rw [h11]; exact hb
  have hf0 := sFit_lt (w := w) o0.2 (I (m + 6)) (F m 9) 0
  have hf1 := sFit_lt (w := w) o0.2 (I (m + 6)) (F m 9) 1
  refine Ct.of [some (.ref m), none] kt_X12_likely rfl (Nat.le_of_ble_eq_true rfl) rfl (fun d hd => ?_)
  generalize hX : xN E _ _ _ = X
  refine xg_aloadn 1 dX12_likely_0 rfl rfl rfl ?_
  refine xg_callV 4 12 [] _ kv_X12_uses ⟨_, _, rfl⟩ kl_RX12_240 dX12_likely_1 rfl (by assumption) (by omega) rfl rfl (Nat.le_of_ble_eq_true rfl) (by omega) ⟨Nat.le_refl _, Nat.le_refl _⟩ (ct_X12_uses hw) rfl ?_
  refine xg_aloadn 5 dX12_likely_4 rfl rfl rfl ?_
  refine xg_aloadn 6 dX12_likely_5 rfl rfl rfl ?_
  refine xg_callV 9 12 [] _ kv_X12_areTold ⟨_, _, rfl⟩ kl_RX12_419 dX12_likely_6 rfl (by assumption) (by omega) rfl rfl (Nat.le_of_ble_eq_true rfl) (by omega) ⟨Nat.le_refl _, Nat.le_refl _⟩ (ct_X12_areTold hw hT (by assumption)) rfl ?_
  rw [h11]
  refine xg_bne 16 12 dX12_likely_9 rfl rfl (fun hb9 => ?_) (fun hb9 => ?_)
  · skip
    refine xg_iconst 17 dX12_likely_16 rfl ?_
    refine xg_iconst 18 dX12_likely_17 rfl ?_
    refine xg_callV 21 12 [_, _] _ kv_X12_throwsIf ⟨_, _, rfl⟩ kl_RX12_251 dX12_likely_18 rfl (by assumption) (by omega) rfl rfl (Nat.le_of_ble_eq_true rfl) (by omega) ⟨Nat.le_refl _, Nat.le_refl _⟩ (ct_throwsF hw) rfl ?_
    refine xg_ifeq 26 24 dX12_likely_21 rfl rfl (by first | omega | exact hR _ | exact ⟨hR _, by omega⟩ | exact ⟨by omega, hR _⟩ | exact ⟨hR _, hR _⟩) (fun hb21 => ?_) (fun hb21 => ?_)
    · skip
      refine xg_aloadn 27 dX12_likely_26 rfl rfl rfl ?_
      refine xg_iconst 28 dX12_likely_27 rfl ?_
      refine xg_callV 31 12 [_] _ kv_X12_thatFit ⟨_, _, rfl⟩ kl_RX12_422 dX12_likely_28 rfl (by assumption) (by omega) rfl rfl (Nat.le_of_ble_eq_true rfl) (by omega) ⟨Nat.le_refl _, Nat.le_refl _⟩ (ct_X12_thatFit hw hO hT hE hV (by omega)) rfl ?_
      rw [h11]
      refine xg_ifeq 42 34 dX12_likely_31 rfl rfl (by first | omega | exact hR _ | exact ⟨hR _, by omega⟩ | exact ⟨by omega, hR _⟩ | exact ⟨hR _, hR _⟩) (fun hb31 => ?_) (fun hb31 => ?_)
      · skip
        refine xg_aloadn 43 dX12_likely_42 rfl rfl rfl ?_
        refine xg_iconst 44 dX12_likely_43 rfl ?_
        refine xg_callV 47 12 [_] _ kv_X12_thatFit ⟨_, _, rfl⟩ kl_RX12_422 dX12_likely_44 rfl (by assumption) (by omega) rfl rfl (Nat.le_of_ble_eq_true rfl) (by omega) ⟨Nat.le_refl _, Nat.le_refl _⟩ (ct_X12_thatFit hw hO hT hE hV (by omega)) rfl ?_
        rw [h11]
        refine xg_istoren 48 _ dX12_likely_47 rfl rfl rfl (by decide) (Or.inr rfl) ?_
        refine xg_iloadn 49 dX12_likely_48 rfl rfl rfl ?_
        refine xg_ifne 56 52 dX12_likely_49 rfl rfl (by first | omega | exact hR _ | exact ⟨hR _, by omega⟩ | exact ⟨by omega, hR _⟩ | exact ⟨hR _, hR _⟩) (fun hb49 => ?_) (fun hb49 => ?_)
        · first
          | (exfalso; omega)
          | skip
            refine xg_iloadn 57 dX12_likely_56 rfl rfl rfl ?_
            refine xg_callS 60 [_] _ ks_X12_firstOf kl_RX12_428 dX12_likely_57 rfl rfl rfl (Nat.le_of_ble_eq_true rfl) (by omega) ⟨Nat.le_refl _, Nat.le_refl _⟩ (ct_X12_firstOf (by assumption)) rfl ?_
            subst hX
            exact xg_ireturn dX12_likely_60 rfl ⟨Nat.le_refl _, Nat.le_refl _⟩ ⟨congrArg (fun v => some (J v)) (by unfold sLik; rw [if_neg (show ¬ (sFit w (I (m + 6)) (F m 9) 0 ≠ 0) by omega), if_neg (show ¬ (sFit w (I (m + 6)) (F m 9) 1 = 0) by omega)]), rfl⟩
        · first
          | (exfalso; omega)
          | skip
            refine xg_iconst 53 dX12_likely_52 rfl ?_
            refine xg_goto 60 dX12_likely_53 rfl ?_
            subst hX
            exact xg_ireturn dX12_likely_60 rfl ⟨Nat.le_refl _, Nat.le_refl _⟩ ⟨congrArg (fun v => some (J v)) (by unfold sLik; rw [if_neg (show ¬ (sFit w (I (m + 6)) (F m 9) 0 ≠ 0) by omega), if_pos (show sFit w (I (m + 6)) (F m 9) 1 = 0 by omega)]), rfl⟩
      · skip
        refine xg_aloadn 35 dX12_likely_34 rfl rfl rfl ?_
        refine xg_iconst 36 dX12_likely_35 rfl ?_
        refine xg_callV 39 12 [_] _ kv_X12_thatFit ⟨_, _, rfl⟩ kl_RX12_422 dX12_likely_36 rfl (by assumption) (by omega) rfl rfl (Nat.le_of_ble_eq_true rfl) (by omega) ⟨Nat.le_refl _, Nat.le_refl _⟩ (ct_X12_thatFit hw hO hT hE hV (by omega)) rfl ?_
        rw [h11]
        refine xg_goto 47 dX12_likely_39 rfl ?_
        refine xg_istoren 48 _ dX12_likely_47 rfl rfl rfl (by decide) (Or.inr rfl) ?_
        refine xg_iloadn 49 dX12_likely_48 rfl rfl rfl ?_
        refine xg_ifne 56 52 dX12_likely_49 rfl rfl (by first | omega | exact hR _ | exact ⟨hR _, by omega⟩ | exact ⟨by omega, hR _⟩ | exact ⟨hR _, hR _⟩) (fun hb49 => ?_) (fun hb49 => ?_)
        · first
          | (exfalso; omega)
          | skip
            refine xg_iloadn 57 dX12_likely_56 rfl rfl rfl ?_
            refine xg_callS 60 [_] _ ks_X12_firstOf kl_RX12_428 dX12_likely_57 rfl rfl rfl (Nat.le_of_ble_eq_true rfl) (by omega) ⟨Nat.le_refl _, Nat.le_refl _⟩ (ct_X12_firstOf (by assumption)) rfl ?_
            subst hX
            exact xg_ireturn dX12_likely_60 rfl ⟨Nat.le_refl _, Nat.le_refl _⟩ ⟨congrArg (fun v => some (J v)) (by unfold sLik; rw [if_pos (show sFit w (I (m + 6)) (F m 9) 0 ≠ 0 by omega)]), rfl⟩
        · first
          | (exfalso; omega)
          | skip
            refine xg_iconst 53 dX12_likely_52 rfl ?_
            refine xg_goto 60 dX12_likely_53 rfl ?_
            subst hX
            exact xg_ireturn dX12_likely_60 rfl ⟨Nat.le_refl _, Nat.le_refl _⟩ ⟨congrArg (fun v => some (J v)) (by unfold sLik; rw [if_neg (show ¬ (sFit w (I (m + 6)) (F m 9) 0 ≠ 0) by omega), if_neg (show ¬ (sFit w (I (m + 6)) (F m 9) 1 = 0) by omega)]), rfl⟩
    · exfalso; omega
  · skip
    refine xg_iconst 13 dX12_likely_12 rfl ?_
    refine xg_goto 17 dX12_likely_13 rfl ?_
    refine xg_iconst 18 dX12_likely_17 rfl ?_
    refine xg_callV 21 12 [_, _] _ kv_X12_throwsIf ⟨_, _, rfl⟩ kl_RX12_251 dX12_likely_18 rfl (by assumption) (by omega) rfl rfl (Nat.le_of_ble_eq_true rfl) (by omega) ⟨Nat.le_refl _, Nat.le_refl _⟩ (ct_throwsT hw) rfl ?_
    refine xg_ifeq 26 24 dX12_likely_21 rfl rfl (by first | omega | exact hR _ | exact ⟨hR _, by omega⟩ | exact ⟨by omega, hR _⟩ | exact ⟨hR _, hR _⟩) (fun hb21 => ?_) (fun hb21 => ?_)
    · exfalso; omega
    · skip
      exfalso; rw [hb] at hb9; cases hb9

def sPrt (w : Int → Int) (s : Nat) (key : Int) (a : Int) : Int := pSum (fun b => if s.testBit a.toNat = true ∧ s.testBit b.toNat = true ∧ sTby w a key = sTby w b key then 1 else 0) (wN w)
def sPart (w : Int → Int) (s : Nat) (key : Int) : Nat → Int
  | 0 => 0
  | a + 1 => max (sPart w s key a) (sPrt w s key (a : Int))
theorem pPrt_bd (w : Int → Int) (s : Nat) (key a : Int) (k : Nat) : 0 ≤ pSum (fun b => if s.testBit a.toNat = true ∧ s.testBit b.toNat = true ∧ sTby w a key = sTby w b key then 1 else 0) k ∧ pSum (fun b => if s.testBit a.toNat = true ∧ s.testBit b.toNat = true ∧ sTby w a key = sTby w b key then 1 else 0) k ≤ k := by
  have := pSum_bd (f := fun b => if s.testBit a.toNat = true ∧ s.testBit b.toNat = true ∧ sTby w a key = sTby w b key then 1 else 0) (b := 1) (k := k) (fun j _ => by split <;> omega)
  omega
theorem sPart_bd {w : Int → Int} (h : w 0 ≤ 12) (s : Nat) (key : Int) : ∀ a : Nat, 0 ≤ sPart w s key a ∧ sPart w s key a ≤ 12
  | 0 => by simp [sPart]
  | a + 1 => by
    have h1 := sPart_bd h s key a
    have h2 := pPrt_bd w s key (a : Int) (wN w)
    have h3 : wN w ≤ 12 := by unfold wN; omega
    have h4 : sPrt w s key (a : Int) = pSum (fun b => if s.testBit (a : Int).toNat = true ∧ s.testBit b.toNat = true ∧ sTby w (a : Int) key = sTby w b key then 1 else 0) (wN w) := rfl
    rw [sPart]; omega
def sLk (w : Int → Int) (s : Nat) : Nat → Int
  | 0 => -1
  | k + 1 => if sLk w s k = -1 ∨ sPart w s (k : Int) (wN w) < sPart w s (sLk w s k) (wN w) then (k : Int) else sLk w s k
theorem sLk_bd (w : Int → Int) (s : Nat) : ∀ k : Nat, -1 ≤ sLk w s k ∧ sLk w s k < k
  | 0 => by simp [sLk]
  | k + 1 => by
    have := sLk_bd w s k
    rw [sLk]; split <;> omega
def sLook (w t : Int → Int) (e : Int) : Int := if 1 < xbc (sFit w t e 1 : Nat) then sLk w (sFit w t e 1) 60 else -1
theorem dX12_partBy_0 : decode cX12_partBy 0 = .ok (.iconst 0, 1) := by decide +kernel
theorem dX12_partBy_1 : decode cX12_partBy 1 = .ok (.istore_n 3, 1) := by decide +kernel
theorem dX12_partBy_2 : decode cX12_partBy 2 = .ok (.iconst 0, 1) := by decide +kernel
theorem dX12_partBy_3 : decode cX12_partBy 3 = .ok (.istore 4, 2) := by decide +kernel
theorem dX12_partBy_5 : decode cX12_partBy 5 = .ok (.iload 4, 2) := by decide +kernel
theorem dX12_partBy_7 : decode cX12_partBy 7 = .ok (.aload_n 0, 1) := by decide +kernel
theorem dX12_partBy_8 : decode cX12_partBy 8 = .ok (.invokevirtual 66, 3) := by decide +kernel
theorem dX12_partBy_11 : decode cX12_partBy 11 = .ok (.if_icmp .ge 82, 3) := by decide +kernel
theorem dX12_partBy_14 : decode cX12_partBy 14 = .ok (.iconst 0, 1) := by decide +kernel
theorem dX12_partBy_15 : decode cX12_partBy 15 = .ok (.istore 5, 2) := by decide +kernel
theorem dX12_partBy_17 : decode cX12_partBy 17 = .ok (.iconst 0, 1) := by decide +kernel
theorem dX12_partBy_18 : decode cX12_partBy 18 = .ok (.istore 6, 2) := by decide +kernel
theorem dX12_partBy_20 : decode cX12_partBy 20 = .ok (.iload 6, 2) := by decide +kernel
theorem dX12_partBy_22 : decode cX12_partBy 22 = .ok (.aload_n 0, 1) := by decide +kernel
theorem dX12_partBy_23 : decode cX12_partBy 23 = .ok (.invokevirtual 66, 3) := by decide +kernel
theorem dX12_partBy_26 : decode cX12_partBy 26 = .ok (.if_icmp .ge 54, 3) := by decide +kernel
theorem dX12_partBy_29 : decode cX12_partBy 29 = .ok (.iload 5, 2) := by decide +kernel
theorem dX12_partBy_31 : decode cX12_partBy 31 = .ok (.iload_n 1, 1) := by decide +kernel
theorem dX12_partBy_32 : decode cX12_partBy 32 = .ok (.iload 4, 2) := by decide +kernel
theorem dX12_partBy_34 : decode cX12_partBy 34 = .ok (.invokestatic 287, 3) := by decide +kernel
theorem dX12_partBy_37 : decode cX12_partBy 37 = .ok (.ifCond .eq 33, 3) := by decide +kernel
theorem dX12_partBy_40 : decode cX12_partBy 40 = .ok (.iload_n 1, 1) := by decide +kernel
theorem dX12_partBy_41 : decode cX12_partBy 41 = .ok (.iload 6, 2) := by decide +kernel
theorem dX12_partBy_43 : decode cX12_partBy 43 = .ok (.invokestatic 287, 3) := by decide +kernel
theorem dX12_partBy_46 : decode cX12_partBy 46 = .ok (.ifCond .eq 24, 3) := by decide +kernel
theorem dX12_partBy_49 : decode cX12_partBy 49 = .ok (.aload_n 0, 1) := by decide +kernel
theorem dX12_partBy_50 : decode cX12_partBy 50 = .ok (.iload 4, 2) := by decide +kernel
theorem dX12_partBy_52 : decode cX12_partBy 52 = .ok (.iload_n 2, 1) := by decide +kernel
theorem dX12_partBy_53 : decode cX12_partBy 53 = .ok (.invokevirtual 413, 3) := by decide +kernel
theorem dX12_partBy_56 : decode cX12_partBy 56 = .ok (.aload_n 0, 1) := by decide +kernel
theorem dX12_partBy_57 : decode cX12_partBy 57 = .ok (.iload 6, 2) := by decide +kernel
theorem dX12_partBy_59 : decode cX12_partBy 59 = .ok (.iload_n 2, 1) := by decide +kernel
theorem dX12_partBy_60 : decode cX12_partBy 60 = .ok (.invokevirtual 413, 3) := by decide +kernel
theorem dX12_partBy_63 : decode cX12_partBy 63 = .ok (.if_icmp .ne 7, 3) := by decide +kernel
theorem dX12_partBy_66 : decode cX12_partBy 66 = .ok (.iconst 1, 1) := by decide +kernel
theorem dX12_partBy_67 : decode cX12_partBy 67 = .ok (.goto 4, 3) := by decide +kernel
theorem dX12_partBy_70 : decode cX12_partBy 70 = .ok (.iconst 0, 1) := by decide +kernel
theorem dX12_partBy_71 : decode cX12_partBy 71 = .ok (.iadd, 1) := by decide +kernel
theorem dX12_partBy_72 : decode cX12_partBy 72 = .ok (.istore 5, 2) := by decide +kernel
theorem dX12_partBy_74 : decode cX12_partBy 74 = .ok (.iinc 6 1, 3) := by decide +kernel
theorem dX12_partBy_77 : decode cX12_partBy 77 = .ok (.goto (-57), 3) := by decide +kernel
theorem dX12_partBy_80 : decode cX12_partBy 80 = .ok (.iload_n 3, 1) := by decide +kernel
theorem dX12_partBy_81 : decode cX12_partBy 81 = .ok (.iload 5, 2) := by decide +kernel
theorem dX12_partBy_83 : decode cX12_partBy 83 = .ok (.invokestatic 343, 3) := by decide +kernel
theorem dX12_partBy_86 : decode cX12_partBy 86 = .ok (.istore_n 3, 1) := by decide +kernel
theorem dX12_partBy_87 : decode cX12_partBy 87 = .ok (.iinc 4 1, 3) := by decide +kernel
theorem dX12_partBy_90 : decode cX12_partBy 90 = .ok (.goto (-85), 3) := by decide +kernel
theorem dX12_partBy_93 : decode cX12_partBy 93 = .ok (.iload_n 3, 1) := by decide +kernel
theorem dX12_partBy_94 : decode cX12_partBy 94 = .ok (.ireturn, 1) := by decide +kernel
set_option maxHeartbeats 4000000 in
set_option maxRecDepth 100000 in
theorem ct_X12_partBy {E : xE} {z : Nat} {T : Nat → Nat × Int} {F : Nat → Nat → Int} {I : Nat → Int → Int} {P : Nat → Nat → Option Nat} {Y : Nat → Int → Option Nat} {m : Nat} {w : Int → Int} (hw : wM T P m) (hO : wOk w){key : Int} (hk : 0 ≤ key ∧ key < 60) {s : Nat} (hs : s < 4096) : Ct E 3 mX12_partBy 0 0 [.ref m, J (s : Int), J key] (z, T, F, upA I (m + 1) w, P, Y) (xd (some (J (sPart w s key (wN w)))) (z, T, F, upA I (m + 1) w, P, Y)) := by
  obtain ⟨⟨q0, q1, q2, q3⟩, -⟩ := id hw
  obtain ⟨hR, o0, o1, o2, o3, o4, o5, o6, oc, o13, o14, o16, o17, o18, ov⟩ := id hO
  have hN := wN_i o0.1
  refine Ct.of [some (.ref m), some (J (s : Int)), some (J key), none, none, none, none] kt_X12_partBy rfl (Nat.le_of_ble_eq_true rfl) rfl (fun d hd => ?_)
  generalize hX : xN E _ _ _ = X
  refine xg_iconst 1 dX12_partBy_0 rfl ?_
  refine xg_istoren 2 _ dX12_partBy_1 rfl rfl rfl (by decide) (Or.inr rfl) ?_
  refine xg_iconst 3 dX12_partBy_2 rfl ?_
  refine xg_istore 5 _ dX12_partBy_3 rfl rfl (by decide) (Or.inr rfl) ?_
  have loop5 : ∀ (mm : Nat) (a : Nat) (v1 v2 : Option Value), ((a : Int) ≤ w 0) → w 0 - a < (mm : Int) → xG E mX12_partBy (xR d 0 0) X 5 [some (.ref m), some (J (s : Int)), some (J key), some (J (sPart w s key a)), some (J (a : Int)), none, none] [] (z, T, F, upA I (m + 1) w, P, Y) 0 0 := by
    intro mm
    induction mm with
    | zero => intro a v1 v2 ha hm; exfalso; omega
    | succ mm ih =>
      intro a v1 v2 ha hm
      have hpb := sPart_bd (w := w) o0.2 s key a
      refine xg_iload 7 dX12_partBy_5 rfl rfl ?_
      refine xg_aloadn 8 dX12_partBy_7 rfl rfl rfl ?_
      refine xg_callV 11 12 [] _ kv_X12_runs ⟨_, _, rfl⟩ kl_RX12_66 dX12_partBy_8 rfl (by assumption) (by omega) rfl rfl (Nat.le_of_ble_eq_true rfl) (by omega) ⟨Nat.le_refl _, Nat.le_refl _⟩ (ct_X12_runs hw) rfl ?_
      refine xg_icge 93 14 dX12_partBy_11 rfl rfl (by first | omega | exact hR _ | exact ⟨hR _, by omega⟩ | exact ⟨by omega, hR _⟩ | exact ⟨hR _, hR _⟩) (fun hb11 => ?_) (fun hb11 => ?_)
      · skip
        refine xg_iloadn 94 dX12_partBy_93 rfl rfl rfl ?_
        subst hX
        exact xg_ireturn dX12_partBy_94 rfl ⟨Nat.le_refl _, Nat.le_refl _⟩ ⟨by rw [show a = wN w by omega], rfl⟩
      · skip
        refine xg_iconst 15 dX12_partBy_14 rfl ?_
        refine xg_istore 17 _ dX12_partBy_15 rfl rfl (by decide) (Or.inr rfl) ?_
        refine xg_iconst 18 dX12_partBy_17 rfl ?_
        refine xg_istore 20 _ dX12_partBy_18 rfl rfl (by decide) (Or.inr rfl) ?_
        have loop20 : ∀ (mm : Nat) (b : Nat) (n : Int), ((b : Int) ≤ w 0) → n = pSum (fun b => if s.testBit (a : Int).toNat = true ∧ s.testBit b.toNat = true ∧ sTby w (a : Int) key = sTby w b key then 1 else 0) b → w 0 - b < (mm : Int) → xG E mX12_partBy (xR d 0 0) X 20 [some (.ref m), some (J (s : Int)), some (J key), some (J (sPart w s key a)), some (J (a : Int)), some (J n), some (J (b : Int))] [] (z, T, F, upA I (m + 1) w, P, Y) 0 0 := by
          intro mm
          induction mm with
          | zero => intro b n hb hn hm; exfalso; omega
          | succ mm ih2 =>
            intro b n hb hn hm
            have hqb := pPrt_bd w s key (a : Int) b
            have t1 := sTby_bd hO (r := (a : Int)) (key := key) (by omega) hk
            have t2 := sTby_bd hO (r := (b : Int)) (key := key)
            refine xg_iload 22 dX12_partBy_20 rfl rfl ?_
            refine xg_aloadn 23 dX12_partBy_22 rfl rfl rfl ?_
            refine xg_callV 26 12 [] _ kv_X12_runs ⟨_, _, rfl⟩ kl_RX12_66 dX12_partBy_23 rfl (by assumption) (by omega) rfl rfl (Nat.le_of_ble_eq_true rfl) (by omega) ⟨Nat.le_refl _, Nat.le_refl _⟩ (ct_X12_runs hw) rfl ?_
            refine xg_icge 80 29 dX12_partBy_26 rfl rfl (by first | omega | exact hR _ | exact ⟨hR _, by omega⟩ | exact ⟨by omega, hR _⟩ | exact ⟨hR _, hR _⟩) (fun hb26 => ?_) (fun hb26 => ?_)
            · skip
              refine xg_iloadn 81 dX12_partBy_80 rfl rfl rfl ?_
              refine xg_iload 83 dX12_partBy_81 rfl rfl ?_
              refine xg_mmax 86 kl_RX12_343 dX12_partBy_83 rfl (by first | omega | exact hR _ | exact ⟨hR _, by omega⟩ | exact ⟨by omega, hR _⟩ | exact ⟨hR _, hR _⟩) (Nat.le_of_ble_eq_true rfl) (by omega) ⟨Nat.le_refl _, Nat.le_refl _⟩ ?_
              refine xg_istoren 87 _ dX12_partBy_86 rfl rfl rfl (by decide) (Or.inr rfl) ?_
              refine xg_iinc 90 _ dX12_partBy_87 rfl rfl rfl rfl (by decide) (Or.inr rfl) ?_
              refine xg_goto 5 dX12_partBy_90 rfl ?_
              exact xg_weak _ (xle_s rfl (xle_s rfl (xle_s rfl (xle_s (by rw [hn, show b = wN w by omega]; rfl) (xle_s rfl (xle_n (xle_n xle_0))))))) (ih (a + 1) none none (by omega) (by omega))
            · skip
              refine xg_iload 31 dX12_partBy_29 rfl rfl ?_
              refine xg_iloadn 32 dX12_partBy_31 rfl rfl rfl ?_
              refine xg_iload 34 dX12_partBy_32 rfl rfl ?_
              refine xg_callS 37 [_, _] _ ks_X12_has kl_RX12_287 dX12_partBy_34 rfl rfl rfl (Nat.le_of_ble_eq_true rfl) (by omega) ⟨Nat.le_refl _, Nat.le_refl _⟩ (ct_X12_has (by omega) (by omega)) rfl ?_
              refine xg_beq 70 40 dX12_partBy_37 rfl rfl (fun hb37 => ?_) (fun hb37 => ?_)
              · skip
                refine xg_iconst 71 dX12_partBy_70 rfl ?_
                refine xg_iadd 72 dX12_partBy_71 rfl ?_
                refine xg_istore 74 _ dX12_partBy_72 rfl rfl (by decide) (Or.inr rfl) ?_
                refine xg_iinc 77 _ dX12_partBy_74 rfl rfl rfl rfl (by decide) (Or.inr rfl) ?_
                refine xg_goto 20 dX12_partBy_77 rfl ?_
                exact xg_weak _ (xle_s rfl (xle_s rfl (xle_s rfl (xle_s rfl (xle_s rfl (xle_s rfl (xle_s rfl xle_0))))))) (ih2 (b + 1) _ (by omega) (by rw [pSum_s, hn, if_neg (fun q => by rw [Int.toNat_natCast, hb37] at q; cases q.1)]) (by omega))
              · skip
                refine xg_iloadn 41 dX12_partBy_40 rfl rfl rfl ?_
                refine xg_iload 43 dX12_partBy_41 rfl rfl ?_
                refine xg_callS 46 [_, _] _ ks_X12_has kl_RX12_287 dX12_partBy_43 rfl rfl rfl (Nat.le_of_ble_eq_true rfl) (by omega) ⟨Nat.le_refl _, Nat.le_refl _⟩ (ct_X12_has (by omega) (by omega)) rfl ?_
                refine xg_beq 70 49 dX12_partBy_46 rfl rfl (fun hb46 => ?_) (fun hb46 => ?_)
                · skip
                  refine xg_iconst 71 dX12_partBy_70 rfl ?_
                  refine xg_iadd 72 dX12_partBy_71 rfl ?_
                  refine xg_istore 74 _ dX12_partBy_72 rfl rfl (by decide) (Or.inr rfl) ?_
                  refine xg_iinc 77 _ dX12_partBy_74 rfl rfl rfl rfl (by decide) (Or.inr rfl) ?_
                  refine xg_goto 20 dX12_partBy_77 rfl ?_
                  exact xg_weak _ (xle_s rfl (xle_s rfl (xle_s rfl (xle_s rfl (xle_s rfl (xle_s rfl (xle_s rfl xle_0))))))) (ih2 (b + 1) _ (by omega) (by rw [pSum_s, hn, if_neg (fun q => by rw [Int.toNat_natCast, Int.toNat_natCast, hb46] at q; cases q.2.1)]) (by omega))
                · skip
                  refine xg_aloadn 50 dX12_partBy_49 rfl rfl rfl ?_
                  refine xg_iload 52 dX12_partBy_50 rfl rfl ?_
                  refine xg_iloadn 53 dX12_partBy_52 rfl rfl rfl ?_
                  refine xg_callV 56 12 [_, _] _ kv_X12_toldBy ⟨_, _, rfl⟩ kl_RX12_413 dX12_partBy_53 rfl (by assumption) (by omega) rfl rfl (Nat.le_of_ble_eq_true rfl) (by omega) ⟨Nat.le_refl _, Nat.le_refl _⟩ (ct_X12_toldBy hw hO (by omega) (by omega)) rfl ?_
                  refine xg_aloadn 57 dX12_partBy_56 rfl rfl rfl ?_
                  refine xg_iload 59 dX12_partBy_57 rfl rfl ?_
                  refine xg_iloadn 60 dX12_partBy_59 rfl rfl rfl ?_
                  refine xg_callV 63 12 [_, _] _ kv_X12_toldBy ⟨_, _, rfl⟩ kl_RX12_413 dX12_partBy_60 rfl (by assumption) (by omega) rfl rfl (Nat.le_of_ble_eq_true rfl) (by omega) ⟨Nat.le_refl _, Nat.le_refl _⟩ (ct_X12_toldBy hw hO (by omega) (by omega)) rfl ?_
                  refine xg_icne 70 66 dX12_partBy_63 rfl rfl (by first | omega | exact hR _ | exact ⟨hR _, by omega⟩ | exact ⟨by omega, hR _⟩ | exact ⟨hR _, hR _⟩) (fun hb63 => ?_) (fun hb63 => ?_)
                  · skip
                    refine xg_iconst 71 dX12_partBy_70 rfl ?_
                    refine xg_iadd 72 dX12_partBy_71 rfl ?_
                    refine xg_istore 74 _ dX12_partBy_72 rfl rfl (by decide) (Or.inr rfl) ?_
                    refine xg_iinc 77 _ dX12_partBy_74 rfl rfl rfl rfl (by decide) (Or.inr rfl) ?_
                    refine xg_goto 20 dX12_partBy_77 rfl ?_
                    exact xg_weak _ (xle_s rfl (xle_s rfl (xle_s rfl (xle_s rfl (xle_s rfl (xle_s rfl (xle_s rfl xle_0))))))) (ih2 (b + 1) _ (by omega) (by rw [pSum_s, hn, if_neg (fun q => hb63 q.2.2)]) (by omega))
                  · skip
                    refine xg_iconst 67 dX12_partBy_66 rfl ?_
                    refine xg_goto 71 dX12_partBy_67 rfl ?_
                    refine xg_iadd 72 dX12_partBy_71 rfl ?_
                    refine xg_istore 74 _ dX12_partBy_72 rfl rfl (by decide) (Or.inr rfl) ?_
                    refine xg_iinc 77 _ dX12_partBy_74 rfl rfl rfl rfl (by decide) (Or.inr rfl) ?_
                    refine xg_goto 20 dX12_partBy_77 rfl ?_
                    exact xg_weak _ (xle_s rfl (xle_s rfl (xle_s rfl (xle_s rfl (xle_s rfl (xle_s rfl (xle_s rfl xle_0))))))) (ih2 (b + 1) _ (by omega) (by rw [pSum_s, hn, if_pos ⟨by rw [Int.toNat_natCast]; exact hb37, by rw [Int.toNat_natCast]; exact hb46, hb63⟩]) (by omega))
        exact xg_weak _ (xle_s rfl (xle_s rfl (xle_s rfl (xle_s rfl (xle_s rfl (xle_s rfl (xle_s rfl xle_0))))))) (loop20 20 0 0 (by omega) rfl (by omega))
  exact xg_weak _ (xle_s rfl (xle_s rfl (xle_s rfl (xle_s rfl (xle_s rfl (xle_n (xle_n xle_0))))))) (loop5 20 0 none none (by omega) (by omega))

set_option maxHeartbeats 4000000 in
set_option maxRecDepth 100000 in
theorem ct_X12_look {E : xE} {z : Nat} {T : Nat → Nat × Int} {F : Nat → Nat → Int} {I : Nat → Int → Int} {P : Nat → Nat → Option Nat} {Y : Nat → Int → Option Nat} {m : Nat} {w : Int → Int} (hw : wM T P m) (hO : wOk w)(hT : ∀ j : Int, -128 ≤ I (m + 6) j ∧ I (m + 6) j ≤ 127) (h9 : 0 ≤ F m 9 ∧ F m 9 ≤ 400) (hb : sTld (I (m + 6)) (F m 9) = true) : Ct E 5 mX12_look 0 0 [.ref m] (z, T, F, upA I (m + 1) w, P, Y) (xd (some (J (sLook w (I (m + 6)) (F m 9)))) (z, T, fUse F m, upA I (m + 1) (w), P, Y)) := by
  obtain ⟨⟨q0, q1, q2, q3⟩, -⟩ := id hw
  obtain ⟨hR, o0, o1, o2, o3, o4, o5, o6, oc, o13, o14, o16, o17, o18, ov⟩ := id hO
  have hN := wN_i o0.1
  have hE : 0 ≤ fUse F m m 11 ∧ fUse F m m 11 ≤ 400 := by rw [fUse_11]; exact h9
  have h11 := fUse_11 F m
  have hV : sTld (I (m + 6)) (fUse F m m 11) = true := by rw [h11]; exact hb
  have hf1 := sFit_lt (w := w) o0.2 (I (m + 6)) (F m 9) 1
  have hbc : xbc ((sFit w (I (m + 6)) (F m 9) 1 : Nat) : Int) = ((nPop 12 (sFit w (I (m + 6)) (F m 9) 1) : Nat) : Int) := xbc_pop ⟨_, hf1⟩
  have hbp : nPop 12 (sFit w (I (m + 6)) (F m 9) 1) ≤ 12 := nPop_le _ _
  refine Ct.of [some (.ref m), none, none, none] kt_X12_look rfl (Nat.le_of_ble_eq_true rfl) rfl (fun d hd => ?_)
  generalize hX : xN E _ _ _ = X
  refine xg_aloadn 1 dX12_look_0 rfl rfl rfl ?_
  refine xg_callV 4 12 [] _ kv_X12_uses ⟨_, _, rfl⟩ kl_RX12_240 dX12_look_1 rfl (by assumption) (by omega) rfl rfl (Nat.le_of_ble_eq_true rfl) (by omega) ⟨Nat.le_refl _, Nat.le_refl _⟩ (ct_X12_uses hw) rfl ?_
  refine xg_aloadn 5 dX12_look_4 rfl rfl rfl ?_
  refine xg_aloadn 6 dX12_look_5 rfl rfl rfl ?_
  refine xg_callV 9 12 [] _ kv_X12_areTold ⟨_, _, rfl⟩ kl_RX12_419 dX12_look_6 rfl (by assumption) (by omega) rfl rfl (Nat.le_of_ble_eq_true rfl) (by omega) ⟨Nat.le_refl _, Nat.le_refl _⟩ (ct_X12_areTold hw hT (by assumption)) rfl ?_
  rw [h11]
  refine xg_bne 16 12 dX12_look_9 rfl rfl (fun hb9 => ?_) (fun hb9 => ?_)
  · skip
    refine xg_iconst 17 dX12_look_16 rfl ?_
    refine xg_iconst 18 dX12_look_17 rfl ?_
    refine xg_callV 21 12 [_, _] _ kv_X12_throwsIf ⟨_, _, rfl⟩ kl_RX12_251 dX12_look_18 rfl (by assumption) (by omega) rfl rfl (Nat.le_of_ble_eq_true rfl) (by omega) ⟨Nat.le_refl _, Nat.le_refl _⟩ (ct_throwsF hw) rfl ?_
    refine xg_ifeq 26 24 dX12_look_21 rfl rfl (by first | omega | exact hR _ | exact ⟨hR _, by omega⟩ | exact ⟨by omega, hR _⟩ | exact ⟨hR _, hR _⟩) (fun hb21 => ?_) (fun hb21 => ?_)
    · skip
      refine xg_aloadn 27 dX12_look_26 rfl rfl rfl ?_
      refine xg_iconst 28 dX12_look_27 rfl ?_
      refine xg_callV 31 12 [_] _ kv_X12_thatFit ⟨_, _, rfl⟩ kl_RX12_422 dX12_look_28 rfl (by assumption) (by omega) rfl rfl (Nat.le_of_ble_eq_true rfl) (by omega) ⟨Nat.le_refl _, Nat.le_refl _⟩ (ct_X12_thatFit hw hO hT hE hV (by omega)) rfl ?_
      rw [h11]
      refine xg_istoren 32 _ dX12_look_31 rfl rfl rfl (by decide) (Or.inr rfl) ?_
      refine xg_iconst 33 dX12_look_32 rfl ?_
      refine xg_istoren 34 _ dX12_look_33 rfl rfl rfl (by decide) (Or.inr rfl) ?_
      refine xg_iconst 35 dX12_look_34 rfl ?_
      refine xg_istoren 36 _ dX12_look_35 rfl rfl rfl (by decide) (Or.inr rfl) ?_
      have loop36 : ∀ (mm : Nat) (k : Nat), k ≤ 60 → (k = 0 ∨ 1 < nPop 12 (sFit w (I (m + 6)) (F m 9) 1)) → 60 - (k : Int) < (mm : Int) → xG E mX12_look (xR d 0 0) X 36 [some (.ref m), some (J (sFit w (I (m + 6)) (F m 9) 1 : Nat)), some (J (sLk w (sFit w (I (m + 6)) (F m 9) 1) k)), some (J (k : Int))] [] (z, T, fUse F m, upA I (m + 1) w, P, Y) 0 0 := by
        intro mm
        induction mm with
        | zero => intro k hk hkb hm; exfalso; omega
        | succ mm ih =>
          intro k hk hkb hm
          have hlb := sLk_bd w (sFit w (I (m + 6)) (F m 9) 1) k
          have hp1 := sPart_bd (w := w) o0.2 (sFit w (I (m + 6)) (F m 9) 1) (k : Int) (wN w)
          have hp2 := sPart_bd (w := w) o0.2 (sFit w (I (m + 6)) (F m 9) 1) (sLk w (sFit w (I (m + 6)) (F m 9) 1) k) (wN w)
          refine xg_iloadn 37 dX12_look_36 rfl rfl rfl ?_
          refine xg_bipush 39 dX12_look_37 rfl (by decide) ?_
          refine xg_icge 78 42 dX12_look_39 rfl rfl (by first | omega | exact hR _ | exact ⟨hR _, by omega⟩ | exact ⟨by omega, hR _⟩ | exact ⟨hR _, hR _⟩) (fun hb39 => ?_) (fun hb39 => ?_)
          · skip
            refine xg_iloadn 79 dX12_look_78 rfl rfl rfl ?_
            subst hX
            exact xg_ireturn dX12_look_79 rfl ⟨Nat.le_refl _, Nat.le_refl _⟩ ⟨congrArg (fun v => some (J v)) (by rw [show k = 60 by omega]; unfold sLook; rw [if_pos (by rw [hbc]; show (1 : Int) < ((nPop 12 (sFit w (I (m + 6)) (F m 9) 1) : Nat) : Int); omega)]), rfl⟩
          · skip
            refine xg_iloadn 43 dX12_look_42 rfl rfl rfl ?_
            refine xg_callS 46 [_] _ ks_J6_bitCount_0f7a4 kl_RX12_257 dX12_look_43 rfl rfl rfl (Nat.le_of_ble_eq_true rfl) (by omega) ⟨Nat.le_refl _, Nat.le_refl _⟩ (ct_J6_bitCount_0f7a4) rfl ?_
            rw [hbc]
            refine xg_iconst 47 dX12_look_46 rfl ?_
            refine xg_icle 78 50 dX12_look_47 rfl rfl (by first | omega | exact hR _ | exact ⟨hR _, by omega⟩ | exact ⟨by omega, hR _⟩ | exact ⟨hR _, hR _⟩) (fun hb47 => ?_) (fun hb47 => ?_)
            · skip
              refine xg_iloadn 79 dX12_look_78 rfl rfl rfl ?_
              subst hX
              exact xg_ireturn dX12_look_79 rfl ⟨Nat.le_refl _, Nat.le_refl _⟩ ⟨congrArg (fun v => some (J v)) (by rw [show k = 0 by omega]; unfold sLook; rw [if_neg (by rw [hbc]; show ¬ (1 : Int) < ((nPop 12 (sFit w (I (m + 6)) (F m 9) 1) : Nat) : Int); omega)]; rfl), rfl⟩
            · skip
              refine xg_iloadn 51 dX12_look_50 rfl rfl rfl ?_
              refine xg_iconst 52 dX12_look_51 rfl ?_
              refine xg_iceq 70 55 dX12_look_52 rfl rfl (by first | omega | exact hR _ | exact ⟨hR _, by omega⟩ | exact ⟨by omega, hR _⟩ | exact ⟨hR _, hR _⟩) (fun hb52 => ?_) (fun hb52 => ?_)
              · skip
                refine xg_iloadn 71 dX12_look_70 rfl rfl rfl ?_
                refine xg_istoren 72 _ dX12_look_71 rfl rfl rfl (by decide) (Or.inr rfl) ?_
                refine xg_iinc 75 _ dX12_look_72 rfl rfl rfl rfl (by decide) (Or.inr rfl) ?_
                refine xg_goto 36 dX12_look_75 rfl ?_
                exact xg_weak _ (xle_s rfl (xle_s rfl (xle_s (by rw [sLk, if_pos (Or.inl hb52)]) (xle_s rfl xle_0)))) (ih (k + 1) (by omega) (Or.inr (by omega)) (by omega))
              · skip
                refine xg_aloadn 56 dX12_look_55 rfl rfl rfl ?_
                refine xg_iloadn 57 dX12_look_56 rfl rfl rfl ?_
                refine xg_iloadn 58 dX12_look_57 rfl rfl rfl ?_
                refine xg_callV 61 12 [_, _] _ kv_X12_partBy ⟨_, _, rfl⟩ kl_RX12_431 dX12_look_58 rfl (by assumption) (by omega) rfl rfl (Nat.le_of_ble_eq_true rfl) (by omega) ⟨Nat.le_refl _, Nat.le_refl _⟩ (ct_X12_partBy hw hO (by omega) (by omega)) rfl ?_
                refine xg_aloadn 62 dX12_look_61 rfl rfl rfl ?_
                refine xg_iloadn 63 dX12_look_62 rfl rfl rfl ?_
                refine xg_iloadn 64 dX12_look_63 rfl rfl rfl ?_
                refine xg_callV 67 12 [_, _] _ kv_X12_partBy ⟨_, _, rfl⟩ kl_RX12_431 dX12_look_64 rfl (by assumption) (by omega) rfl rfl (Nat.le_of_ble_eq_true rfl) (by omega) ⟨Nat.le_refl _, Nat.le_refl _⟩ (ct_X12_partBy hw hO (by omega) (by omega)) rfl ?_
                refine xg_icge 72 70 dX12_look_67 rfl rfl (by first | omega | exact hR _ | exact ⟨hR _, by omega⟩ | exact ⟨by omega, hR _⟩ | exact ⟨hR _, hR _⟩) (fun hb67 => ?_) (fun hb67 => ?_)
                · skip
                  refine xg_iinc 75 _ dX12_look_72 rfl rfl rfl rfl (by decide) (Or.inr rfl) ?_
                  refine xg_goto 36 dX12_look_75 rfl ?_
                  exact xg_weak _ (xle_s rfl (xle_s rfl (xle_s (by rw [sLk, if_neg (fun q => by omega)]) (xle_s rfl xle_0)))) (ih (k + 1) (by omega) (Or.inr (by omega)) (by omega))
                · skip
                  refine xg_iloadn 71 dX12_look_70 rfl rfl rfl ?_
                  refine xg_istoren 72 _ dX12_look_71 rfl rfl rfl (by decide) (Or.inr rfl) ?_
                  refine xg_iinc 75 _ dX12_look_72 rfl rfl rfl rfl (by decide) (Or.inr rfl) ?_
                  refine xg_goto 36 dX12_look_75 rfl ?_
                  exact xg_weak _ (xle_s rfl (xle_s rfl (xle_s (by rw [sLk, if_pos (Or.inr hb67)]) (xle_s rfl xle_0)))) (ih (k + 1) (by omega) (Or.inr (by omega)) (by omega))
      exact xg_weak _ (xle_s rfl (xle_s rfl (xle_s rfl (xle_s rfl xle_0)))) (loop36 70 0 (by omega) (Or.inl rfl) (by omega))
    · exfalso; omega
  · skip
    refine xg_iconst 13 dX12_look_12 rfl ?_
    refine xg_goto 17 dX12_look_13 rfl ?_
    refine xg_iconst 18 dX12_look_17 rfl ?_
    refine xg_callV 21 12 [_, _] _ kv_X12_throwsIf ⟨_, _, rfl⟩ kl_RX12_251 dX12_look_18 rfl (by assumption) (by omega) rfl rfl (Nat.le_of_ble_eq_true rfl) (by omega) ⟨Nat.le_refl _, Nat.le_refl _⟩ (ct_throwsT hw) rfl ?_
    refine xg_ifeq 26 24 dX12_look_21 rfl rfl (by first | omega | exact hR _ | exact ⟨hR _, by omega⟩ | exact ⟨by omega, hR _⟩ | exact ⟨hR _, hR _⟩) (fun hb21 => ?_) (fun hb21 => ?_)
    · exfalso; omega
    · skip
      exfalso; rw [hb] at hb9; cases hb9

