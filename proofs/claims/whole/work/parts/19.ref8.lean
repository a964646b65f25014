/-! the scratch arrays of the reference: five, value, least, ahead, paired -/
def xScr (m : Nat) (I I' : Nat → Int → Int) : Prop := ∀ b : Nat, b < m + 7 ∨ m + 11 < b → I' b = I b
theorem xScr.rf {m : Nat} {I : Nat → Int → Int} : xScr m I I := fun _ _ => rfl
theorem xScr.tr {m : Nat} {I I1 I2 : Nat → Int → Int} (h1 : xScr m I I1) (h2 : xScr m I1 I2) : xScr m I I2 := fun b hb => (h2 b hb).trans (h1 b hb)
theorem xScr.up {m a : Nat} {I I1 : Nat → Int → Int} (h : xScr m I I1) (ha : m + 7 ≤ a ∧ a ≤ m + 11) (u : Int → Int) : xScr m I (upA I1 a u) := fun b hb => by rw [upA_na _ _ _ (by omega)]; exact h b hb
def xs (m : Nat) (r : Option Value) (z : Nat) (T : Nat → Nat × Int) (F : Nat → Nat → Int) (I : Nat → Int → Int) (w : Int → Int) (P : Nat → Nat → Option Nat) (Y : Nat → Int → Option Nat) : Option Value → xH → Prop :=
  fun v h' => v = r ∧ ∃ I' : Nat → Int → Int, xScr m I I' ∧ h' = (z, T, F, upA I' (m + 1) w, P, Y)
section XU
variable {E : xE} {M M' : xM} {R : Room} {X : xX} {pc : Nat} {L : List (Option Value)} {st rest : List Value} {h : xH} {z : Nat} {T : Nat → Nat × Int} {F : Nat → Nat → Int} {I : Nat → Int → Int} {P : Nat → Nat → Option Nat} {Y : Nat → Int → Option Nat} {c n d mc ms k' i : Nat}
theorem xg_ialdU {a b : Nat} {w u : Int → Int} {i : Int} (q : Nat) (d : decode M.2.1 pc = .ok (.iaload, 1)) (hq : pc + 1 = q) (hk : (T a).1 = 14 ∧ a ≠ b) (hi : 0 ≤ i ∧ i < (T a).2) (kk : xG E M R X q L (J (u i) :: st) (z, T, F, upA (upA I a u) b w, P, Y) c n) : xG E M R X pc L (J i :: .ref a :: st) (z, T, F, upA (upA I a u) b w, P, Y) c n :=
  xg_iald q d hq hk.1 hi (by rw [upA_na _ _ _ hk.2, upA_at]; exact kk)
theorem upA_com (I : Nat → Int → Int) {a b : Nat} (h : a ≠ b) (f g : Int → Int) : upA (upA I a f) b g = upA (upA I b g) a f := by
  funext x; unfold upA
  by_cases h1 : x = b
  · subst h1; rw [if_pos rfl, if_neg (Ne.symm h), if_pos rfl]
  · rw [if_neg h1]; by_cases h2 : x = a <;> simp [h1, h2]
theorem xg_iastU {a b : Nat} {w u : Int → Int} {i v : Int} (q : Nat) (d : decode M.2.1 pc = .ok (.iastore, 1)) (hq : pc + 1 = q) (hk : (T a).1 = 14 ∧ a ≠ b) (hi : 0 ≤ i ∧ i < (T a).2) (kk : xG E M R X q L st (z, T, F, upA (upA I a (wS u i v)) b w, P, Y) c n) : xG E M R X pc L (J v :: J i :: .ref a :: st) (z, T, F, upA (upA I a u) b w, P, Y) c n :=
  xg_iast q d hq hk.1 hi (by rw [upA_com I hk.2 u w, upA_wS, upA_com _ (Ne.symm hk.2)]; exact kk)
theorem xg_callVs {m : Nat} {I0 : Nat → Int → Int} {w : Int → Int} {b : Nat} {r : Option Value} {st' : List Value} (q : Nat) (ci : Nat) (As rest : List Value) (hM : xMv M') (hci : ∃ (Tt : u_T) (N : Nat), vwCl[ci]? = some (M'.1.cls, Tt, N)) (hl : Cond.methodLink M.1.cls i M'.1 ∈ xT) (d0 : decode M.2.1 pc = .ok (.invokevirtual i, 3)) (hq : pc + 3 = q) (hk : (T b).1 = ci + 1) (hci2 : ci ≤ 12)
    (hn : As.length = M'.2.2.2.2) (hst : st = As.reverse ++ .ref b :: rest) (hsum : (rest.map fun v => v.category).sum ≤ 8) (hd : k' + 1 ≤ d) (hc : c ≤ mc ∧ n ≤ ms) (ct : Ct E k' M' 0 0 (.ref b :: As) (z, T, F, I, P, Y) (xs m r z T F I0 w P Y)) (hr : r.toList ++ rest = st')
    (kk : ∀ I' : Nat → Int → Int, xScr m I0 I' → xG E M (xR d mc ms) X q L st' (z, T, F, upA I' (m + 1) w, P, Y) c n) : xG E M (xR d mc ms) X pc L st (z, T, F, I, P, Y) c n :=
  xg_callV0 q hM hci hl d0 hq hk hci2 hn hst hsum hd (by simpa using hc) ct (fun v h' e => by obtain ⟨rfl, I', hI, rfl⟩ := e; rw [hr]; exact kk I' hI)
end XU
/-! the law -/
noncomputable def sFact (w : Int → Int) (level code arg : Int) : Int :=
  if code = 0 then level else if code = 1 then sMany w level else if code = 2 then sEntIn w (sRuns w level) else if code = 3 then sDebt w else if code = 4 then sEnt w 19 else if code = 5 then w 4 else if code = 6 then w 13 % 100 else if code = 7 then w 16 else if code = 8 then 1 - w 3 else if code = 9 then (if w 5 ≤ sEnt w 19 then 1 else 0) else arg
theorem sFact_bd {w : Int → Int} (h : wOk w) {level code arg : Int} (hl : 0 ≤ level ∧ level < 4) (ha : 0 ≤ arg ∧ arg ≤ 999) : 0 ≤ sFact w level code arg ∧ sFact w level code arg ≤ 10000 := by
  obtain ⟨hR, o0, o1, o2, o3, o4, o5, o6, oc, o13, o14, o16, o17, o18, ov⟩ := id h
  have hN := wN_i o0.1
  have h1 := sMany_bd w level
  have h2 := sEntIn_bd (w := w) (sRuns w level) o0.2
  have h3 := sDebt_bd (w := w) o0.2
  have h4 := sEnt_bd w 19
  unfold sFact
  repeat' split
  all_goals omega
theorem dX12_factOf_0 : decode cX12_factOf 0 = .ok (.iload_n 1, 1) := by decide +kernel
theorem dX12_factOf_1 : decode cX12_factOf 1 = .ok (.tableswitch 144 0 9 #[55, 57, 66, 76, 81, 88, 95, 106, 114, 123], 55) := by decide +kernel
theorem dX12_factOf_56 : decode cX12_factOf 56 = .ok (.iload_n 3, 1) := by decide +kernel
theorem dX12_factOf_57 : decode cX12_factOf 57 = .ok (.ireturn, 1) := by decide +kernel
theorem dX12_factOf_58 : decode cX12_factOf 58 = .ok (.aload_n 0, 1) := by decide +kernel
theorem dX12_factOf_59 : decode cX12_factOf 59 = .ok (.iload_n 3, 1) := by decide +kernel
theorem dX12_factOf_60 : decode cX12_factOf 60 = .ok (.invokevirtual 254, 3) := by decide +kernel
theorem dX12_factOf_63 : decode cX12_factOf 63 = .ok (.invokestatic 257, 3) := by decide +kernel
theorem dX12_factOf_66 : decode cX12_factOf 66 = .ok (.ireturn, 1) := by decide +kernel
theorem dX12_factOf_67 : decode cX12_factOf 67 = .ok (.aload_n 0, 1) := by decide +kernel
theorem dX12_factOf_68 : decode cX12_factOf 68 = .ok (.aload_n 0, 1) := by decide +kernel
theorem dX12_factOf_69 : decode cX12_factOf 69 = .ok (.iload_n 3, 1) := by decide +kernel
theorem dX12_factOf_70 : decode cX12_factOf 70 = .ok (.invokevirtual 254, 3) := by decide +kernel
theorem dX12_factOf_73 : decode cX12_factOf 73 = .ok (.invokevirtual 262, 3) := by decide +kernel
theorem dX12_factOf_76 : decode cX12_factOf 76 = .ok (.ireturn, 1) := by decide +kernel
theorem dX12_factOf_77 : decode cX12_factOf 77 = .ok (.aload_n 0, 1) := by decide +kernel
theorem dX12_factOf_78 : decode cX12_factOf 78 = .ok (.invokevirtual 265, 3) := by decide +kernel
theorem dX12_factOf_81 : decode cX12_factOf 81 = .ok (.ireturn, 1) := by decide +kernel
theorem dX12_factOf_82 : decode cX12_factOf 82 = .ok (.aload_n 0, 1) := by decide +kernel
theorem dX12_factOf_83 : decode cX12_factOf 83 = .ok (.bipush 19, 2) := by decide +kernel
theorem dX12_factOf_85 : decode cX12_factOf 85 = .ok (.invokevirtual 268, 3) := by decide +kernel
theorem dX12_factOf_88 : decode cX12_factOf 88 = .ok (.ireturn, 1) := by decide +kernel
theorem dX12_factOf_89 : decode cX12_factOf 89 = .ok (.aload_n 0, 1) := by decide +kernel
theorem dX12_factOf_90 : decode cX12_factOf 90 = .ok (.getfield 13, 3) := by decide +kernel
theorem dX12_factOf_93 : decode cX12_factOf 93 = .ok (.iconst 4, 1) := by decide +kernel
theorem dX12_factOf_94 : decode cX12_factOf 94 = .ok (.iaload, 1) := by decide +kernel
theorem dX12_factOf_95 : decode cX12_factOf 95 = .ok (.ireturn, 1) := by decide +kernel
theorem dX12_factOf_96 : decode cX12_factOf 96 = .ok (.aload_n 0, 1) := by decide +kernel
theorem dX12_factOf_97 : decode cX12_factOf 97 = .ok (.getfield 13, 3) := by decide +kernel
theorem dX12_factOf_100 : decode cX12_factOf 100 = .ok (.bipush 13, 2) := by decide +kernel
theorem dX12_factOf_102 : decode cX12_factOf 102 = .ok (.iaload, 1) := by decide +kernel
theorem dX12_factOf_103 : decode cX12_factOf 103 = .ok (.bipush 100, 2) := by decide +kernel
theorem dX12_factOf_105 : decode cX12_factOf 105 = .ok (.irem, 1) := by decide +kernel
theorem dX12_factOf_106 : decode cX12_factOf 106 = .ok (.ireturn, 1) := by decide +kernel
theorem dX12_factOf_107 : decode cX12_factOf 107 = .ok (.aload_n 0, 1) := by decide +kernel
theorem dX12_factOf_108 : decode cX12_factOf 108 = .ok (.getfield 13, 3) := by decide +kernel
theorem dX12_factOf_111 : decode cX12_factOf 111 = .ok (.bipush 16, 2) := by decide +kernel
theorem dX12_factOf_113 : decode cX12_factOf 113 = .ok (.iaload, 1) := by decide +kernel
theorem dX12_factOf_114 : decode cX12_factOf 114 = .ok (.ireturn, 1) := by decide +kernel
theorem dX12_factOf_115 : decode cX12_factOf 115 = .ok (.iconst 1, 1) := by decide +kernel
theorem dX12_factOf_116 : decode cX12_factOf 116 = .ok (.aload_n 0, 1) := by decide +kernel
theorem dX12_factOf_117 : decode cX12_factOf 117 = .ok (.getfield 13, 3) := by decide +kernel
theorem dX12_factOf_120 : decode cX12_factOf 120 = .ok (.iconst 3, 1) := by decide +kernel
theorem dX12_factOf_121 : decode cX12_factOf 121 = .ok (.iaload, 1) := by decide +kernel
theorem dX12_factOf_122 : decode cX12_factOf 122 = .ok (.isub, 1) := by decide +kernel
theorem dX12_factOf_123 : decode cX12_factOf 123 = .ok (.ireturn, 1) := by decide +kernel
theorem dX12_factOf_124 : decode cX12_factOf 124 = .ok (.aload_n 0, 1) := by decide +kernel
theorem dX12_factOf_125 : decode cX12_factOf 125 = .ok (.bipush 19, 2) := by decide +kernel
theorem dX12_factOf_127 : decode cX12_factOf 127 = .ok (.invokevirtual 268, 3) := by decide +kernel
theorem dX12_factOf_130 : decode cX12_factOf 130 = .ok (.aload_n 0, 1) := by decide +kernel
theorem dX12_factOf_131 : decode cX12_factOf 131 = .ok (.getfield 13, 3) := by decide +kernel
theorem dX12_factOf_134 : decode cX12_factOf 134 = .ok (.iconst 5, 1) := by decide +kernel
theorem dX12_factOf_135 : decode cX12_factOf 135 = .ok (.iaload, 1) := by decide +kernel
theorem dX12_factOf_136 : decode cX12_factOf 136 = .ok (.if_icmp .lt 7, 3) := by decide +kernel
theorem dX12_factOf_139 : decode cX12_factOf 139 = .ok (.iconst 1, 1) := by decide +kernel
theorem dX12_factOf_140 : decode cX12_factOf 140 = .ok (.goto 4, 3) := by decide +kernel
theorem dX12_factOf_143 : decode cX12_factOf 143 = .ok (.iconst 0, 1) := by decide +kernel
theorem dX12_factOf_144 : decode cX12_factOf 144 = .ok (.ireturn, 1) := by decide +kernel
theorem dX12_factOf_145 : decode cX12_factOf 145 = .ok (.iload_n 2, 1) := by decide +kernel
theorem dX12_factOf_146 : decode cX12_factOf 146 = .ok (.ireturn, 1) := by decide +kernel
set_option maxHeartbeats 4000000 in
set_option maxRecDepth 100000 in
theorem ct_X12_factOf {E : xE} {z : Nat} {T : Nat → Nat × Int} {F : Nat → Nat → Int} {I : Nat → Int → Int} {P : Nat → Nat → Option Nat} {Y : Nat → Int → Option Nat} {m : Nat} {w : Int → Int} (hw : wM T P m) (hO : wOk w){level code arg : Int} (hl : 0 ≤ level ∧ level < 4) (hcd : -2147483648 ≤ code ∧ code < 2147483648) : Ct E 5 mX12_factOf 0 0 [.ref m, J code, J arg, J level] (z, T, F, upA I (m + 1) w, P, Y) (xd (some (J (sFact w level code arg))) (z, T, F, upA I (m + 1) w, P, Y)) := by
  obtain ⟨⟨q0, q1, q2, q3⟩, -⟩ := id hw
  obtain ⟨hR, o0, o1, o2, o3, o4, o5, o6, oc, o13, o14, o16, o17, o18, ov⟩ := id hO
  have hN := wN_i o0.1
  have h4 := sEnt_bd w 19
  have hs : sRuns w level < 2147483648 := by have := sRuns_lt (w := w) level o0.2; omega
  refine Ct.of [some (.ref m), some (J code), some (J arg), some (J level)] kt_X12_factOf rfl (Nat.le_of_ble_eq_true rfl) rfl (fun d hd => ?_)
  generalize hX : xN E _ _ _ = X
  refine xg_iloadn 1 dX12_factOf_0 rfl rfl rfl ?_
  rcases (show code = 0 ∨ code = 1 ∨ code = 2 ∨ code = 3 ∨ code = 4 ∨ code = 5 ∨ code = 6 ∨ code = 7 ∨ code = 8 ∨ code = 9 ∨ (code < 0 ∨ 9 < code) by omega) with ht | ht | ht | ht | ht | ht | ht | ht | ht | ht | ht
  · refine xg_tin (o := 55) 56 dX12_factOf_1 (by first | omega | exact hR _ | exact ⟨hR _, by omega⟩ | exact ⟨by omega, hR _⟩ | exact ⟨hR _, hR _⟩) ⟨by omega, by omega⟩ (by rw [show (code - 0).toNat = 0 by omega]; rfl) rfl ?_
    refine xg_iloadn 57 dX12_factOf_56 rfl rfl rfl ?_
    subst hX
    exact xg_ireturn dX12_factOf_57 rfl ⟨Nat.le_refl _, Nat.le_refl _⟩ ⟨congrArg (fun v => some (J v)) (by subst ht; rfl), rfl⟩
  · refine xg_tin (o := 57) 58 dX12_factOf_1 (by first | omega | exact hR _ | exact ⟨hR _, by omega⟩ | exact ⟨by omega, hR _⟩ | exact ⟨hR _, hR _⟩) ⟨by omega, by omega⟩ (by rw [show (code - 0).toNat = 1 by omega]; rfl) rfl ?_
    refine xg_aloadn 59 dX12_factOf_58 rfl rfl rfl ?_
    refine xg_iloadn 60 dX12_factOf_59 rfl rfl rfl ?_
    refine xg_callV 63 12 [_] _ kv_X12_runsOf ⟨_, _, rfl⟩ kl_RX12_254 dX12_factOf_60 rfl (by assumption) (by omega) rfl rfl (Nat.le_of_ble_eq_true rfl) (by omega) ⟨Nat.le_refl _, Nat.le_refl _⟩ (ct_X12_runsOf hw hO (by omega)) rfl ?_
    refine xg_callS 66 [_] _ ks_J6_bitCount_0f7a4 kl_RX12_257 dX12_factOf_63 rfl rfl rfl (Nat.le_of_ble_eq_true rfl) (by omega) ⟨Nat.le_refl _, Nat.le_refl _⟩ (ct_J6_bitCount_0f7a4) rfl ?_
    rw [xbc_runs level o0.2]
    subst hX
    exact xg_ireturn dX12_factOf_66 rfl ⟨Nat.le_refl _, Nat.le_refl _⟩ ⟨congrArg (fun v => some (J v)) (by subst ht; rfl), rfl⟩
  · refine xg_tin (o := 66) 67 dX12_factOf_1 (by first | omega | exact hR _ | exact ⟨hR _, by omega⟩ | exact ⟨by omega, hR _⟩ | exact ⟨hR _, hR _⟩) ⟨by omega, by omega⟩ (by rw [show (code - 0).toNat = 2 by omega]; rfl) rfl ?_
    refine xg_aloadn 68 dX12_factOf_67 rfl rfl rfl ?_
    refine xg_aloadn 69 dX12_factOf_68 rfl rfl rfl ?_
    refine xg_iloadn 70 dX12_factOf_69 rfl rfl rfl ?_
    refine xg_callV 73 12 [_] _ kv_X12_runsOf ⟨_, _, rfl⟩ kl_RX12_254 dX12_factOf_70 rfl (by assumption) (by omega) rfl rfl (Nat.le_of_ble_eq_true rfl) (by omega) ⟨Nat.le_refl _, Nat.le_refl _⟩ (ct_X12_runsOf hw hO (by omega)) rfl ?_
    refine xg_callV 76 12 [_] _ kv_X12_entriesIn ⟨_, _, rfl⟩ kl_RX12_262 dX12_factOf_73 rfl (by assumption) (by omega) rfl rfl (Nat.le_of_ble_eq_true rfl) (by omega) ⟨Nat.le_refl _, Nat.le_refl _⟩ (ct_X12_entriesIn hw hO hs) rfl ?_
    subst hX
    exact xg_ireturn dX12_factOf_76 rfl ⟨Nat.le_refl _, Nat.le_refl _⟩ ⟨congrArg (fun v => some (J v)) (by subst ht; rfl), rfl⟩
  · refine xg_tin (o := 76) 77 dX12_factOf_1 (by first | omega | exact hR _ | exact ⟨hR _, by omega⟩ | exact ⟨by omega, hR _⟩ | exact ⟨hR _, hR _⟩) ⟨by omega, by omega⟩ (by rw [show (code - 0).toNat = 3 by omega]; rfl) rfl ?_
    refine xg_aloadn 78 dX12_factOf_77 rfl rfl rfl ?_
    refine xg_callV 81 12 [] _ kv_X12_debtNow ⟨_, _, rfl⟩ kl_RX12_265 dX12_factOf_78 rfl (by assumption) (by omega) rfl rfl (Nat.le_of_ble_eq_true rfl) (by omega) ⟨Nat.le_refl _, Nat.le_refl _⟩ (ct_X12_debtNow hw hO) rfl ?_
    subst hX
    exact xg_ireturn dX12_factOf_81 rfl ⟨Nat.le_refl _, Nat.le_refl _⟩ ⟨congrArg (fun v => some (J v)) (by subst ht; rfl), rfl⟩
  · refine xg_tin (o := 81) 82 dX12_factOf_1 (by first | omega | exact hR _ | exact ⟨hR _, by omega⟩ | exact ⟨by omega, hR _⟩ | exact ⟨hR _, hR _⟩) ⟨by omega, by omega⟩ (by rw [show (code - 0).toNat = 4 by omega]; rfl) rfl ?_
    refine xg_aloadn 83 dX12_factOf_82 rfl rfl rfl ?_
    refine xg_bipush 85 dX12_factOf_83 rfl (by decide) ?_
    refine xg_callV 88 12 [_] _ kv_X12_entriesOf ⟨_, _, rfl⟩ kl_RX12_268 dX12_factOf_85 rfl (by assumption) (by omega) rfl rfl (Nat.le_of_ble_eq_true rfl) (by omega) ⟨Nat.le_refl _, Nat.le_refl _⟩ (ct_X12_entriesOf hw hR (by omega)) rfl ?_
    subst hX
    exact xg_ireturn dX12_factOf_88 rfl ⟨Nat.le_refl _, Nat.le_refl _⟩ ⟨congrArg (fun v => some (J v)) (by subst ht; rfl), rfl⟩
  · refine xg_tin (o := 88) 89 dX12_factOf_1 (by first | omega | exact hR _ | exact ⟨hR _, by omega⟩ | exact ⟨by omega, hR _⟩ | exact ⟨hR _, hR _⟩) ⟨by omega, by omega⟩ (by rw [show (code - 0).toNat = 5 by omega]; rfl) rfl ?_
    refine xg_aloadn 90 dX12_factOf_89 rfl rfl rfl ?_
    refine xg_getP 93 kf_RX12_13 dX12_factOf_90 rfl (by assumption) (by assumption) ?_
    refine xg_iconst 94 dX12_factOf_93 rfl ?_
    refine xg_ialdW 95 dX12_factOf_94 rfl (by assumption) (by first | omega | exact hR _ | exact ⟨hR _, by omega⟩ | exact ⟨by omega, hR _⟩ | exact ⟨hR _, hR _⟩) ?_
    subst hX
    exact xg_ireturn dX12_factOf_95 rfl ⟨Nat.le_refl _, Nat.le_refl _⟩ ⟨congrArg (fun v => some (J v)) (by subst ht; rfl), rfl⟩
  · refine xg_tin (o := 95) 96 dX12_factOf_1 (by first | omega | exact hR _ | exact ⟨hR _, by omega⟩ | exact ⟨by omega, hR _⟩ | exact ⟨hR _, hR _⟩) ⟨by omega, by omega⟩ (by rw [show (code - 0).toNat = 6 by omega]; rfl) rfl ?_
    refine xg_aloadn 97 dX12_factOf_96 rfl rfl rfl ?_
    refine xg_getP 100 kf_RX12_13 dX12_factOf_97 rfl (by assumption) (by assumption) ?_
    refine xg_bipush 102 dX12_factOf_100 rfl (by decide) ?_
    refine xg_ialdW 103 dX12_factOf_102 rfl (by assumption) (by first | omega | exact hR _ | exact ⟨hR _, by omega⟩ | exact ⟨by omega, hR _⟩ | exact ⟨hR _, hR _⟩) ?_
    refine xg_bipush 105 dX12_factOf_103 rfl (by decide) ?_
    refine xg_irem 106 dX12_factOf_105 rfl (by first | omega | exact hR _ | exact ⟨hR _, by omega⟩ | exact ⟨by omega, hR _⟩ | exact ⟨hR _, hR _⟩) ?_
    subst hX
    exact xg_ireturn dX12_factOf_106 rfl ⟨Nat.le_refl _, Nat.le_refl _⟩ ⟨congrArg (fun v => some (J v)) (by subst ht; rfl), rfl⟩
  · refine xg_tin (o := 106) 107 dX12_factOf_1 (by first | omega | exact hR _ | exact ⟨hR _, by omega⟩ | exact ⟨by omega, hR _⟩ | exact ⟨hR _, hR _⟩) ⟨by omega, by omega⟩ (by rw [show (code - 0).toNat = 7 by omega]; rfl) rfl ?_
    refine xg_aloadn 108 dX12_factOf_107 rfl rfl rfl ?_
    refine xg_getP 111 kf_RX12_13 dX12_factOf_108 rfl (by assumption) (by assumption) ?_
    refine xg_bipush 113 dX12_factOf_111 rfl (by decide) ?_
    refine xg_ialdW 114 dX12_factOf_113 rfl (by assumption) (by first | omega | exact hR _ | exact ⟨hR _, by omega⟩ | exact ⟨by omega, hR _⟩ | exact ⟨hR _, hR _⟩) ?_
    subst hX
    exact xg_ireturn dX12_factOf_114 rfl ⟨Nat.le_refl _, Nat.le_refl _⟩ ⟨congrArg (fun v => some (J v)) (by subst ht; rfl), rfl⟩
  · refine xg_tin (o := 114) 115 dX12_factOf_1 (by first | omega | exact hR _ | exact ⟨hR _, by omega⟩ | exact ⟨by omega, hR _⟩ | exact ⟨hR _, hR _⟩) ⟨by omega, by omega⟩ (by rw [show (code - 0).toNat = 8 by omega]; rfl) rfl ?_
    refine xg_iconst 116 dX12_factOf_115 rfl ?_
    refine xg_aloadn 117 dX12_factOf_116 rfl rfl rfl ?_
    refine xg_getP 120 kf_RX12_13 dX12_factOf_117 rfl (by assumption) (by assumption) ?_
    refine xg_iconst 121 dX12_factOf_120 rfl ?_
    refine xg_ialdW 122 dX12_factOf_121 rfl (by assumption) (by first | omega | exact hR _ | exact ⟨hR _, by omega⟩ | exact ⟨by omega, hR _⟩ | exact ⟨hR _, hR _⟩) ?_
    refine xg_isub 123 dX12_factOf_122 rfl ?_
    subst hX
    exact xg_ireturn dX12_factOf_123 rfl ⟨Nat.le_refl _, Nat.le_refl _⟩ ⟨congrArg (fun v => some (J v)) (by subst ht; rfl), rfl⟩
  · refine xg_tin (o := 123) 124 dX12_factOf_1 (by first | omega | exact hR _ | exact ⟨hR _, by omega⟩ | exact ⟨by omega, hR _⟩ | exact ⟨hR _, hR _⟩) ⟨by omega, by omega⟩ (by rw [show (code - 0).toNat = 9 by omega]; rfl) rfl ?_
    refine xg_aloadn 125 dX12_factOf_124 rfl rfl rfl ?_
    refine xg_bipush 127 dX12_factOf_125 rfl (by decide) ?_
    refine xg_callV 130 12 [_] _ kv_X12_entriesOf ⟨_, _, rfl⟩ kl_RX12_268 dX12_factOf_127 rfl (by assumption) (by omega) rfl rfl (Nat.le_of_ble_eq_true rfl) (by omega) ⟨Nat.le_refl _, Nat.le_refl _⟩ (ct_X12_entriesOf hw hR (by omega)) rfl ?_
    refine xg_aloadn 131 dX12_factOf_130 rfl rfl rfl ?_
    refine xg_getP 134 kf_RX12_13 dX12_factOf_131 rfl (by assumption) (by assumption) ?_
    refine xg_iconst 135 dX12_factOf_134 rfl ?_
    refine xg_ialdW 136 dX12_factOf_135 rfl (by assumption) (by first | omega | exact hR _ | exact ⟨hR _, by omega⟩ | exact ⟨by omega, hR _⟩ | exact ⟨hR _, hR _⟩) ?_
    refine xg_iclt 143 139 dX12_factOf_136 rfl rfl (by first | omega | exact hR _ | exact ⟨hR _, by omega⟩ | exact ⟨by omega, hR _⟩ | exact ⟨hR _, hR _⟩) (fun hb136 => ?_) (fun hb136 => ?_)
    · skip
      refine xg_iconst 144 dX12_factOf_143 rfl ?_
      subst hX
      exact xg_ireturn dX12_factOf_144 rfl ⟨Nat.le_refl _, Nat.le_refl _⟩ ⟨congrArg (fun v => some (J v)) (by subst ht; show _ = if w 5 ≤ sEnt w 19 then (1 : Int) else 0; rw [if_neg (by omega)]), rfl⟩
    · skip
      refine xg_iconst 140 dX12_factOf_139 rfl ?_
      refine xg_goto 144 dX12_factOf_140 rfl ?_
      subst hX
      exact xg_ireturn dX12_factOf_144 rfl ⟨Nat.le_refl _, Nat.le_refl _⟩ ⟨congrArg (fun v => some (J v)) (by subst ht; show _ = if w 5 ≤ sEnt w 19 then (1 : Int) else 0; rw [if_pos (by omega)]), rfl⟩
  · refine xg_tout 145 dX12_factOf_1 (by first | omega | exact hR _ | exact ⟨hR _, by omega⟩ | exact ⟨by omega, hR _⟩ | exact ⟨hR _, hR _⟩) ht rfl ?_
    refine xg_iloadn 146 dX12_factOf_145 rfl rfl rfl ?_
    subst hX
    exact xg_ireturn dX12_factOf_146 rfl ⟨Nat.le_refl _, Nat.le_refl _⟩ ⟨congrArg (fun v => some (J v)) (by unfold sFact; rw [if_neg (by omega), if_neg (by omega), if_neg (by omega), if_neg (by omega), if_neg (by omega), if_neg (by omega), if_neg (by omega), if_neg (by omega), if_neg (by omega), if_neg (by omega)]), rfl⟩

def wSR (w : Int → Int) (r n : Int) : Int → Int := fun j => if 199 + 122 * (r + 1) ≤ j ∧ j < 199 + 122 * (n + 1) then w (j - 122) else w j
theorem wSR_0 (w : Int → Int) (n : Int) : wSR w n n = w := by funext j; exact if_neg (by omega)
theorem wSR_s (w : Int → Int) (r n : Int) (h : 0 < r ∧ r ≤ n) : wC (wSR w r n) (199 + 122 * (r - 1)) (199 + 122 * r) 122 = wSR w (r + -1) n := by
  funext j
  unfold wC
  by_cases h1 : 199 + 122 * r ≤ j ∧ j < 199 + 122 * r + 122
  · rw [if_pos h1]
    unfold wSR
    rw [if_neg (by omega), if_pos (by omega)]
    congr 1; omega
  · rw [if_neg h1]
    unfold wSR
    by_cases h2 : 199 + 122 * (r + 1) ≤ j ∧ j < 199 + 122 * (n + 1)
    · rw [if_pos h2, if_pos (by omega)]
    · rw [if_neg h2, if_neg (by omega)]
theorem wOk_SR {w : Int → Int} (h : wOk w) (r n : Int) (hr : 0 ≤ r) (hn : n < 12) : wOk (wSR w r n) := by
  rw [wOk_iff] at h ⊢
  intro j
  unfold wSR
  split
  · have := h (j - 122)
    unfold wCell at this ⊢
    omega
  · exact h j
def wZ (w : Int → Int) (k : Int) : Int → Int := fun j => if 261 ≤ j ∧ j < 261 + k then 0 else w j
theorem wZ_0 (w : Int → Int) : wZ w 0 = w := by funext j; exact if_neg (by omega)
theorem wZ_s (w : Int → Int) (k : Int) (hk : 0 ≤ k) : wS (wZ w k) (261 + k) 0 = wZ w (k + 1) := by
  funext j
  unfold wS wZ
  by_cases hj : j = 261 + k
  · rw [if_pos hj, if_pos (by omega)]
  · rw [if_neg hj]
    by_cases h1 : 261 ≤ j ∧ j < 261 + k
    · rw [if_pos h1, if_pos (by omega)]
    · rw [if_neg h1, if_neg (by omega)]
def sFl1 (w : Int → Int) : Int → Int := wSR (sTold w 0 0 (sEnt w 19)) 0 (w 0)
def sFlush (w : Int → Int) : Int → Int := wE (wZ (wC (wS (wS (wS (sFl1 w) 0 (sFl1 w 0 + 1)) 199 0) 200 0) 19 201 60) 60) 19 60
theorem sFl1_0 {w : Int → Int} : sFl1 w 0 = w 0 := by
  unfold sFl1
  rw [show wSR (sTold w 0 0 (sEnt w 19)) 0 (w 0) 0 = sTold w 0 0 (sEnt w 19) 0 from if_neg (by omega), sTold_lo _ _ _ _ (by omega) (by omega)]
theorem wOk_flush {w : Int → Int} (h : wOk w) (hn : w 0 < 12) : wOk (sFlush w) := by
  have h1 := sEnt_bd w 19
  have o0 := h.2.1
  have a1 : wOk (sFl1 w) := wOk_SR (wOk_told h (by omega) (by omega) (by omega)) 0 _ (by omega) hn
  have a2 : wOk (wC (wS (wS (wS (sFl1 w) 0 (sFl1 w 0 + 1)) 199 0) 200 0) 19 201 60) :=
    wOk_C (wOk_S (wOk_S (wOk_S a1 _ _ (by rw [sFl1_0]; unfold wCell; omega)) _ _ (by unfold wCell; omega)) _ _ (by unfold wCell; omega)) _ _ _ (by omega) (by omega)
  refine wOk_E ?_ 19 (by omega)
  rw [wOk_iff] at a2 ⊢
  intro j
  unfold wZ
  split
  · unfold wCell; omega
  · exact a2 j
theorem dX12_isFlushed_0 : decode cX12_isFlushed 0 = .ok (.aload_n 0, 1) := by decide +kernel
theorem dX12_isFlushed_1 : decode cX12_isFlushed 1 = .ok (.iconst 0, 1) := by decide +kernel
theorem dX12_isFlushed_2 : decode cX12_isFlushed 2 = .ok (.iconst 0, 1) := by decide +kernel
theorem dX12_isFlushed_3 : decode cX12_isFlushed 3 = .ok (.aload_n 0, 1) := by decide +kernel
theorem dX12_isFlushed_4 : decode cX12_isFlushed 4 = .ok (.bipush 19, 2) := by decide +kernel
theorem dX12_isFlushed_6 : decode cX12_isFlushed 6 = .ok (.invokevirtual 268, 3) := by decide +kernel
theorem dX12_isFlushed_9 : decode cX12_isFlushed 9 = .ok (.invokevirtual 312, 3) := by decide +kernel
theorem dX12_isFlushed_12 : decode cX12_isFlushed 12 = .ok (.aload_n 0, 1) := by decide +kernel
theorem dX12_isFlushed_13 : decode cX12_isFlushed 13 = .ok (.invokevirtual 66, 3) := by decide +kernel
theorem dX12_isFlushed_16 : decode cX12_isFlushed 16 = .ok (.istore_n 1, 1) := by decide +kernel
theorem dX12_isFlushed_17 : decode cX12_isFlushed 17 = .ok (.iload_n 1, 1) := by decide +kernel
theorem dX12_isFlushed_18 : decode cX12_isFlushed 18 = .ok (.ifCond .le 27, 3) := by decide +kernel
theorem dX12_isFlushed_21 : decode cX12_isFlushed 21 = .ok (.aload_n 0, 1) := by decide +kernel
theorem dX12_isFlushed_22 : decode cX12_isFlushed 22 = .ok (.iload_n 1, 1) := by decide +kernel
theorem dX12_isFlushed_23 : decode cX12_isFlushed 23 = .ok (.iconst 1, 1) := by decide +kernel
theorem dX12_isFlushed_24 : decode cX12_isFlushed 24 = .ok (.isub, 1) := by decide +kernel
theorem dX12_isFlushed_25 : decode cX12_isFlushed 25 = .ok (.iconst 0, 1) := by decide +kernel
theorem dX12_isFlushed_26 : decode cX12_isFlushed 26 = .ok (.invokestatic 62, 3) := by decide +kernel
theorem dX12_isFlushed_29 : decode cX12_isFlushed 29 = .ok (.iload_n 1, 1) := by decide +kernel
theorem dX12_isFlushed_30 : decode cX12_isFlushed 30 = .ok (.iconst 0, 1) := by decide +kernel
theorem dX12_isFlushed_31 : decode cX12_isFlushed 31 = .ok (.invokestatic 62, 3) := by decide +kernel
theorem dX12_isFlushed_34 : decode cX12_isFlushed 34 = .ok (.bipush 122, 2) := by decide +kernel
theorem dX12_isFlushed_36 : decode cX12_isFlushed 36 = .ok (.invokevirtual 318, 3) := by decide +kernel
theorem dX12_isFlushed_39 : decode cX12_isFlushed 39 = .ok (.iinc 1 (-1), 3) := by decide +kernel
theorem dX12_isFlushed_42 : decode cX12_isFlushed 42 = .ok (.goto (-25), 3) := by decide +kernel
theorem dX12_isFlushed_45 : decode cX12_isFlushed 45 = .ok (.aload_n 0, 1) := by decide +kernel
theorem dX12_isFlushed_46 : decode cX12_isFlushed 46 = .ok (.getfield 13, 3) := by decide +kernel
theorem dX12_isFlushed_49 : decode cX12_isFlushed 49 = .ok (.iconst 0, 1) := by decide +kernel
theorem dX12_isFlushed_50 : decode cX12_isFlushed 50 = .ok (.dup2, 1) := by decide +kernel
theorem dX12_isFlushed_51 : decode cX12_isFlushed 51 = .ok (.iaload, 1) := by decide +kernel
theorem dX12_isFlushed_52 : decode cX12_isFlushed 52 = .ok (.iconst 1, 1) := by decide +kernel
theorem dX12_isFlushed_53 : decode cX12_isFlushed 53 = .ok (.iadd, 1) := by decide +kernel
theorem dX12_isFlushed_54 : decode cX12_isFlushed 54 = .ok (.iastore, 1) := by decide +kernel
theorem dX12_isFlushed_55 : decode cX12_isFlushed 55 = .ok (.aload_n 0, 1) := by decide +kernel
theorem dX12_isFlushed_56 : decode cX12_isFlushed 56 = .ok (.getfield 13, 3) := by decide +kernel
theorem dX12_isFlushed_59 : decode cX12_isFlushed 59 = .ok (.iconst 0, 1) := by decide +kernel
theorem dX12_isFlushed_60 : decode cX12_isFlushed 60 = .ok (.iconst 0, 1) := by decide +kernel
theorem dX12_isFlushed_61 : decode cX12_isFlushed 61 = .ok (.invokestatic 62, 3) := by decide +kernel
theorem dX12_isFlushed_64 : decode cX12_isFlushed 64 = .ok (.iconst 0, 1) := by decide +kernel
theorem dX12_isFlushed_65 : decode cX12_isFlushed 65 = .ok (.iastore, 1) := by decide +kernel
theorem dX12_isFlushed_66 : decode cX12_isFlushed 66 = .ok (.aload_n 0, 1) := by decide +kernel
theorem dX12_isFlushed_67 : decode cX12_isFlushed 67 = .ok (.getfield 13, 3) := by decide +kernel
theorem dX12_isFlushed_70 : decode cX12_isFlushed 70 = .ok (.iconst 0, 1) := by decide +kernel
theorem dX12_isFlushed_71 : decode cX12_isFlushed 71 = .ok (.iconst 1, 1) := by decide +kernel
theorem dX12_isFlushed_72 : decode cX12_isFlushed 72 = .ok (.invokestatic 62, 3) := by decide +kernel
theorem dX12_isFlushed_75 : decode cX12_isFlushed 75 = .ok (.iconst 0, 1) := by decide +kernel
theorem dX12_isFlushed_76 : decode cX12_isFlushed 76 = .ok (.iastore, 1) := by decide +kernel
theorem dX12_isFlushed_77 : decode cX12_isFlushed 77 = .ok (.aload_n 0, 1) := by decide +kernel
theorem dX12_isFlushed_78 : decode cX12_isFlushed 78 = .ok (.bipush 19, 2) := by decide +kernel
theorem dX12_isFlushed_80 : decode cX12_isFlushed 80 = .ok (.iconst 0, 1) := by decide +kernel
theorem dX12_isFlushed_81 : decode cX12_isFlushed 81 = .ok (.invokestatic 133, 3) := by decide +kernel
theorem dX12_isFlushed_84 : decode cX12_isFlushed 84 = .ok (.bipush 60, 2) := by decide +kernel
theorem dX12_isFlushed_86 : decode cX12_isFlushed 86 = .ok (.invokevirtual 318, 3) := by decide +kernel
theorem dX12_isFlushed_89 : decode cX12_isFlushed 89 = .ok (.iconst 0, 1) := by decide +kernel
theorem dX12_isFlushed_90 : decode cX12_isFlushed 90 = .ok (.istore_n 1, 1) := by decide +kernel
theorem dX12_isFlushed_91 : decode cX12_isFlushed 91 = .ok (.iload_n 1, 1) := by decide +kernel
theorem dX12_isFlushed_92 : decode cX12_isFlushed 92 = .ok (.bipush 60, 2) := by decide +kernel
theorem dX12_isFlushed_94 : decode cX12_isFlushed 94 = .ok (.if_icmp .ge 24, 3) := by decide +kernel
theorem dX12_isFlushed_97 : decode cX12_isFlushed 97 = .ok (.aload_n 0, 1) := by decide +kernel
theorem dX12_isFlushed_98 : decode cX12_isFlushed 98 = .ok (.getfield 13, 3) := by decide +kernel
theorem dX12_isFlushed_101 : decode cX12_isFlushed 101 = .ok (.iconst 0, 1) := by decide +kernel
theorem dX12_isFlushed_102 : decode cX12_isFlushed 102 = .ok (.invokestatic 133, 3) := by decide +kernel
theorem dX12_isFlushed_105 : decode cX12_isFlushed 105 = .ok (.bipush 60, 2) := by decide +kernel
theorem dX12_isFlushed_107 : decode cX12_isFlushed 107 = .ok (.iadd, 1) := by decide +kernel
theorem dX12_isFlushed_108 : decode cX12_isFlushed 108 = .ok (.iload_n 1, 1) := by decide +kernel
theorem dX12_isFlushed_109 : decode cX12_isFlushed 109 = .ok (.iadd, 1) := by decide +kernel
theorem dX12_isFlushed_110 : decode cX12_isFlushed 110 = .ok (.iconst 0, 1) := by decide +kernel
theorem dX12_isFlushed_111 : decode cX12_isFlushed 111 = .ok (.iastore, 1) := by decide +kernel
theorem dX12_isFlushed_112 : decode cX12_isFlushed 112 = .ok (.iinc 1 1, 3) := by decide +kernel
theorem dX12_isFlushed_115 : decode cX12_isFlushed 115 = .ok (.goto (-24), 3) := by decide +kernel
theorem dX12_isFlushed_118 : decode cX12_isFlushed 118 = .ok (.aload_n 0, 1) := by decide +kernel
theorem dX12_isFlushed_119 : decode cX12_isFlushed 119 = .ok (.bipush 19, 2) := by decide +kernel
theorem dX12_isFlushed_121 : decode cX12_isFlushed 121 = .ok (.invokevirtual 51, 3) := by decide +kernel
theorem dX12_isFlushed_124 : decode cX12_isFlushed 124 = .ok (.return_, 1) := by decide +kernel
set_option maxHeartbeats 4000000 in
set_option maxRecDepth 100000 in
theorem ct_X12_isFlushed {E : xE} {z : Nat} {T : Nat → Nat × Int} {F : Nat → Nat → Int} {I : Nat → Int → Int} {P : Nat → Nat → Option Nat} {Y : Nat → Int → Option Nat} {m : Nat} {w : Int → Int} (hw : wM T P m) (hO : wOk w)(hn : w 0 < 12) : Ct E 3 mX12_isFlushed 0 0 [.ref m] (z, T, F, upA I (m + 1) w, P, Y) (xd none (z, T, F, upA I (m + 1) (sFlush w), P, Y)) := by
  obtain ⟨⟨q0, q1, q2, q3⟩, -⟩ := id hw
  obtain ⟨hR, o0, o1, o2, o3, o4, o5, o6, oc, o13, o14, o16, o17, o18, ov⟩ := id hO
  have hN := wN_i o0.1
  have heb := sEnt_bd w 19
  have hT0 : sTold w 0 0 (sEnt w 19) 0 = w 0 := sTold_lo _ _ _ _ (by omega) (by omega)
  refine Ct.of [some (.ref m), none] kt_X12_isFlushed rfl (Nat.le_of_ble_eq_true rfl) rfl (fun d hd => ?_)
  generalize hX : xN E _ _ _ = X
  refine xg_aloadn 1 dX12_isFlushed_0 rfl rfl rfl ?_
  refine xg_iconst 2 dX12_isFlushed_1 rfl ?_
  refine xg_iconst 3 dX12_isFlushed_2 rfl ?_
  refine xg_aloadn 4 dX12_isFlushed_3 rfl rfl rfl ?_
  refine xg_bipush 6 dX12_isFlushed_4 rfl (by decide) ?_
  refine xg_callV 9 12 [_] _ kv_X12_entriesOf ⟨_, _, rfl⟩ kl_RX12_268 dX12_isFlushed_6 rfl (by assumption) (by omega) rfl rfl (Nat.le_of_ble_eq_true rfl) (by omega) ⟨Nat.le_refl _, Nat.le_refl _⟩ (ct_X12_entriesOf hw hR (by omega)) rfl ?_
  refine xg_callV 12 12 [_, _, _] _ kv_X12_isTold ⟨_, _, rfl⟩ kl_RX12_312 dX12_isFlushed_9 rfl (by assumption) (by omega) rfl rfl (Nat.le_of_ble_eq_true rfl) (by omega) ⟨Nat.le_refl _, Nat.le_refl _⟩ (ct_X12_isTold hw hO (by omega) (by omega) (by omega)) rfl ?_
  refine xg_aloadn 13 dX12_isFlushed_12 rfl rfl rfl ?_
  refine xg_callV 16 12 [] _ kv_X12_runs ⟨_, _, rfl⟩ kl_RX12_66 dX12_isFlushed_13 rfl (by assumption) (by omega) rfl rfl (Nat.le_of_ble_eq_true rfl) (by omega) ⟨Nat.le_refl _, Nat.le_refl _⟩ (ct_X12_runs hw) rfl ?_
  rw [hT0]
  refine xg_istoren 17 _ dX12_isFlushed_16 rfl rfl rfl (by decide) (Or.inr rfl) ?_
  have loop17 : ∀ (mm : Nat) (r : Int), (0 ≤ r ∧ r ≤ w 0) → r < (mm : Int) → xG E mX12_isFlushed (xR d 0 0) X 17 [some (.ref m), some (J r)] [] (z, T, F, upA I (m + 1) (wSR (sTold w 0 0 (sEnt w 19)) r (w 0)), P, Y) 0 0 := by
    intro mm
    induction mm with
    | zero => intro r hr hm; exfalso; omega
    | succ mm ih =>
      intro r hr hm
      refine xg_iloadn 18 dX12_isFlushed_17 rfl rfl rfl ?_
      refine xg_ifle 45 21 dX12_isFlushed_18 rfl rfl (by first | omega | exact hR _ | exact ⟨hR _, by omega⟩ | exact ⟨by omega, hR _⟩ | exact ⟨hR _, hR _⟩) (fun hb18 => ?_) (fun hb18 => ?_)
      · skip
        rw [show r = 0 by omega]
        change xG _ _ _ _ _ _ _ (z, T, F, upA I (m + 1) (sFl1 w), P, Y) _ _
        clear ih hm hr hb18
        clear r
        refine xg_aloadn 46 dX12_isFlushed_45 rfl rfl rfl ?_
        refine xg_getP 49 kf_RX12_13 dX12_isFlushed_46 rfl (by assumption) (by assumption) ?_
        refine xg_iconst 50 dX12_isFlushed_49 rfl ?_
        refine xg_dup2 51 dX12_isFlushed_50 rfl rfl rfl ?_
        refine xg_ialdW 52 dX12_isFlushed_51 rfl (by assumption) (by first | omega | exact hR _ | exact ⟨hR _, by omega⟩ | exact ⟨by omega, hR _⟩ | exact ⟨hR _, hR _⟩) ?_
        refine xg_iconst 53 dX12_isFlushed_52 rfl ?_
        refine xg_iadd 54 dX12_isFlushed_53 rfl ?_
        refine xg_iastW 55 dX12_isFlushed_54 rfl (by assumption) (by first | omega | exact hR _ | exact ⟨hR _, by omega⟩ | exact ⟨by omega, hR _⟩ | exact ⟨hR _, hR _⟩) ?_
        refine xg_aloadn 56 dX12_isFlushed_55 rfl rfl rfl ?_
        refine xg_getP 59 kf_RX12_13 dX12_isFlushed_56 rfl (by assumption) (by assumption) ?_
        refine xg_iconst 60 dX12_isFlushed_59 rfl ?_
        refine xg_iconst 61 dX12_isFlushed_60 rfl ?_
        refine xg_callS 64 [_, _] _ ks_X12_runAt kl_RX12_62 dX12_isFlushed_61 rfl rfl rfl (Nat.le_of_ble_eq_true rfl) (by omega) ⟨Nat.le_refl _, Nat.le_refl _⟩ (ct_X12_runAt) rfl ?_
        refine xg_iconst 65 dX12_isFlushed_64 rfl ?_
        refine xg_iastW 66 dX12_isFlushed_65 rfl (by assumption) (by first | omega | exact hR _ | exact ⟨hR _, by omega⟩ | exact ⟨by omega, hR _⟩ | exact ⟨hR _, hR _⟩) ?_
        refine xg_aloadn 67 dX12_isFlushed_66 rfl rfl rfl ?_
        refine xg_getP 70 kf_RX12_13 dX12_isFlushed_67 rfl (by assumption) (by assumption) ?_
        refine xg_iconst 71 dX12_isFlushed_70 rfl ?_
        refine xg_iconst 72 dX12_isFlushed_71 rfl ?_
        refine xg_callS 75 [_, _] _ ks_X12_runAt kl_RX12_62 dX12_isFlushed_72 rfl rfl rfl (Nat.le_of_ble_eq_true rfl) (by omega) ⟨Nat.le_refl _, Nat.le_refl _⟩ (ct_X12_runAt) rfl ?_
        refine xg_iconst 76 dX12_isFlushed_75 rfl ?_
        refine xg_iastW 77 dX12_isFlushed_76 rfl (by assumption) (by first | omega | exact hR _ | exact ⟨hR _, by omega⟩ | exact ⟨by omega, hR _⟩ | exact ⟨hR _, hR _⟩) ?_
        refine xg_aloadn 78 dX12_isFlushed_77 rfl rfl rfl ?_
        refine xg_bipush 80 dX12_isFlushed_78 rfl (by decide) ?_
        refine xg_iconst 81 dX12_isFlushed_80 rfl ?_
        refine xg_callS 84 [_] _ ks_X12_rowOf kl_RX12_133 dX12_isFlushed_81 rfl rfl rfl (Nat.le_of_ble_eq_true rfl) (by omega) ⟨Nat.le_refl _, Nat.le_refl _⟩ (ct_X12_rowOf) rfl ?_
        refine xg_bipush 86 dX12_isFlushed_84 rfl (by decide) ?_
        refine xg_callV 89 12 [_, _, _] _ kv_X12_copies ⟨_, _, rfl⟩ kl_RX12_318 dX12_isFlushed_86 rfl (by assumption) (by omega) rfl rfl (Nat.le_of_ble_eq_true rfl) (by omega) ⟨Nat.le_refl _, Nat.le_refl _⟩ (ct_X12_copies hw (by omega) (by omega) (by omega) (by omega)) rfl ?_
        refine xg_iconst 90 dX12_isFlushed_89 rfl ?_
        refine xg_istoren 91 _ dX12_isFlushed_90 rfl rfl rfl (by decide) (Or.inr rfl) ?_
        have loop91 : ∀ (mm : Nat) (k : Int), (0 ≤ k ∧ k ≤ 60) → 60 - k < (mm : Int) → xG E mX12_isFlushed (xR d 0 0) X 91 [some (.ref m), some (J k)] [] (z, T, F, upA I (m + 1) (wZ (wC (wS (wS (wS (sFl1 w) 0 (sFl1 w 0 + 1)) 199 0) 200 0) 19 201 60) k), P, Y) 0 0 := by
          intro mm
          induction mm with
          | zero => intro k hk hm; exfalso; omega
          | succ mm ih =>
            intro k hk hm
            refine xg_iloadn 92 dX12_isFlushed_91 rfl rfl rfl ?_
            refine xg_bipush 94 dX12_isFlushed_92 rfl (by decide) ?_
            refine xg_icge 118 97 dX12_isFlushed_94 rfl rfl (by first | omega | exact hR _ | exact ⟨hR _, by omega⟩ | exact ⟨by omega, hR _⟩ | exact ⟨hR _, hR _⟩) (fun hb94 => ?_) (fun hb94 => ?_)
            · skip
              refine xg_aloadn 119 dX12_isFlushed_118 rfl rfl rfl ?_
              refine xg_bipush 121 dX12_isFlushed_119 rfl (by decide) ?_
              refine xg_callV 124 12 [_] _ kv_X12_empties ⟨_, _, rfl⟩ kl_RX12_51 dX12_isFlushed_121 rfl (by assumption) (by omega) rfl rfl (Nat.le_of_ble_eq_true rfl) (by omega) ⟨Nat.le_refl _, Nat.le_refl _⟩ (ct_X12_empties hw (by omega)) rfl ?_
              subst hX
              exact xg_return dX12_isFlushed_124 rfl ⟨Nat.le_refl _, Nat.le_refl _⟩ ⟨rfl, by rw [show k = 60 by omega]; rfl⟩
            · skip
              refine xg_aloadn 98 dX12_isFlushed_97 rfl rfl rfl ?_
              refine xg_getP 101 kf_RX12_13 dX12_isFlushed_98 rfl (by assumption) (by assumption) ?_
              refine xg_iconst 102 dX12_isFlushed_101 rfl ?_
              refine xg_callS 105 [_] _ ks_X12_rowOf kl_RX12_133 dX12_isFlushed_102 rfl rfl rfl (Nat.le_of_ble_eq_true rfl) (by omega) ⟨Nat.le_refl _, Nat.le_refl _⟩ (ct_X12_rowOf) rfl ?_
              refine xg_bipush 107 dX12_isFlushed_105 rfl (by decide) ?_
              refine xg_iadd 108 dX12_isFlushed_107 rfl ?_
              refine xg_iloadn 109 dX12_isFlushed_108 rfl rfl rfl ?_
              refine xg_iadd 110 dX12_isFlushed_109 rfl ?_
              refine xg_iconst 111 dX12_isFlushed_110 rfl ?_
              refine xg_iastW 112 dX12_isFlushed_111 rfl (by assumption) (by first | omega | exact hR _ | exact ⟨hR _, by omega⟩ | exact ⟨by omega, hR _⟩ | exact ⟨hR _, hR _⟩) ?_
              refine xg_iinc 115 _ dX12_isFlushed_112 rfl rfl rfl rfl (by decide) (Or.inr rfl) ?_
              refine xg_goto 91 dX12_isFlushed_115 rfl ?_
              rw [show (201 + 122 * 0 + 60 + k : Int) = 261 + k by omega, wZ_s _ k (by omega)]
              exact xg_weak _ (xle_s rfl (xle_s rfl xle_0)) (ih (k + 1) (by omega) (by omega))
        have l0 := loop91 70 0 (by omega) (by omega)
        rw [wZ_0] at l0
        exact xg_weak _ (xle_s rfl (xle_s rfl xle_0)) l0
      · skip
        refine xg_aloadn 22 dX12_isFlushed_21 rfl rfl rfl ?_
        refine xg_iloadn 23 dX12_isFlushed_22 rfl rfl rfl ?_
        refine xg_iconst 24 dX12_isFlushed_23 rfl ?_
        refine xg_isub 25 dX12_isFlushed_24 rfl ?_
        refine xg_iconst 26 dX12_isFlushed_25 rfl ?_
        refine xg_callS 29 [_, _] _ ks_X12_runAt kl_RX12_62 dX12_isFlushed_26 rfl rfl rfl (Nat.le_of_ble_eq_true rfl) (by omega) ⟨Nat.le_refl _, Nat.le_refl _⟩ (ct_X12_runAt) rfl ?_
        refine xg_iloadn 30 dX12_isFlushed_29 rfl rfl rfl ?_
        refine xg_iconst 31 dX12_isFlushed_30 rfl ?_
        refine xg_callS 34 [_, _] _ ks_X12_runAt kl_RX12_62 dX12_isFlushed_31 rfl rfl rfl (Nat.le_of_ble_eq_true rfl) (by omega) ⟨Nat.le_refl _, Nat.le_refl _⟩ (ct_X12_runAt) rfl ?_
        refine xg_bipush 36 dX12_isFlushed_34 rfl (by decide) ?_
        refine xg_callV 39 12 [_, _, _] _ kv_X12_copies ⟨_, _, rfl⟩ kl_RX12_318 dX12_isFlushed_36 rfl (by assumption) (by omega) rfl rfl (Nat.le_of_ble_eq_true rfl) (by omega) ⟨Nat.le_refl _, Nat.le_refl _⟩ (ct_X12_copies hw (by omega) (by omega) (by omega) (by omega)) rfl ?_
        refine xg_iinc 42 _ dX12_isFlushed_39 rfl rfl rfl rfl (by decide) (Or.inr rfl) ?_
        refine xg_goto 17 dX12_isFlushed_42 rfl ?_
        rw [show 199 + 122 * (r - 1) + 0 = 199 + 122 * (r - 1) by omega, show 199 + 122 * r + 0 = 199 + 122 * r by omega, wSR_s _ r (w 0) (by omega)]
        exact xg_weak _ (xle_s rfl (xle_s rfl xle_0)) (ih (r + -1) (by omega) (by omega))
  have l0 := loop17 20 (w 0) (by omega) (by omega)
  rw [wSR_0] at l0
  exact xg_weak _ (xle_s rfl (xle_s rfl xle_0)) l0

