/-! calls that may throw, on both sides -/
section LIX
variable {T T1 : Nat → Nat × Int} {F F1 : Nat → Nat → Int} {I I1 I' Ib : Nat → Int → Int} {P P1 : Nat → Nat → Option Nat} {Y Y1 : Nat → Int → Option Nat} {o m z z1 : Nat} {w : wWo} {ws ws1 : Nat → Option wWo} {t : Int}
theorem wHi_room (h : wI2 w) : wHi w (sRoom w).1 := by
  have hs : ∀ (f : Nat) {w : Int → Int} {s : Int}, wI2 w → 0 ≤ s → wHi w (sStl f w s).1 := by
    intro f
    induction f with
    | zero => intro w s _ _; exact wHi.rf
    | succ f ih =>
      intro w s h hs
      have hcan : wHi w (sCan w) := by
        unfold sCan; split
        · exact wHi_beg h.1.1.1
        · exact wHi.rf
      rw [sStl]
      by_cases hb : sCanB w = true
      · rw [if_pos hb]
        have h1 := wInv_can h.1
        refine wHi.tr ?_ (ih ⟨(wInv_stp h.1 hb hs).1, (pPot_stp (s := s) h.1 h.2 hb).2⟩ (by omega))
        unfold sStp
        exact ((hcan.tr (wHi_paid h1.1.1 h1.1.2.1 1)).tr (wHi_S _ _ _ (by omega))).tr (wHi_S _ _ _ (by omega))
      · rw [if_neg hb]; exact hcan
  have h1 := hs sFu h (Int.le_refl 0)
  obtain ⟨k1, k2, k3, k4⟩ := sStl_inv sFu h.1 (Int.le_refl 0)
  unfold sRoom
  split
  · show wHi w (if sCrowd (sStl sFu w 0).1 = true then (sStl sFu w 0).1 else sFlush (sStl sFu w 0).1)
    split
    · exact h1
    · rename_i hc
      exact h1.tr (wHi_flush k1.1.1 (sCrowd_f (Bool.eq_false_iff.mpr hc) k1.1.1.2.1.2).1)
  · exact wHi.rf
theorem wHi_write (h : wI2 w) {key v : Int} (hk : 0 ≤ key ∧ key < 60) (hv : 0 ≤ v ∧ v ≤ 100) : wHi w (sWrite w key v) := by
  have h1 := wI2_W1 h hk hv
  have h3 := wI2_room h1 h1.1.1.1.2.2.2.2.2.2.1.1
  have h4 := wI2_beg h3
  have e1 : wHi w (sW1 w key v) := (wHi_S _ _ _ (by omega)).tr (wHi_S _ _ _ (by omega))
  have e2 := (e1.tr (wHi_room h1)).tr (wHi_beg h3.1.1.1)
  unfold sWrite sTail
  split
  · exact e2.tr (wHi_paid h4.1.1.1 h4.1.1.2.1 0)
  · exact e2
theorem wI2_tune {k v : Int} (h : wI2 w) (hb : tuneOk k v) : wI2 (sTune w k v) := by
  unfold tuneOk at hb
  unfold sTune
  rcases hb with ⟨rfl, h1⟩ | ⟨rfl, h1⟩ | ⟨rfl, h1⟩
  · rw [if_pos (by omega)]; exact wI2_no (wI2_halt h) (by omega) (by unfold wCell; omega)
  · rw [if_pos (by omega)]; exact wI2_no (wI2_halt h) (by omega) (by unfold wCell; omega)
  · rw [if_neg (by omega)]; exact wI2_no h (by omega) (by unfold wCell; omega)
theorem tune10 {k v : Int} (h : wOk w) (hb : tuneOk k v) (h9 : w 10 ≤ 9999) : sTune w k v 10 ≤ 9999 := by
  have hk : 0 ≤ k ∧ k ≤ 2 := by unfold tuneOk at hb; omega
  unfold sTune
  rw [wS_ne _ _ _ (by omega)]
  split
  · rw [halt10 h]; exact h9
  · exact h9
theorem wHi_tune {k v : Int} (h : wOk w) (hb : tuneOk k v) : wHi w (sTune w k v) := by
  have hk : 0 ≤ k ∧ k ≤ 2 := by unfold tuneOk at hb; omega
  unfold sTune
  refine wHi.tr ?_ (wHi_S _ _ _ (by omega))
  split
  · exact wHi_halt h
  · exact wHi.rf
/-- an ask for which the model keeps its world apart -/
theorem LI.keep4 (h : LI o m z T F I P Y ws) (hL : LSt o m z T F I P Y z1 T1 F1 I1 P1 Y1 ws1 (F o 1) (F o 2) (F o 7) (F o 8)) (hw : ∀ s : Nat, s ≠ 0 → s ≠ 1 → ws1 s = ws s) (h0 : ws1 0 = some (I (m + 1)))
    (hb : ∀ b : Nat, b ≠ m + 12 → Ib b = I1 b) {A : wWo} (hx : xScr m (upA Ib (m + 4) A) I') : ∃ ws2, LI o m z1 T1 (upF F1 m 0 t) (upA I' (m + 1) (I (m + 1))) P1 Y1 ws2 := by
  obtain ⟨a, -, -, hW, -⟩ := h.get
  obtain ⟨k1, k2, k3, k4, k5, k6, k7, k8, k9⟩ := h.kin hL
  obtain ⟨q1, q2, q3, q4, q5⟩ := h.2.2.2.2.1
  have hL1 := hL.no1
  have hi : ∀ b : Nat, b < m + 7 → b ≠ m + 1 → b ≠ m + 4 → upA I' (m + 1) (I (m + 1)) b = I1 b := fun b b0 b1 b4 => by rw [upA_na _ _ _ b1, hx b (by omega), upA_na _ _ _ b4, hb b (by omega)]
  have ten : ∀ (s : Nat) (u : wWo), s < 15 → wsU ws1 1 none s = some u → u 10 ≤ 9999 := fun s u hs hu => by
    by_cases e : s = 1
    · subst e; rw [wsU_at] at hu; cases hu
    · rw [wsU_na e] at hu
      by_cases e0 : s = 0
      · subst e0; rw [h0] at hu; cases hu; exact h.ten
      · rw [hw s e0 e] at hu; exact h.2.1.2 s u hs hu
  refine ⟨_, h.to hL1 ⟨fun b hb2 => upF_na _ _ _ _ hb2, fun b hb2 => ?_⟩ (u := I (m + 1)) (by rw [wsU_na (by decide)]; exact h0) (by rw [upA_at]; exact wEq.rf) (by rw [upA_at]; exact hW.1.1.1.1) ten q1 q2 ⟨by rw [upF_nk _ _ _ _ (by decide), k5, q3], by rw [upF_nk _ _ _ _ (by decide), k5, q4], by rw [upF_nk _ _ _ _ (by decide), k5, q5]⟩ ⟨h.2.2.2.2.2.1.1.1, Int.le_refl _⟩ h.2.2.2.2.2.2.2.2 ((hi (m + 6) (by omega) (by omega) (by omega)).trans k9) ⟨by rw [upF_nk _ _ _ _ (by decide), k5], (hi (m + 2) (by omega) (by omega) (by omega)).trans k7, by rw [wsU_na (by decide)]; exact hw 2 (by decide) (by decide)⟩ ?_⟩
  · rw [upA_na _ _ _ (by omega), hx b (by omega), upA_na _ _ _ (by omega)]
    by_cases e : b = m + 12
    · omega
    · exact hb b e
  · rw [upA_at]
    exact h.2.2.2.2.2.2.2.1.same ((hi (m + 5) (by omega) (by omega) (by omega)).trans k8) (fun s s3 s15 => by rw [wsU_na (by omega), wsU_na (by omega)]; exact hw s (by omega) (by omega)) (fun _ _ _ => rfl) q1
theorem LI.big (h : LI o m z T F I P Y ws) (hz : z ≤ z1) : LI o m z1 T F I P Y ws := ⟨h.1.big hz, h.2⟩
end LIX
set_option maxHeartbeats 4000000 in
set_option maxRecDepth 100000 in
theorem op_run {E : xE} {z : Nat} {T : Nat → Nat × Int} {F : Nat → Nat → Int} {I : Nat → Int → Int} {P : Nat → Nat → Option Nat} {Y : Nat → Int → Option Nat} {o m : Nat} {ws : Nat → Option wWo} {ad adv : Nat → Nat} {sio : Option Nat} {qS v0 : Nat} {tx : String} (hV : xEnv E ad adv sio qS v0 tx) (h : LI o m z T F I P Y ws) {p : Int} (hp : -2147483648 ≤ p ∧ p < 2147483648) {q : Int} (hq : -2147483648 ≤ q ∧ q < 2147483648) : ∃ k : Int, (0 ≤ k ∧ k ≤ 2) ∧ CtH E 61 mL_run [(0, 10, 13, 24), (0, 10, 17, 26)] 57 2100 [.ref o, J p, J q, .ref (m + 12)] (z, T, F, I, P, Y) (xH1 E o m mX12_run [J p, J q] k) := by
  obtain ⟨a, h3, hS, hI, h1, hw⟩ := h.get
  have hO := hI.1.1.1
  have hLw := hI.1.1.2.1
  have hr9 := hI.1.2.1
  have o0 := hO.2.1
  have hL := h.1
  have hu := h.2.1.1
  have h4 := h.2.2.1
  obtain ⟨hf, hc, q3, q4, q5⟩ := h.2.2.2.2.1
  obtain ⟨he, hT, htp, hTm⟩ := h.2.2.2.2.2.1
  by_cases c0 : ¬ (0 ≤ p ∧ p < (I (m + 1)) 0)
  · refine ⟨1, by omega, CtH.post (fun v h1' e => ?_) ((cl_run_1 (ou := m + 12) (cx_X11_run_1 h1 h3 hS hp hq c0 hV.2.1.2.2.1) ⟨by decide, by decide⟩ h1 hV.2.1.2.2.1.c).up (by decide))⟩
    obtain ⟨rfl, z', hz', rfl⟩ := e
    have hLs := h.rf.big hz'
    have kin := h.kin hLs
    refine ⟨rfl, _, _, _, _, _, _, rfl, ⟨kin.1, kin.2.1, kin.2.2.1, kin.2.2.2.1⟩, Ct.post (fun v2 h2 e2 => ?_) ((Ct.own (ct_X12_run_t1 (I := I) (w := (I (m + 1))) hw hO hp hq c0)).up (by decide))⟩
    obtain ⟨rfl, rfl⟩ := e2
    obtain ⟨ws2, hLI⟩ := h.ask0 hLs (t := 1) (fun _ _ _ => rfl) hu (Ib := I) (fun _ _ => rfl) xScr.rf
    exact ⟨0, _, _, ws2, rfl, by omega, rfl, hLI, upF_at _ _ _ _, fun q => absurd q (by decide)⟩
  by_cases c1 : ¬ (0 ≤ q ∧ q ≤ 4)
  · obtain ⟨r, rfl⟩ : ∃ n : Nat, p = (n : Int) := ⟨p.toNat, by omega⟩
    refine ⟨2, by omega, CtH.post (fun v h1' e => ?_) ((cl_run_2 (ou := m + 12) (cx_X11_run_2 h1 h3 hS hq (by omega) c1 hV.2.1.2.2.2.1) ⟨by decide, by decide⟩ h1 hV.2.1.2.2.2.1.c (fun u hu => (hV.2.2.1 u hu).2.1)).up (by decide))⟩
    obtain ⟨rfl, z', hz', rfl⟩ := e
    have hLs := h.rf.big hz'
    have kin := h.kin hLs
    refine ⟨rfl, _, _, _, _, _, _, rfl, ⟨kin.1, kin.2.1, kin.2.2.1, kin.2.2.2.1⟩, Ct.post (fun v2 h2 e2 => ?_) ((Ct.own (ct_X12_run_t2 (I := I) (w := (I (m + 1))) hw hO hp hq ⟨by omega, c1⟩)).up (by decide))⟩
    obtain ⟨rfl, rfl⟩ := e2
    obtain ⟨ws2, hLI⟩ := h.ask0 hLs (t := 2) (fun _ _ _ => rfl) hu (Ib := I) (fun _ _ => rfl) xScr.rf
    exact ⟨0, _, _, ws2, rfl, by omega, rfl, hLI, upF_at _ _ _ _, fun q => absurd q (by decide)⟩
  obtain ⟨r, rfl⟩ : ∃ n : Nat, p = (n : Int) := ⟨p.toNat, by omega⟩
  have hA := sAllE_p hr9 o0 (r := r) (by omega)
  refine ⟨0, by omega, CtH.post (fun v h1' e => ?_) ((cl_run (ou := m + 12) (ct_X11_run h1 h3 hS hr9 (by omega) (by omega) hA) ⟨by decide, by decide⟩ h1 (fun v h' e => by
      obtain ⟨rfl, rfl⟩ := e
      exact ⟨jn _, _, _, _, _, _, _, by rw [jn_J], jn_r _, rfl, h.2.2.2.1.2.1, h.2.2.2.1.2.2⟩)).up (by decide))⟩
  obtain ⟨rfl, r, z1, T1, F1, I1, P1, Y1, hr, hp1, rfl⟩ := e
  obtain ⟨hv, hh⟩ := hp1
  cases hh
  have hLs := h.rf
  have kin := h.kin hLs
  have hup : ∀ b : Nat, b ≠ m + 12 → upI I (m + 12) 0 r b = I b := fun b hb => upI_na _ _ _ _ hb
  have wup : upI I (m + 12) 0 r (m + 1) = I (m + 1) := (hup _ (by omega)).trans kin.2.2.2.2.2.1
  refine ⟨rfl, _, _, _, _, _, _, rfl, ⟨kin.1, kin.2.1, kin.2.2.1, kin.2.2.2.1⟩, Ct.post (fun v2 h2 e2 => ?_) ((Ct.own (ct_X12_run (F := F) (I := (upI I (m + 12) 0 r)) (w := (upI I (m + 12) 0 r) (m + 1)) kin.2.1 (by rw [wup]; exact hO) (by rw [wup]; exact (by omega)) (by omega) (by rw [wup]; exact hA))).up (by decide))⟩
  obtain ⟨e3, rfl⟩ := e2
  obtain ⟨ws2, hLI⟩ := h.ask0 hLs (t := 0) (fun _ _ _ => rfl) hu hup xScr.rf
  try rw [wup] at e3
  exact ⟨r, _, _, ws2, e3.trans hv.symm, hr, by rw [wup], hLI, upF_at _ _ _ _, fun _ => by show upA _ (m + 1) _ (m + 12) 0 = r; rw [upA_na _ _ _ (by omega), upI_at]⟩

set_option maxHeartbeats 4000000 in
set_option maxRecDepth 100000 in
theorem op_entry {E : xE} {z : Nat} {T : Nat → Nat × Int} {F : Nat → Nat → Int} {I : Nat → Int → Int} {P : Nat → Nat → Option Nat} {Y : Nat → Int → Option Nat} {o m : Nat} {ws : Nat → Option wWo} {ad adv : Nat → Nat} {sio : Option Nat} {qS v0 : Nat} {tx : String} (hV : xEnv E ad adv sio qS v0 tx) (h : LI o m z T F I P Y ws) {p : Int} (hp : -2147483648 ≤ p ∧ p < 2147483648) {q : Int} (hq : -2147483648 ≤ q ∧ q < 2147483648) {y : Int} (hy : -2147483648 ≤ y ∧ y < 2147483648) : ∃ k : Int, (0 ≤ k ∧ k ≤ 2) ∧ CtH E 61 mL_entry [(0, 12, 15, 24), (0, 12, 19, 26)] 57 2100 [.ref o, J p, J q, J y, .ref (m + 12)] (z, T, F, I, P, Y) (xH1 E o m mX12_entry [J p, J q, J y] k) := by
  obtain ⟨a, h3, hS, hI, h1, hw⟩ := h.get
  have hO := hI.1.1.1
  have hLw := hI.1.1.2.1
  have hr9 := hI.1.2.1
  have o0 := hO.2.1
  have hL := h.1
  have hu := h.2.1.1
  have h4 := h.2.2.1
  obtain ⟨hf, hc, q3, q4, q5⟩ := h.2.2.2.2.1
  obtain ⟨he, hT, htp, hTm⟩ := h.2.2.2.2.2.1
  by_cases c0 : p ≠ -1 ∧ p ≠ 99 ∧ ¬ (0 ≤ p ∧ p < (I (m + 1)) 0)
  · refine ⟨1, by omega, CtH.post (fun v h1' e => ?_) ((cl_entry_1 (ou := m + 12) (cx_X11_entry_1 h1 h3 hS hp hy c0 hV.2.1.2.2.1) ⟨by decide, by decide⟩ h1 hV.2.1.2.2.1.c).up (by decide))⟩
    obtain ⟨rfl, z', hz', rfl⟩ := e
    have hLs := h.rf.big hz'
    have kin := h.kin hLs
    refine ⟨rfl, _, _, _, _, _, _, rfl, ⟨kin.1, kin.2.1, kin.2.2.1, kin.2.2.2.1⟩, Ct.post (fun v2 h2 e2 => ?_) ((Ct.own (ct_X12_entry_t1 (I := I) (w := (I (m + 1))) hw hO hp hq hy c0)).up (by decide))⟩
    obtain ⟨rfl, rfl⟩ := e2
    obtain ⟨ws2, hLI⟩ := h.ask0 hLs (t := 1) (fun _ _ _ => rfl) hu (Ib := I) (fun _ _ => rfl) xScr.rf
    exact ⟨0, _, _, ws2, rfl, by omega, rfl, hLI, upF_at _ _ _ _, fun q => absurd q (by decide)⟩
  by_cases c1 : ¬ (0 ≤ y ∧ y ≤ 2)
  · refine ⟨2, by omega, CtH.post (fun v h1' e => ?_) ((cl_entry_2 (ou := m + 12) (cx_X11_entry_2 h1 h3 hS hp hy ⟨by omega, c1⟩ hV.2.1.2.2.2.1) ⟨by decide, by decide⟩ h1 hV.2.1.2.2.2.1.c (fun u hu => (hV.2.2.1 u hu).2.1)).up (by decide))⟩
    obtain ⟨rfl, z', hz', rfl⟩ := e
    have hLs := h.rf.big hz'
    have kin := h.kin hLs
    refine ⟨rfl, _, _, _, _, _, _, rfl, ⟨kin.1, kin.2.1, kin.2.2.1, kin.2.2.2.1⟩, Ct.post (fun v2 h2 e2 => ?_) ((Ct.own (ct_X12_entry_t2 (I := I) (w := (I (m + 1))) hw hO hp hq hy ⟨by omega, c1⟩)).up (by decide))⟩
    obtain ⟨rfl, rfl⟩ := e2
    obtain ⟨ws2, hLI⟩ := h.ask0 hLs (t := 2) (fun _ _ _ => rfl) hu (Ib := I) (fun _ _ => rfl) xScr.rf
    exact ⟨0, _, _, ws2, rfl, by omega, rfl, hLI, upF_at _ _ _ _, fun q => absurd q (by decide)⟩
  refine ⟨0, by omega, CtH.post (fun v h1' e => ?_) ((cl_entry (ou := m + 12) (ct_X11_entry h1 h3 hS hp hq hy ⟨by omega, by omega⟩) ⟨by decide, by decide⟩ h1 (fun v h' e => by
      obtain ⟨rfl, rfl⟩ := e
      exact ⟨jn _, _, _, _, _, _, _, by rw [jn_J], jn_r _, rfl, h.2.2.2.1.2.1, h.2.2.2.1.2.2⟩)).up (by decide))⟩
  obtain ⟨rfl, r, z1, T1, F1, I1, P1, Y1, hr, hp1, rfl⟩ := e
  obtain ⟨hv, hh⟩ := hp1
  cases hh
  have hLs := h.rf
  have kin := h.kin hLs
  have hup : ∀ b : Nat, b ≠ m + 12 → upI I (m + 12) 0 r b = I b := fun b hb => upI_na _ _ _ _ hb
  have wup : upI I (m + 12) 0 r (m + 1) = I (m + 1) := (hup _ (by omega)).trans kin.2.2.2.2.2.1
  refine ⟨rfl, _, _, _, _, _, _, rfl, ⟨kin.1, kin.2.1, kin.2.2.1, kin.2.2.2.1⟩, Ct.post (fun v2 h2 e2 => ?_) ((Ct.own (ct_X12_entry (F := F) (I := (upI I (m + 12) 0 r)) (w := (upI I (m + 12) 0 r) (m + 1)) kin.2.1 (by rw [wup]; exact hO) hp hq hy (by rw [wup]; exact ⟨by omega, by omega⟩))).up (by decide))⟩
  obtain ⟨e3, rfl⟩ := e2
  obtain ⟨ws2, hLI⟩ := h.ask0 hLs (t := 0) (fun _ _ _ => rfl) hu hup xScr.rf
  try rw [wup] at e3
  exact ⟨r, _, _, ws2, e3.trans hv.symm, hr, by rw [wup], hLI, upF_at _ _ _ _, fun _ => by show upA _ (m + 1) _ (m + 12) 0 = r; rw [upA_na _ _ _ (by omega), upI_at]⟩

set_option maxHeartbeats 4000000 in
set_option maxRecDepth 100000 in
theorem op_level {E : xE} {z : Nat} {T : Nat → Nat × Int} {F : Nat → Nat → Int} {I : Nat → Int → Int} {P : Nat → Nat → Option Nat} {Y : Nat → Int → Option Nat} {o m : Nat} {ws : Nat → Option wWo} {ad adv : Nat → Nat} {sio : Option Nat} {qS v0 : Nat} {tx : String} (hV : xEnv E ad adv sio qS v0 tx) (h : LI o m z T F I P Y ws) {p : Int} (hp : -2147483648 ≤ p ∧ p < 2147483648) {q : Int} (hq : -2147483648 ≤ q ∧ q < 2147483648) : ∃ k : Int, (0 ≤ k ∧ k ≤ 2) ∧ CtH E 61 mL_level [(0, 10, 13, 24), (0, 10, 17, 26)] 57 2100 [.ref o, J p, J q, .ref (m + 12)] (z, T, F, I, P, Y) (xH1 E o m mX12_level [J p, J q] k) := by
  obtain ⟨a, h3, hS, hI, h1, hw⟩ := h.get
  have hO := hI.1.1.1
  have hLw := hI.1.1.2.1
  have hr9 := hI.1.2.1
  have o0 := hO.2.1
  have hL := h.1
  have hu := h.2.1.1
  have h4 := h.2.2.1
  obtain ⟨hf, hc, q3, q4, q5⟩ := h.2.2.2.2.1
  obtain ⟨he, hT, htp, hTm⟩ := h.2.2.2.2.2.1
  by_cases c0 : ¬ (0 ≤ p ∧ p < 4)
  · refine ⟨1, by omega, CtH.post (fun v h1' e => ?_) ((cl_level_1 (ou := m + 12) (cx_X11_level_1 h1 h3 hS hp hq c0 hV.2.1.2.2.1) ⟨by decide, by decide⟩ h1 hV.2.1.2.2.1.c).up (by decide))⟩
    obtain ⟨rfl, z', hz', rfl⟩ := e
    have hLs := h.rf.big hz'
    have kin := h.kin hLs
    refine ⟨rfl, _, _, _, _, _, _, rfl, ⟨kin.1, kin.2.1, kin.2.2.1, kin.2.2.2.1⟩, Ct.post (fun v2 h2 e2 => ?_) ((Ct.own (ct_X12_level_t1 (I := I) (w := (I (m + 1))) hw hO hp hq c0)).up (by decide))⟩
    obtain ⟨rfl, rfl⟩ := e2
    obtain ⟨ws2, hLI⟩ := h.ask0 hLs (t := 1) (fun _ _ _ => rfl) hu (Ib := I) (fun _ _ => rfl) xScr.rf
    exact ⟨0, _, _, ws2, rfl, by omega, rfl, hLI, upF_at _ _ _ _, fun q => absurd q (by decide)⟩
  by_cases c1 : ¬ (0 ≤ q ∧ q ≤ 3)
  · refine ⟨2, by omega, CtH.post (fun v h1' e => ?_) ((cl_level_2 (ou := m + 12) (cx_X11_level_2 h1 h3 hS hp hq ⟨by omega, c1⟩ hV.2.1.2.2.2.1) ⟨by decide, by decide⟩ h1 hV.2.1.2.2.2.1.c (fun u hu => (hV.2.2.1 u hu).2.1)).up (by decide))⟩
    obtain ⟨rfl, z', hz', rfl⟩ := e
    have hLs := h.rf.big hz'
    have kin := h.kin hLs
    refine ⟨rfl, _, _, _, _, _, _, rfl, ⟨kin.1, kin.2.1, kin.2.2.1, kin.2.2.2.1⟩, Ct.post (fun v2 h2 e2 => ?_) ((Ct.own (ct_X12_level_t2 (I := I) (w := (I (m + 1))) hw hO hp hq ⟨by omega, c1⟩)).up (by decide))⟩
    obtain ⟨rfl, rfl⟩ := e2
    obtain ⟨ws2, hLI⟩ := h.ask0 hLs (t := 2) (fun _ _ _ => rfl) hu (Ib := I) (fun _ _ => rfl) xScr.rf
    exact ⟨0, _, _, ws2, rfl, by omega, rfl, hLI, upF_at _ _ _ _, fun q => absurd q (by decide)⟩
  obtain ⟨l, rfl⟩ : ∃ n : Nat, p = (n : Int) := ⟨p.toNat, by omega⟩
  refine ⟨0, by omega, CtH.post (fun v h1' e => ?_) ((cl_level (ou := m + 12) (ct_X11_level h1 h3 hS hr9 (by omega) (by omega)) ⟨by decide, by decide⟩ h1 (fun v h' e => by
      obtain ⟨rfl, F', I', P', Y', rfl, hS', hF'⟩ := e
      exact ⟨jn _, _, _, _, _, _, _, by rw [jn_J], jn_r _, rfl, h.2.2.2.1.2.1, h.2.2.2.1.2.2⟩)).up (by decide))⟩
  obtain ⟨rfl, r, z1, T1, F1, I1, P1, Y1, hr, hp1, rfl⟩ := e
  obtain ⟨hv, F9, I9, P9, Y9, hh, hS9, hF9⟩ := hp1
  cases hh
  have hLs := h.liv h3 hS9 hI hF9
  have kin := h.kin hLs
  have hup : ∀ b : Nat, b ≠ m + 12 → upI I1 (m + 12) 0 r b = I1 b := fun b hb => upI_na _ _ _ _ hb
  have wup : upI I1 (m + 12) 0 r (m + 1) = I (m + 1) := (hup _ (by omega)).trans kin.2.2.2.2.2.1
  refine ⟨rfl, _, _, _, _, _, _, rfl, ⟨kin.1, kin.2.1, kin.2.2.1, kin.2.2.2.1⟩, Ct.post (fun v2 h2 e2 => ?_) ((Ct.own (ct_X12_level (F := F1) (I := (upI I1 (m + 12) 0 r)) (w := (upI I1 (m + 12) 0 r) (m + 1)) kin.2.1 (by rw [wup]; exact hO) (by rw [wup]; exact hLw) (by omega) (by omega))).up (by decide))⟩
  obtain ⟨e3, I', hx, rfl⟩ := e2
  obtain ⟨ws2, hLI⟩ := h.ask0 hLs (t := 0) (fun s a b => wsU_na a) wsU_at hup hx
  try rw [wup] at e3
  exact ⟨r, _, _, ws2, e3.trans hv.symm, hr, by rw [wup], hLI, upF_at _ _ _ _, fun _ => by show upA _ (m + 1) _ (m + 12) 0 = r; rw [upA_na _ _ _ (by omega), hx _ (by omega), upI_at]⟩

set_option maxHeartbeats 4000000 in
set_option maxRecDepth 100000 in
theorem op_job {E : xE} {z : Nat} {T : Nat → Nat × Int} {F : Nat → Nat → Int} {I : Nat → Int → Int} {P : Nat → Nat → Option Nat} {Y : Nat → Int → Option Nat} {o m : Nat} {ws : Nat → Option wWo} {ad adv : Nat → Nat} {sio : Option Nat} {qS v0 : Nat} {tx : String} (hV : xEnv E ad adv sio qS v0 tx) (h : LI o m z T F I P Y ws) {p : Int} (hp : -2147483648 ≤ p ∧ p < 2147483648) : ∃ k : Int, (0 ≤ k ∧ k ≤ 2) ∧ CtH E 61 mL_job [(0, 9, 12, 26)] 57 2100 [.ref o, J p, .ref (m + 12)] (z, T, F, I, P, Y) (xH1 E o m mX12_job [J p] k) := by
  obtain ⟨a, h3, hS, hI, h1, hw⟩ := h.get
  have hO := hI.1.1.1
  have hLw := hI.1.1.2.1
  have hr9 := hI.1.2.1
  have o0 := hO.2.1
  have hL := h.1
  have hu := h.2.1.1
  have h4 := h.2.2.1
  obtain ⟨hf, hc, q3, q4, q5⟩ := h.2.2.2.2.1
  obtain ⟨he, hT, htp, hTm⟩ := h.2.2.2.2.2.1
  by_cases c0 : ¬ (0 ≤ p ∧ p ≤ 4)
  · refine ⟨1, by omega, CtH.post (fun v h1' e => ?_) ((cl_job_1 (ou := m + 12) (cx_X11_job_1 h1 h3 hS hp c0 hV.2.1.2.2.2.1) ⟨by decide, by decide⟩ h1 hV.2.1.2.2.2.1.c).up (by decide))⟩
    obtain ⟨rfl, z', hz', rfl⟩ := e
    have hLs := h.rf.big hz'
    have kin := h.kin hLs
    refine ⟨rfl, _, _, _, _, _, _, rfl, ⟨kin.1, kin.2.1, kin.2.2.1, kin.2.2.2.1⟩, Ct.post (fun v2 h2 e2 => ?_) ((Ct.own (ct_X12_job_t1 (I := I) (w := (I (m + 1))) hw hO hp c0)).up (by decide))⟩
    obtain ⟨rfl, rfl⟩ := e2
    obtain ⟨ws2, hLI⟩ := h.ask0 hLs (t := 1) (fun _ _ _ => rfl) hu (Ib := I) (fun _ _ => rfl) xScr.rf
    exact ⟨0, _, _, ws2, rfl, by omega, rfl, hLI, upF_at _ _ _ _, fun q => absurd q (by decide)⟩
  refine ⟨0, by omega, CtH.post (fun v h1' e => ?_) ((cl_job (ou := m + 12) (ct_X11_job h1 h3 hS hr9 (by omega)) ⟨by decide, by decide⟩ h1 (fun v h' e => by
      obtain ⟨rfl, rfl⟩ := e
      exact ⟨jn _, _, _, _, _, _, _, by rw [jn_J], jn_r _, rfl, h.2.2.2.1.2.1, h.2.2.2.1.2.2⟩)).up (by decide))⟩
  obtain ⟨rfl, r, z1, T1, F1, I1, P1, Y1, hr, hp1, rfl⟩ := e
  obtain ⟨hv, hh⟩ := hp1
  cases hh
  have hLs := h.rf
  have kin := h.kin hLs
  have hup : ∀ b : Nat, b ≠ m + 12 → upI I (m + 12) 0 r b = I b := fun b hb => upI_na _ _ _ _ hb
  have wup : upI I (m + 12) 0 r (m + 1) = I (m + 1) := (hup _ (by omega)).trans kin.2.2.2.2.2.1
  refine ⟨rfl, _, _, _, _, _, _, rfl, ⟨kin.1, kin.2.1, kin.2.2.1, kin.2.2.2.1⟩, Ct.post (fun v2 h2 e2 => ?_) ((Ct.own (ct_X12_job (F := F) (I := (upI I (m + 12) 0 r)) (w := (upI I (m + 12) 0 r) (m + 1)) kin.2.1 (by rw [wup]; exact hO) (by omega))).up (by decide))⟩
  obtain ⟨e3, rfl⟩ := e2
  obtain ⟨ws2, hLI⟩ := h.ask0 hLs (t := 0) (fun _ _ _ => rfl) hu hup xScr.rf
  try rw [wup] at e3
  exact ⟨r, _, _, ws2, e3.trans hv.symm, hr, by rw [wup], hLI, upF_at _ _ _ _, fun _ => by show upA _ (m + 1) _ (m + 12) 0 = r; rw [upA_na _ _ _ (by omega), upI_at]⟩

set_option maxHeartbeats 4000000 in
set_option maxRecDepth 100000 in
theorem op_ticks {E : xE} {z : Nat} {T : Nat → Nat × Int} {F : Nat → Nat → Int} {I : Nat → Int → Int} {P : Nat → Nat → Option Nat} {Y : Nat → Int → Option Nat} {o m : Nat} {ws : Nat → Option wWo} {ad adv : Nat → Nat} {sio : Option Nat} {qS v0 : Nat} {tx : String} (hV : xEnv E ad adv sio qS v0 tx) (h : LI o m z T F I P Y ws) {p : Int} (hp : -2147483648 ≤ p ∧ p < 2147483648) : ∃ k : Int, (0 ≤ k ∧ k ≤ 2) ∧ CtH E 61 mL_ticks [(0, 9, 12, 13)] 57 2100 [.ref o, J p, .ref (m + 12)] (z, T, F, I, P, Y) (xH1 E o m mX12_ticks [J p] k) := by
  obtain ⟨a, h3, hS, hI, h1, hw⟩ := h.get
  have hO := hI.1.1.1
  have hLw := hI.1.1.2.1
  have hr9 := hI.1.2.1
  have o0 := hO.2.1
  have hL := h.1
  have hu := h.2.1.1
  have h4 := h.2.2.1
  obtain ⟨hf, hc, q3, q4, q5⟩ := h.2.2.2.2.1
  obtain ⟨he, hT, htp, hTm⟩ := h.2.2.2.2.2.1
  by_cases c0 : ¬ (1 ≤ p ∧ p ≤ 60)
  · refine ⟨1, by omega, CtH.post (fun v h1' e => ?_) ((cl_ticks_1 (ou := m + 12) (cx_X11_ticks_1 h1 h3 hS hp c0 hV.2.1.1) ⟨by decide, by decide⟩ h1 hV.2.1.1.c).up (by decide))⟩
    obtain ⟨rfl, z', hz', rfl⟩ := e
    have hLs := h.rf.big hz'
    have kin := h.kin hLs
    refine ⟨rfl, _, _, _, _, _, _, rfl, ⟨kin.1, kin.2.1, kin.2.2.1, kin.2.2.2.1⟩, Ct.post (fun v2 h2 e2 => ?_) ((Ct.own (ct_X12_ticks_t1 (I := I) (w := (I (m + 1))) hw hO hp c0)).up (by decide))⟩
    obtain ⟨rfl, rfl⟩ := e2
    obtain ⟨ws2, hLI⟩ := h.ask0 hLs (t := 1) (fun _ _ _ => rfl) hu (Ib := I) (fun _ _ => rfl) xScr.rf
    exact ⟨0, _, _, ws2, rfl, by omega, rfl, hLI, upF_at _ _ _ _, fun q => absurd q (by decide)⟩
  obtain ⟨n, rfl⟩ : ∃ n : Nat, p = (n : Int) := ⟨p.toNat, by omega⟩
  refine ⟨0, by omega, CtH.post (fun v h1' e => ?_) ((cl_ticks (ou := m + 12) (ct_X11_ticks hL hV.1 h3 h4 hu hf hc (by omega)) ⟨by decide, by decide⟩ h1 (fun v h' e => by
      obtain ⟨z', T', F', I', P', Y', rfl, rfl, hLs⟩ := LSt.of e
      have kin := h.kin hLs
      exact ⟨jn _, _, _, _, _, _, _, by rw [jn_J], jn_r _, rfl, kin.2.2.1, kin.2.2.2.1⟩)).up (by decide))⟩
  obtain ⟨rfl, r, z1, T1, F1, I1, P1, Y1, hr, hp1, rfl⟩ := e
  obtain ⟨z9, T9, F9, I9, P9, Y9, hv, hh, hLs⟩ := LSt.of hp1
  cases hh
  have kin := h.kin hLs
  have hup : ∀ b : Nat, b ≠ m + 12 → upI I1 (m + 12) 0 r b = I1 b := fun b hb => upI_na _ _ _ _ hb
  have wup : upI I1 (m + 12) 0 r (m + 1) = I (m + 1) := (hup _ (by omega)).trans kin.2.2.2.2.2.1
  refine ⟨rfl, _, _, _, _, _, _, rfl, ⟨kin.1, kin.2.1, kin.2.2.1, kin.2.2.2.1⟩, Ct.post (fun v2 h2 e2 => ?_) ((Ct.own (ct_X12_ticks (F := F1) (I := (upI I1 (m + 12) 0 r)) (w := (upI I1 (m + 12) 0 r) (m + 1)) kin.2.1 (by rw [wup]; exact hO) (by rw [wup]; exact hLw) (by rw [kin.2.2.2.2.1, q3]; omega) (by omega) (by rw [wup]; exact (sGoS_all hI n)))).up (by decide))⟩
  obtain ⟨e3, I', hx, rfl⟩ := e2
  try rw [wup] at e3
  obtain ⟨ws2, hLI⟩ := h.rem hLs (go10 hI h.ten n) (sGo_ok hO hLw n).2.1 hup hx (wI2_go hI n)
  exact ⟨r, _, _, ws2, e3.trans hv.symm, hr, by rw [wup], hLI, by unfold fRem; split <;> first | rw [upF_at] | rw [upF_nk _ _ _ _ (by decide), upF_at], fun _ => by show upA _ (m + 1) _ (m + 12) 0 = r; rw [upA_na _ _ _ (by omega), hx _ (by omega), upA_na _ _ _ (by omega), upI_at]⟩

set_option maxHeartbeats 4000000 in
set_option maxRecDepth 100000 in
theorem op_put {E : xE} {z : Nat} {T : Nat → Nat × Int} {F : Nat → Nat → Int} {I : Nat → Int → Int} {P : Nat → Nat → Option Nat} {Y : Nat → Int → Option Nat} {o m : Nat} {ws : Nat → Option wWo} {ad adv : Nat → Nat} {sio : Option Nat} {qS v0 : Nat} {tx : String} (hV : xEnv E ad adv sio qS v0 tx) (h : LI o m z T F I P Y ws) {p : Int} (hp : -2147483648 ≤ p ∧ p < 2147483648) {q : Int} (hq : -2147483648 ≤ q ∧ q < 2147483648) : ∃ k : Int, (0 ≤ k ∧ k ≤ 2) ∧ CtH E 61 mL_put [(0, 10, 13, 24), (0, 10, 17, 13)] 57 2100 [.ref o, J p, J q, .ref (m + 12)] (z, T, F, I, P, Y) (xH1 E o m mX12_put [J p, J q] k) := by
  obtain ⟨a, h3, hS, hI, h1, hw⟩ := h.get
  have hO := hI.1.1.1
  have hLw := hI.1.1.2.1
  have hr9 := hI.1.2.1
  have o0 := hO.2.1
  have hL := h.1
  have hu := h.2.1.1
  have h4 := h.2.2.1
  obtain ⟨hf, hc, q3, q4, q5⟩ := h.2.2.2.2.1
  obtain ⟨he, hT, htp, hTm⟩ := h.2.2.2.2.2.1
  by_cases c0 : ¬ (0 ≤ p ∧ p < 60)
  · refine ⟨1, by omega, CtH.post (fun v h1' e => ?_) ((cl_put_1 (ou := m + 12) (cx_X11_put_1 h1 h3 hS hp hq c0 hV.2.1.2.2.1) ⟨by decide, by decide⟩ h1 hV.2.1.2.2.1.c).up (by decide))⟩
    obtain ⟨rfl, z', hz', rfl⟩ := e
    have hLs := h.rf.big hz'
    have kin := h.kin hLs
    refine ⟨rfl, _, _, _, _, _, _, rfl, ⟨kin.1, kin.2.1, kin.2.2.1, kin.2.2.2.1⟩, Ct.post (fun v2 h2 e2 => ?_) ((Ct.own (ct_X12_put_t1 (I := I) (w := (I (m + 1))) hw hO hp hq c0)).up (by decide))⟩
    obtain ⟨rfl, rfl⟩ := e2
    obtain ⟨ws2, hLI⟩ := h.ask0 hLs (t := 1) (fun _ _ _ => rfl) hu (Ib := I) (fun _ _ => rfl) xScr.rf
    exact ⟨0, _, _, ws2, rfl, by omega, rfl, hLI, upF_at _ _ _ _, fun q => absurd q (by decide)⟩
  by_cases c1 : ¬ (0 ≤ q ∧ q ≤ 99)
  · refine ⟨2, by omega, CtH.post (fun v h1' e => ?_) ((cl_put_2 (ou := m + 12) (cx_X11_put_2 h1 h3 hS hp hq ⟨by omega, c1⟩ hV.2.1.1) ⟨by decide, by decide⟩ h1 hV.2.1.1.c (fun u hu => (hV.2.2.1 u hu).2.2.1)).up (by decide))⟩
    obtain ⟨rfl, z', hz', rfl⟩ := e
    have hLs := h.rf.big hz'
    have kin := h.kin hLs
    refine ⟨rfl, _, _, _, _, _, _, rfl, ⟨kin.1, kin.2.1, kin.2.2.1, kin.2.2.2.1⟩, Ct.post (fun v2 h2 e2 => ?_) ((Ct.own (ct_X12_put_t2 (I := I) (w := (I (m + 1))) hw hO hp hq ⟨by omega, c1⟩)).up (by decide))⟩
    obtain ⟨rfl, rfl⟩ := e2
    obtain ⟨ws2, hLI⟩ := h.ask0 hLs (t := 2) (fun _ _ _ => rfl) hu (Ib := I) (fun _ _ => rfl) xScr.rf
    exact ⟨0, _, _, ws2, rfl, by omega, rfl, hLI, upF_at _ _ _ _, fun q => absurd q (by decide)⟩
  obtain ⟨key, rfl⟩ : ∃ n : Nat, p = (n : Int) := ⟨p.toNat, by omega⟩
  obtain ⟨v, rfl⟩ : ∃ n : Nat, q = (n : Int) := ⟨q.toNat, by omega⟩
  refine ⟨0, by omega, CtH.post (fun v h1' e => ?_) ((cl_put (ou := m + 12) (ct_X11_put hL hV.1 h3 h4 hu hf hc (by omega) (by omega)) ⟨by decide, by decide⟩ h1 (fun v h' e => by
      obtain ⟨z', T', F', I', P', Y', rfl, rfl, hLs⟩ := LSt.of e
      have kin := h.kin hLs
      exact ⟨jn _, _, _, _, _, _, _, by rw [jn_J], jn_r _, rfl, kin.2.2.1, kin.2.2.2.1⟩)).up (by decide))⟩
  obtain ⟨rfl, r, z1, T1, F1, I1, P1, Y1, hr, hp1, rfl⟩ := e
  obtain ⟨z9, T9, F9, I9, P9, Y9, hv, hh, hLs⟩ := LSt.of hp1
  cases hh
  have kin := h.kin hLs
  have hup : ∀ b : Nat, b ≠ m + 12 → upI I1 (m + 12) 0 r b = I1 b := fun b hb => upI_na _ _ _ _ hb
  have wup : upI I1 (m + 12) 0 r (m + 1) = I (m + 1) := (hup _ (by omega)).trans kin.2.2.2.2.2.1
  refine ⟨rfl, _, _, _, _, _, _, rfl, ⟨kin.1, kin.2.1, kin.2.2.1, kin.2.2.2.1⟩, Ct.post (fun v2 h2 e2 => ?_) ((Ct.own (ct_X12_put (F := F1) (I := (upI I1 (m + 12) 0 r)) (w := (upI I1 (m + 12) 0 r) (m + 1)) kin.2.1 (by rw [wup]; exact hO) (by rw [wup]; exact hLw) (by rw [kin.2.2.2.2.1, q3]; omega) (by omega) (by omega) (by rw [wup]; exact (sStop_write hI (by omega) (by omega))))).up (by decide))⟩
  obtain ⟨e3, I', hx, rfl⟩ := e2
  try rw [wup] at e3
  obtain ⟨ws2, hLI⟩ := h.rem hLs (write10 hI (by omega) (by omega) h.ten) (wHi_write hI (by omega) (by omega)) hup hx (wI2_write hI (by omega) (by omega))
  exact ⟨r, _, _, ws2, e3.trans hv.symm, hr, by rw [wup], hLI, by unfold fRem; split <;> first | rw [upF_at] | rw [upF_nk _ _ _ _ (by decide), upF_at], fun _ => by show upA _ (m + 1) _ (m + 12) 0 = r; rw [upA_na _ _ _ (by omega), hx _ (by omega), upA_na _ _ _ (by omega), upI_at]⟩

set_option maxHeartbeats 4000000 in
set_option maxRecDepth 100000 in
theorem op_remove {E : xE} {z : Nat} {T : Nat → Nat × Int} {F : Nat → Nat → Int} {I : Nat → Int → Int} {P : Nat → Nat → Option Nat} {Y : Nat → Int → Option Nat} {o m : Nat} {ws : Nat → Option wWo} {ad adv : Nat → Nat} {sio : Option Nat} {qS v0 : Nat} {tx : String} (hV : xEnv E ad adv sio qS v0 tx) (h : LI o m z T F I P Y ws) {p : Int} (hp : -2147483648 ≤ p ∧ p < 2147483648) : ∃ k : Int, (0 ≤ k ∧ k ≤ 2) ∧ CtH E 61 mL_remove [(0, 9, 12, 24)] 57 2100 [.ref o, J p, .ref (m + 12)] (z, T, F, I, P, Y) (xH1 E o m mX12_remove [J p] k) := by
  obtain ⟨a, h3, hS, hI, h1, hw⟩ := h.get
  have hO := hI.1.1.1
  have hLw := hI.1.1.2.1
  have hr9 := hI.1.2.1
  have o0 := hO.2.1
  have hL := h.1
  have hu := h.2.1.1
  have h4 := h.2.2.1
  obtain ⟨hf, hc, q3, q4, q5⟩ := h.2.2.2.2.1
  obtain ⟨he, hT, htp, hTm⟩ := h.2.2.2.2.2.1
  by_cases c0 : ¬ (0 ≤ p ∧ p < 60)
  · refine ⟨1, by omega, CtH.post (fun v h1' e => ?_) ((cl_remove_1 (ou := m + 12) (cx_X11_remove_1 h1 h3 hS hp c0 hV.2.1.2.2.1) ⟨by decide, by decide⟩ h1 hV.2.1.2.2.1.c).up (by decide))⟩
    obtain ⟨rfl, z', hz', rfl⟩ := e
    have hLs := h.rf.big hz'
    have kin := h.kin hLs
    refine ⟨rfl, _, _, _, _, _, _, rfl, ⟨kin.1, kin.2.1, kin.2.2.1, kin.2.2.2.1⟩, Ct.post (fun v2 h2 e2 => ?_) ((Ct.own (ct_X12_remove_t1 (I := I) (w := (I (m + 1))) hw hO hp c0)).up (by decide))⟩
    obtain ⟨rfl, rfl⟩ := e2
    obtain ⟨ws2, hLI⟩ := h.ask0 hLs (t := 1) (fun _ _ _ => rfl) hu (Ib := I) (fun _ _ => rfl) xScr.rf
    exact ⟨0, _, _, ws2, rfl, by omega, rfl, hLI, upF_at _ _ _ _, fun q => absurd q (by decide)⟩
  obtain ⟨key, rfl⟩ : ∃ n : Nat, p = (n : Int) := ⟨p.toNat, by omega⟩
  refine ⟨0, by omega, CtH.post (fun v h1' e => ?_) ((cl_remove (ou := m + 12) (ct_X11_remove hL hV.1 h3 h4 hu hf hc (by omega)) ⟨by decide, by decide⟩ h1 (fun v h' e => by
      obtain ⟨z', T', F', I', P', Y', rfl, rfl, hLs⟩ := LSt.of e
      have kin := h.kin hLs
      exact ⟨jn _, _, _, _, _, _, _, by rw [jn_J], jn_r _, rfl, kin.2.2.1, kin.2.2.2.1⟩)).up (by decide))⟩
  obtain ⟨rfl, r, z1, T1, F1, I1, P1, Y1, hr, hp1, rfl⟩ := e
  obtain ⟨z9, T9, F9, I9, P9, Y9, hv, hh, hLs⟩ := LSt.of hp1
  cases hh
  have kin := h.kin hLs
  have hup : ∀ b : Nat, b ≠ m + 12 → upI I1 (m + 12) 0 r b = I1 b := fun b hb => upI_na _ _ _ _ hb
  have wup : upI I1 (m + 12) 0 r (m + 1) = I (m + 1) := (hup _ (by omega)).trans kin.2.2.2.2.2.1
  refine ⟨rfl, _, _, _, _, _, _, rfl, ⟨kin.1, kin.2.1, kin.2.2.1, kin.2.2.2.1⟩, Ct.post (fun v2 h2 e2 => ?_) ((Ct.own (ct_X12_remove (F := F1) (I := (upI I1 (m + 12) 0 r)) (w := (upI I1 (m + 12) 0 r) (m + 1)) kin.2.1 (by rw [wup]; exact hO) (by rw [wup]; exact hLw) (by rw [kin.2.2.2.2.1, q3]; omega) (by omega) (by rw [wup]; exact (sStop_write hI (by omega) (by omega))))).up (by decide))⟩
  obtain ⟨e3, I', hx, rfl⟩ := e2
  try rw [wup] at e3
  obtain ⟨ws2, hLI⟩ := h.rem hLs (write10 hI (by omega) (by omega) h.ten) (wHi_write hI (by omega) (by omega)) hup hx (wI2_write hI (by omega) (by omega))
  exact ⟨r, _, _, ws2, e3.trans hv.symm, hr, by rw [wup], hLI, by unfold fRem; split <;> first | rw [upF_at] | rw [upF_nk _ _ _ _ (by decide), upF_at], fun _ => by show upA _ (m + 1) _ (m + 12) 0 = r; rw [upA_na _ _ _ (by omega), hx _ (by omega), upA_na _ _ _ (by omega), upI_at]⟩

set_option maxHeartbeats 4000000 in
set_option maxRecDepth 100000 in
theorem op_work {E : xE} {z : Nat} {T : Nat → Nat × Int} {F : Nat → Nat → Int} {I : Nat → Int → Int} {P : Nat → Nat → Option Nat} {Y : Nat → Int → Option Nat} {o m : Nat} {ws : Nat → Option wWo} {ad adv : Nat → Nat} {sio : Option Nat} {qS v0 : Nat} {tx : String} (hV : xEnv E ad adv sio qS v0 tx) (h : LI o m z T F I P Y ws) : ∃ k : Int, (0 ≤ k ∧ k ≤ 2) ∧ CtH E 61 mL_work [(0, 8, 11, 51)] 57 2100 [.ref o, .ref (m + 12)] (z, T, F, I, P, Y) (xH1 E o m mX12_work [] k) := by
  obtain ⟨a, h3, hS, hI, h1, hw⟩ := h.get
  have hO := hI.1.1.1
  have hLw := hI.1.1.2.1
  have hr9 := hI.1.2.1
  have o0 := hO.2.1
  have hL := h.1
  have hu := h.2.1.1
  have h4 := h.2.2.1
  obtain ⟨hf, hc, q3, q4, q5⟩ := h.2.2.2.2.1
  obtain ⟨he, hT, htp, hTm⟩ := h.2.2.2.2.2.1
  by_cases c0 : (I (m + 1)) 16 ≠ 1 ∧ sDM (I (m + 1)) 4 = -1
  · refine ⟨1, by omega, CtH.post (fun v h1' e => ?_) ((cl_work_1 (ou := m + 12) (cx_X11_work_1 h1 h3 hS c0 hV.2.1.2.2.2.2) ⟨by decide, by decide⟩ h1 hV.2.1.2.2.2.2.c).up (by decide))⟩
    obtain ⟨rfl, z', hz', rfl⟩ := e
    have hLs := h.rf.big hz'
    have kin := h.kin hLs
    refine ⟨rfl, _, _, _, _, _, _, rfl, ⟨kin.1, kin.2.1, kin.2.2.1, kin.2.2.2.1⟩, Ct.post (fun v2 h2 e2 => ?_) ((Ct.own (ct_X12_work_t1 (I := I) (w := (I (m + 1))) hw hO hLw c0)).up (by decide))⟩
    obtain ⟨rfl, I', hx, rfl⟩ := e2
    obtain ⟨ws2, hLI⟩ := h.ask0 hLs (t := 1) (fun _ _ _ => rfl) hu (Ib := I) (fun _ _ => rfl) hx
    exact ⟨0, _, _, ws2, rfl, by omega, rfl, hLI, upF_at _ _ _ _, fun q => absurd q (by decide)⟩
  have hb : (I (m + 1)) 16 = 1 ∨ sDM (I (m + 1)) 4 ≠ -1 := by omega
  refine ⟨0, by omega, CtH.post (fun v h1' e => ?_) ((cl_work (ou := m + 12) (ct_X11_work hL hV.1 h3 h4 hu hf hc hb) ⟨by decide, by decide⟩ h1 (fun v h' e => by
      obtain ⟨z', T', F', I', P', Y', rfl, rfl, hLs⟩ := LSt.of e
      have kin := h.kin hLs
      exact ⟨jn _, _, _, _, _, _, _, by rw [jn_J], jn_r _, rfl, kin.2.2.1, kin.2.2.2.1⟩)).up (by decide))⟩
  obtain ⟨rfl, r, z1, T1, F1, I1, P1, Y1, hr, hp1, rfl⟩ := e
  obtain ⟨z9, T9, F9, I9, P9, Y9, hv, hh, hLs⟩ := LSt.of hp1
  cases hh
  have kin := h.kin hLs
  have hup : ∀ b : Nat, b ≠ m + 12 → upI I1 (m + 12) 0 r b = I1 b := fun b hb => upI_na _ _ _ _ hb
  have wup : upI I1 (m + 12) 0 r (m + 1) = I (m + 1) := (hup _ (by omega)).trans kin.2.2.2.2.2.1
  refine ⟨rfl, _, _, _, _, _, _, rfl, ⟨kin.1, kin.2.1, kin.2.2.1, kin.2.2.2.1⟩, Ct.post (fun v2 h2 e2 => ?_) ((Ct.own (ct_X12_work (F := F1) (I := (upI I1 (m + 12) 0 r)) (w := (upI I1 (m + 12) 0 r) (m + 1)) kin.2.1 (by rw [wup]; exact hO) (by rw [wup]; exact hLw) (by rw [kin.2.2.2.2.1, q3]; omega) (by rw [wup]; exact hb))).up (by decide))⟩
  obtain ⟨e3, I', hx, rfl⟩ := e2
  try rw [wup] at e3
  obtain ⟨ws2, hLI⟩ := h.rem hLs (by rw [paid10 (wI2_beg hI).1.1.1 (wI2_beg hI).1.1.2.1, beg10]; exact h.ten) ((wHi_beg hO).tr (wHi_paid (wI2_beg hI).1.1.1 (wI2_beg hI).1.1.2.1 0)) hup hx (wI2_paid (wI2_beg hI) (beg16 hb) 0)
  exact ⟨r, _, _, ws2, e3.trans hv.symm, hr, by rw [wup], hLI, by unfold fRem; split <;> first | rw [upF_at] | rw [upF_nk _ _ _ _ (by decide), upF_at], fun _ => by show upA _ (m + 1) _ (m + 12) 0 = r; rw [upA_na _ _ _ (by omega), hx _ (by omega), upA_na _ _ _ (by omega), upI_at]⟩

set_option maxHeartbeats 4000000 in
set_option maxRecDepth 100000 in
theorem op_halt {E : xE} {z : Nat} {T : Nat → Nat × Int} {F : Nat → Nat → Int} {I : Nat → Int → Int} {P : Nat → Nat → Option Nat} {Y : Nat → Int → Option Nat} {o m : Nat} {ws : Nat → Option wWo} {ad adv : Nat → Nat} {sio : Option Nat} {qS v0 : Nat} {tx : String} (hV : xEnv E ad adv sio qS v0 tx) (h : LI o m z T F I P Y ws) : ∃ k : Int, (0 ≤ k ∧ k ≤ 2) ∧ CtH E 61 mL_halt [(0, 8, 11, 51)] 57 2100 [.ref o, .ref (m + 12)] (z, T, F, I, P, Y) (xH1 E o m mX12_halt [] k) := by
  obtain ⟨a, h3, hS, hI, h1, hw⟩ := h.get
  have hO := hI.1.1.1
  have hLw := hI.1.1.2.1
  have hr9 := hI.1.2.1
  have o0 := hO.2.1
  have hL := h.1
  have hu := h.2.1.1
  have h4 := h.2.2.1
  obtain ⟨hf, hc, q3, q4, q5⟩ := h.2.2.2.2.1
  obtain ⟨he, hT, htp, hTm⟩ := h.2.2.2.2.2.1
  by_cases c0 : (I (m + 1)) 16 ≠ 1
  · refine ⟨1, by omega, CtH.post (fun v h1' e => ?_) ((cl_halt_1 (ou := m + 12) (cx_X11_halt_1 h1 h3 hS c0 hV.2.1.2.2.2.2) ⟨by decide, by decide⟩ h1 hV.2.1.2.2.2.2.c).up (by decide))⟩
    obtain ⟨rfl, z', hz', rfl⟩ := e
    have hLs := h.rf.big hz'
    have kin := h.kin hLs
    refine ⟨rfl, _, _, _, _, _, _, rfl, ⟨kin.1, kin.2.1, kin.2.2.1, kin.2.2.2.1⟩, Ct.post (fun v2 h2 e2 => ?_) ((Ct.own (ct_X12_halt_t1 (I := I) (w := (I (m + 1))) hw hO c0)).up (by decide))⟩
    obtain ⟨rfl, rfl⟩ := e2
    obtain ⟨ws2, hLI⟩ := h.ask0 hLs (t := 1) (fun _ _ _ => rfl) hu (Ib := I) (fun _ _ => rfl) xScr.rf
    exact ⟨0, _, _, ws2, rfl, by omega, rfl, hLI, upF_at _ _ _ _, fun q => absurd q (by decide)⟩
  have hb : (I (m + 1)) 16 = 1 := by omega
  refine ⟨0, by omega, CtH.post (fun v h1' e => ?_) ((cl_halt (ou := m + 12) (ct_X11_halt hL hV.1 h3 h4 hu hf hc hb) ⟨by decide, by decide⟩ h1 (fun v h' e => by
      obtain ⟨z', T', F', I', P', Y', rfl, rfl, hLs⟩ := LSt.of e
      have kin := h.kin hLs
      exact ⟨jn _, _, _, _, _, _, _, by rw [jn_J], jn_r _, rfl, kin.2.2.1, kin.2.2.2.1⟩)).up (by decide))⟩
  obtain ⟨rfl, r, z1, T1, F1, I1, P1, Y1, hr, hp1, rfl⟩ := e
  obtain ⟨z9, T9, F9, I9, P9, Y9, hv, hh, hLs⟩ := LSt.of hp1
  cases hh
  have kin := h.kin hLs
  have hup : ∀ b : Nat, b ≠ m + 12 → upI I1 (m + 12) 0 r b = I1 b := fun b hb => upI_na _ _ _ _ hb
  have wup : upI I1 (m + 12) 0 r (m + 1) = I (m + 1) := (hup _ (by omega)).trans kin.2.2.2.2.2.1
  refine ⟨rfl, _, _, _, _, _, _, rfl, ⟨kin.1, kin.2.1, kin.2.2.1, kin.2.2.2.1⟩, Ct.post (fun v2 h2 e2 => ?_) ((Ct.own (ct_X12_halt (F := F1) (I := (upI I1 (m + 12) 0 r)) (w := (upI I1 (m + 12) 0 r) (m + 1)) kin.2.1 (by rw [wup]; exact hO) (by rw [kin.2.2.2.2.1, q3]; omega) (by rw [wup]; exact hb))).up (by decide))⟩
  obtain ⟨e3, I', hx, rfl⟩ := e2
  try rw [wup] at e3
  obtain ⟨ws2, hLI⟩ := h.rem hLs (by rw [halt10 hO]; exact h.ten) (wHi_halt hO) hup hx (wI2_halt hI)
  exact ⟨r, _, _, ws2, e3.trans hv.symm, hr, by rw [wup], hLI, by unfold fRem; split <;> first | rw [upF_at] | rw [upF_nk _ _ _ _ (by decide), upF_at], fun _ => by show upA _ (m + 1) _ (m + 12) 0 = r; rw [upA_na _ _ _ (by omega), hx _ (by omega), upA_na _ _ _ (by omega), upI_at]⟩

set_option maxHeartbeats 4000000 in
set_option maxRecDepth 100000 in
theorem op_flush {E : xE} {z : Nat} {T : Nat → Nat × Int} {F : Nat → Nat → Int} {I : Nat → Int → Int} {P : Nat → Nat → Option Nat} {Y : Nat → Int → Option Nat} {o m : Nat} {ws : Nat → Option wWo} {ad adv : Nat → Nat} {sio : Option Nat} {qS v0 : Nat} {tx : String} (hV : xEnv E ad adv sio qS v0 tx) (h : LI o m z T F I P Y ws) : ∃ k : Int, (0 ≤ k ∧ k ≤ 2) ∧ CtH E 61 mL_flush [(0, 8, 11, 51)] 57 2100 [.ref o, .ref (m + 12)] (z, T, F, I, P, Y) (xH1 E o m mX12_flush [] k) := by
  obtain ⟨a, h3, hS, hI, h1, hw⟩ := h.get
  have hO := hI.1.1.1
  have hLw := hI.1.1.2.1
  have hr9 := hI.1.2.1
  have o0 := hO.2.1
  have hL := h.1
  have hu := h.2.1.1
  have h4 := h.2.2.1
  obtain ⟨hf, hc, q3, q4, q5⟩ := h.2.2.2.2.1
  obtain ⟨he, hT, htp, hTm⟩ := h.2.2.2.2.2.1
  by_cases c0 : sEnt (I (m + 1)) 19 = 0 ∨ sCrowd (I (m + 1)) = true
  · refine ⟨1, by omega, CtH.post (fun v h1' e => ?_) ((cl_flush_1 (ou := m + 12) (cx_X11_flush_1 h1 h3 hS c0 hV.2.1.2.2.2.2) ⟨by decide, by decide⟩ h1 hV.2.1.2.2.2.2.c).up (by decide))⟩
    obtain ⟨rfl, z', hz', rfl⟩ := e
    have hLs := h.rf.big hz'
    have kin := h.kin hLs
    refine ⟨rfl, _, _, _, _, _, _, rfl, ⟨kin.1, kin.2.1, kin.2.2.1, kin.2.2.2.1⟩, Ct.post (fun v2 h2 e2 => ?_) ((Ct.own (ct_X12_flush_t1 (I := I) (w := (I (m + 1))) hw hO c0)).up (by decide))⟩
    obtain ⟨rfl, rfl⟩ := e2
    obtain ⟨ws2, hLI⟩ := h.ask0 hLs (t := 1) (fun _ _ _ => rfl) hu (Ib := I) (fun _ _ => rfl) xScr.rf
    exact ⟨0, _, _, ws2, rfl, by omega, rfl, hLI, upF_at _ _ _ _, fun q => absurd q (by decide)⟩
  have hb : sEnt (I (m + 1)) 19 ≠ 0 ∧ sCrowd (I (m + 1)) = false := ⟨fun q => c0 (Or.inl q), Bool.eq_false_iff.mpr (fun q => c0 (Or.inr q))⟩
  have hN := (sCrowd_f hb.2 o0.2).1
  have hE9 := sEnt_bd (I (m + 1)) 19
  refine ⟨0, by omega, CtH.post (fun v h1' e => ?_) ((cl_flush (ou := m + 12) (ct_X11_flush hL hV.1 h3 h4 hu hf hc hb) ⟨by decide, by decide⟩ h1 (fun v h' e => by
      obtain ⟨z', T', F', I', P', Y', rfl, rfl, hLs⟩ := LSt.of e
      have kin := h.kin hLs
      exact ⟨jn _, _, _, _, _, _, _, by rw [jn_J], jn_r _, rfl, kin.2.2.1, kin.2.2.2.1⟩)).up (by decide))⟩
  obtain ⟨rfl, r, z1, T1, F1, I1, P1, Y1, hr, hp1, rfl⟩ := e
  obtain ⟨z9, T9, F9, I9, P9, Y9, hv, hh, hLs⟩ := LSt.of hp1
  cases hh
  have kin := h.kin hLs
  have hup : ∀ b : Nat, b ≠ m + 12 → upI I1 (m + 12) 0 r b = I1 b := fun b hb => upI_na _ _ _ _ hb
  have wup : upI I1 (m + 12) 0 r (m + 1) = I (m + 1) := (hup _ (by omega)).trans kin.2.2.2.2.2.1
  refine ⟨rfl, _, _, _, _, _, _, rfl, ⟨kin.1, kin.2.1, kin.2.2.1, kin.2.2.2.1⟩, Ct.post (fun v2 h2 e2 => ?_) ((Ct.own (ct_X12_flush (F := F1) (I := (upI I1 (m + 12) 0 r)) (w := (upI I1 (m + 12) 0 r) (m + 1)) kin.2.1 (by rw [wup]; exact hO) (by rw [kin.2.2.2.2.1, q3]; omega) (by rw [wup]; exact hb))).up (by decide))⟩
  obtain ⟨e3, I', hx, rfl⟩ := e2
  try rw [wup] at e3
  obtain ⟨ws2, hLI⟩ := h.rem hLs (by rw [sFl_lo ⟨o0.1, hN⟩ (by omega)]; exact h.ten) (wHi_flush hO hN) hup hx (wI2_flush hI hN (by omega))
  exact ⟨r, _, _, ws2, e3.trans hv.symm, hr, by rw [wup], hLI, by unfold fRem; split <;> first | rw [upF_at] | rw [upF_nk _ _ _ _ (by decide), upF_at], fun _ => by show upA _ (m + 1) _ (m + 12) 0 = r; rw [upA_na _ _ _ (by omega), hx _ (by omega), upA_na _ _ _ (by omega), upI_at]⟩

set_option maxHeartbeats 4000000 in
set_option maxRecDepth 100000 in
theorem op_tune {E : xE} {z : Nat} {T : Nat → Nat × Int} {F : Nat → Nat → Int} {I : Nat → Int → Int} {P : Nat → Nat → Option Nat} {Y : Nat → Int → Option Nat} {o m : Nat} {ws : Nat → Option wWo} {ad adv : Nat → Nat} {sio : Option Nat} {qS v0 : Nat} {tx : String} (hV : xEnv E ad adv sio qS v0 tx) (h : LI o m z T F I P Y ws) {p : Int} (hp : -2147483648 ≤ p ∧ p < 2147483648) {q : Int} (hq : -2147483648 ≤ q ∧ q < 2147483648) : ∃ k : Int, (0 ≤ k ∧ k ≤ 2) ∧ CtH E 61 mL_tune [(0, 10, 13, 26), (0, 10, 17, 13)] 57 2100 [.ref o, J p, J q, .ref (m + 12)] (z, T, F, I, P, Y) (xH1 E o m mX12_tune [J p, J q] k) := by
  obtain ⟨a, h3, hS, hI, h1, hw⟩ := h.get
  have hO := hI.1.1.1
  have hLw := hI.1.1.2.1
  have hr9 := hI.1.2.1
  have o0 := hO.2.1
  have hL := h.1
  have hu := h.2.1.1
  have h4 := h.2.2.1
  obtain ⟨hf, hc, q3, q4, q5⟩ := h.2.2.2.2.1
  obtain ⟨he, hT, htp, hTm⟩ := h.2.2.2.2.2.1
  by_cases c0 : ¬ (0 ≤ p ∧ p ≤ 2)
  · refine ⟨1, by omega, CtH.post (fun v h1' e => ?_) ((cl_tune_1 (ou := m + 12) (cx_X11_tune_1 h1 h3 hS hp hq c0 hV.2.1.2.2.2.1) ⟨by decide, by decide⟩ h1 hV.2.1.2.2.2.1.c).up (by decide))⟩
    obtain ⟨rfl, z', hz', rfl⟩ := e
    have hLs := h.rf.big hz'
    have kin := h.kin hLs
    refine ⟨rfl, _, _, _, _, _, _, rfl, ⟨kin.1, kin.2.1, kin.2.2.1, kin.2.2.2.1⟩, Ct.post (fun v2 h2 e2 => ?_) ((Ct.own (ct_X12_tune_t1 (I := I) (w := (I (m + 1))) hw hO hp hq c0)).up (by decide))⟩
    obtain ⟨rfl, rfl⟩ := e2
    obtain ⟨ws2, hLI⟩ := h.ask0 hLs (t := 1) (fun _ _ _ => rfl) hu (Ib := I) (fun _ _ => rfl) xScr.rf
    exact ⟨0, _, _, ws2, rfl, by omega, rfl, hLI, upF_at _ _ _ _, fun q => absurd q (by decide)⟩
  by_cases c1 : ¬ tuneOk p q
  · refine ⟨2, by omega, CtH.post (fun v h1' e => ?_) ((cl_tune_2 (ou := m + 12) (cx_X11_tune_2 h1 h3 hS hp hq ⟨by omega, c1⟩ hV.2.1.1) ⟨by decide, by decide⟩ h1 hV.2.1.1.c (fun u hu => (hV.2.2.1 u hu).2.2.2)).up (by decide))⟩
    obtain ⟨rfl, z', hz', rfl⟩ := e
    have hLs := h.rf.big hz'
    have kin := h.kin hLs
    refine ⟨rfl, _, _, _, _, _, _, rfl, ⟨kin.1, kin.2.1, kin.2.2.1, kin.2.2.2.1⟩, Ct.post (fun v2 h2 e2 => ?_) ((Ct.own (ct_X12_tune_t2 (I := I) (w := (I (m + 1))) hw hO hp hq ⟨by omega, c1⟩)).up (by decide))⟩
    obtain ⟨rfl, rfl⟩ := e2
    obtain ⟨ws2, hLI⟩ := h.ask0 hLs (t := 2) (fun _ _ _ => rfl) hu (Ib := I) (fun _ _ => rfl) xScr.rf
    exact ⟨0, _, _, ws2, rfl, by omega, rfl, hLI, upF_at _ _ _ _, fun q => absurd q (by decide)⟩
  have hb : tuneOk p q := Classical.not_not.mp c1
  have htu := wI2_tune hI hb
  have htn := tune10 hO hb h.ten
  have hth := wHi_tune hO hb
  refine ⟨0, by omega, CtH.post (fun v h1' e => ?_) ((cl_tune (ou := m + 12) (ct_X11_tune hL hV.1 h3 h4 hu hf hc hb) ⟨by decide, by decide⟩ h1 (fun v h' e => by
      obtain ⟨z', T', F', I', P', Y', rfl, rfl, hLs⟩ := LSt.of e
      have kin := h.kin hLs
      exact ⟨jn _, _, _, _, _, _, _, by rw [jn_J], jn_r _, rfl, kin.2.2.1, kin.2.2.2.1⟩)).up (by decide))⟩
  obtain ⟨rfl, r, z1, T1, F1, I1, P1, Y1, hr, hp1, rfl⟩ := e
  obtain ⟨z9, T9, F9, I9, P9, Y9, hv, hh, hLs⟩ := LSt.of hp1
  cases hh
  have kin := h.kin hLs
  have hup : ∀ b : Nat, b ≠ m + 12 → upI I1 (m + 12) 0 r b = I1 b := fun b hb => upI_na _ _ _ _ hb
  have wup : upI I1 (m + 12) 0 r (m + 1) = I (m + 1) := (hup _ (by omega)).trans kin.2.2.2.2.2.1
  refine ⟨rfl, _, _, _, _, _, _, rfl, ⟨kin.1, kin.2.1, kin.2.2.1, kin.2.2.2.1⟩, Ct.post (fun v2 h2 e2 => ?_) ((Ct.own (ct_X12_tune (F := F1) (I := (upI I1 (m + 12) 0 r)) (w := (upI I1 (m + 12) 0 r) (m + 1)) kin.2.1 (by rw [wup]; exact hO) (by rw [kin.2.2.2.2.1, q3]; omega) hb)).up (by decide))⟩
  obtain ⟨e3, I', hx, rfl⟩ := e2
  try rw [wup] at e3
  obtain ⟨ws2, hLI⟩ := h.rem hLs htn hth hup hx htu
  exact ⟨r, _, _, ws2, e3.trans hv.symm, hr, by rw [wup], hLI, by unfold fRem; split <;> first | rw [upF_at] | rw [upF_nk _ _ _ _ (by decide), upF_at], fun _ => by show upA _ (m + 1) _ (m + 12) 0 = r; rw [upA_na _ _ _ (by omega), hx _ (by omega), upA_na _ _ _ (by omega), upI_at]⟩

set_option maxHeartbeats 4000000 in
set_option maxRecDepth 100000 in
theorem op_get {E : xE} {z : Nat} {T : Nat → Nat × Int} {F : Nat → Nat → Int} {I : Nat → Int → Int} {P : Nat → Nat → Option Nat} {Y : Nat → Int → Option Nat} {o m : Nat} {ws : Nat → Option wWo} {ad adv : Nat → Nat} {sio : Option Nat} {qS v0 : Nat} {tx : String} (hV : xEnv E ad adv sio qS v0 tx) (h : LI o m z T F I P Y ws) {p : Int} (hp : -2147483648 ≤ p ∧ p < 2147483648) : ∃ k : Int, (0 ≤ k ∧ k ≤ 2) ∧ CtH E 61 mL_get [(0, 9, 12, 24)] 57 2100 [.ref o, J p, .ref (m + 12)] (z, T, F, I, P, Y) (xH1 E o m mX12_get [J p] k) := by
  obtain ⟨a, h3, hS, hI, h1, hw⟩ := h.get
  have hO := hI.1.1.1
  have hLw := hI.1.1.2.1
  have hr9 := hI.1.2.1
  have o0 := hO.2.1
  have hL := h.1
  have hu := h.2.1.1
  have h4 := h.2.2.1
  obtain ⟨hf, hc, q3, q4, q5⟩ := h.2.2.2.2.1
  obtain ⟨he, hT, htp, hTm⟩ := h.2.2.2.2.2.1
  by_cases c0 : ¬ (0 ≤ p ∧ p < 60)
  · refine ⟨1, by omega, CtH.post (fun v h1' e => ?_) ((cl_get_1 (ou := m + 12) (cx_X11_get_1 h1 h3 hS hp c0 hV.2.1.2.2.1) ⟨by decide, by decide⟩ h1 hV.2.1.2.2.1.c).up (by decide))⟩
    obtain ⟨rfl, z', hz', rfl⟩ := e
    have hLs := h.rf.big hz'
    have kin := h.kin hLs
    refine ⟨rfl, _, _, _, _, _, _, rfl, ⟨kin.1, kin.2.1, kin.2.2.1, kin.2.2.2.1⟩, Ct.post (fun v2 h2 e2 => ?_) ((Ct.own (ct_X12_get_t1 (I := I) (w := (I (m + 1))) hw hO hp c0)).up (by decide))⟩
    obtain ⟨rfl, rfl⟩ := e2
    obtain ⟨ws2, hLI⟩ := h.ask0 hLs (t := 1) (fun _ _ _ => rfl) hu (Ib := I) (fun _ _ => rfl) xScr.rf
    exact ⟨0, _, _, ws2, rfl, by omega, rfl, hLI, upF_at _ _ _ _, fun q => absurd q (by decide)⟩
  refine ⟨0, by omega, CtH.post (fun v h1' e => ?_) ((cl_get (ou := m + 12) (ct_X11_get h1 h3 hS (by omega)) ⟨by decide, by decide⟩ h1 (fun v h' e => by
      obtain ⟨rfl, rfl⟩ := e
      exact ⟨jn _, _, _, _, _, _, _, by rw [jn_J], jn_r _, rfl, h.2.2.2.1.2.1, h.2.2.2.1.2.2⟩)).up (by decide))⟩
  obtain ⟨rfl, r, z1, T1, F1, I1, P1, Y1, hr, hp1, rfl⟩ := e
  obtain ⟨hv, hh⟩ := hp1
  cases hh
  have hLs := h.rf
  have kin := h.kin hLs
  have hup : ∀ b : Nat, b ≠ m + 12 → upI I (m + 12) 0 r b = I b := fun b hb => upI_na _ _ _ _ hb
  have wup : upI I (m + 12) 0 r (m + 1) = I (m + 1) := (hup _ (by omega)).trans kin.2.2.2.2.2.1
  refine ⟨rfl, _, _, _, _, _, _, rfl, ⟨kin.1, kin.2.1, kin.2.2.1, kin.2.2.2.1⟩, Ct.post (fun v2 h2 e2 => ?_) ((Ct.own (ct_X12_get (F := F) (I := (upI I (m + 12) 0 r)) (w := (upI I (m + 12) 0 r) (m + 1)) kin.2.1 (by rw [wup]; exact hO) hp (by omega))).up (by decide))⟩
  obtain ⟨e3, rfl⟩ := e2
  obtain ⟨ws2, hLI⟩ := h.ask0 hLs (t := 0) (fun _ _ _ => rfl) hu hup xScr.rf
  try rw [wup] at e3
  exact ⟨r, _, _, ws2, e3.trans hv.symm, hr, by rw [wup], hLI, upF_at _ _ _ _, fun _ => by show upA _ (m + 1) _ (m + 12) 0 = r; rw [upA_na _ _ _ (by omega), upI_at]⟩

set_option maxHeartbeats 4000000 in
set_option maxRecDepth 100000 in
theorem op_looks {E : xE} {z : Nat} {T : Nat → Nat × Int} {F : Nat → Nat → Int} {I : Nat → Int → Int} {P : Nat → Nat → Option Nat} {Y : Nat → Int → Option Nat} {o m : Nat} {ws : Nat → Option wWo} {ad adv : Nat → Nat} {sio : Option Nat} {qS v0 : Nat} {tx : String} (hV : xEnv E ad adv sio qS v0 tx) (h : LI o m z T F I P Y ws) {p : Int} (hp : -2147483648 ≤ p ∧ p < 2147483648) : ∃ k : Int, (0 ≤ k ∧ k ≤ 2) ∧ CtH E 61 mL_looks [(0, 9, 12, 24)] 57 2100 [.ref o, J p, .ref (m + 12)] (z, T, F, I, P, Y) (xH1 E o m mX12_looks [J p] k) := by
  obtain ⟨a, h3, hS, hI, h1, hw⟩ := h.get
  have hO := hI.1.1.1
  have hLw := hI.1.1.2.1
  have hr9 := hI.1.2.1
  have o0 := hO.2.1
  have hL := h.1
  have hu := h.2.1.1
  have h4 := h.2.2.1
  obtain ⟨hf, hc, q3, q4, q5⟩ := h.2.2.2.2.1
  obtain ⟨he, hT, htp, hTm⟩ := h.2.2.2.2.2.1
  by_cases c0 : ¬ (0 ≤ p ∧ p < 60)
  · refine ⟨1, by omega, CtH.post (fun v h1' e => ?_) ((cl_looks_1 (ou := m + 12) (cx_X11_looks_1 h1 h3 hS hp c0 hV.2.1.2.2.1) ⟨by decide, by decide⟩ h1 hV.2.1.2.2.1.c).up (by decide))⟩
    obtain ⟨rfl, z', hz', rfl⟩ := e
    have hLs := h.rf.big hz'
    have kin := h.kin hLs
    refine ⟨rfl, _, _, _, _, _, _, rfl, ⟨kin.1, kin.2.1, kin.2.2.1, kin.2.2.2.1⟩, Ct.post (fun v2 h2 e2 => ?_) ((Ct.own (ct_X12_looks_t1 (I := I) (w := (I (m + 1))) hw hO hp c0)).up (by decide))⟩
    obtain ⟨rfl, rfl⟩ := e2
    obtain ⟨ws2, hLI⟩ := h.ask0 hLs (t := 1) (fun _ _ _ => rfl) hu (Ib := I) (fun _ _ => rfl) xScr.rf
    exact ⟨0, _, _, ws2, rfl, by omega, rfl, hLI, upF_at _ _ _ _, fun q => absurd q (by decide)⟩
  refine ⟨0, by omega, CtH.post (fun v h1' e => ?_) ((cl_looks (ou := m + 12) (ct_X11_looks h1 h3 hS (by omega)) ⟨by decide, by decide⟩ h1 (fun v h' e => by
      obtain ⟨rfl, rfl⟩ := e
      exact ⟨jn _, _, _, _, _, _, _, by rw [jn_J], jn_r _, rfl, h.2.2.2.1.2.1, h.2.2.2.1.2.2⟩)).up (by decide))⟩
  obtain ⟨rfl, r, z1, T1, F1, I1, P1, Y1, hr, hp1, rfl⟩ := e
  obtain ⟨hv, hh⟩ := hp1
  cases hh
  have hLs := h.rf
  have kin := h.kin hLs
  have hup : ∀ b : Nat, b ≠ m + 12 → upI I (m + 12) 0 r b = I b := fun b hb => upI_na _ _ _ _ hb
  have wup : upI I (m + 12) 0 r (m + 1) = I (m + 1) := (hup _ (by omega)).trans kin.2.2.2.2.2.1
  refine ⟨rfl, _, _, _, _, _, _, rfl, ⟨kin.1, kin.2.1, kin.2.2.1, kin.2.2.2.1⟩, Ct.post (fun v2 h2 e2 => ?_) ((Ct.own (ct_X12_looks (F := F) (I := (upI I (m + 12) 0 r)) (w := (upI I (m + 12) 0 r) (m + 1)) kin.2.1 (by rw [wup]; exact hO) hp (by omega))).up (by decide))⟩
  obtain ⟨e3, rfl⟩ := e2
  obtain ⟨ws2, hLI⟩ := h.ask0 hLs (t := 0) (fun _ _ _ => rfl) hu hup xScr.rf
  try rw [wup] at e3
  exact ⟨r, _, _, ws2, e3.trans hv.symm, hr, by rw [wup], hLI, upF_at _ _ _ _, fun _ => by show upA _ (m + 1) _ (m + 12) 0 = r; rw [upA_na _ _ _ (by omega), upI_at]⟩

set_option maxHeartbeats 4000000 in
set_option maxRecDepth 100000 in
theorem op_total {E : xE} {z : Nat} {T : Nat → Nat × Int} {F : Nat → Nat → Int} {I : Nat → Int → Int} {P : Nat → Nat → Option Nat} {Y : Nat → Int → Option Nat} {o m : Nat} {ws : Nat → Option wWo} {ad adv : Nat → Nat} {sio : Option Nat} {qS v0 : Nat} {tx : String} (hV : xEnv E ad adv sio qS v0 tx) (h : LI o m z T F I P Y ws) {p : Int} (hp : -2147483648 ≤ p ∧ p < 2147483648) {q : Int} (hq : -2147483648 ≤ q ∧ q < 2147483648) : ∃ k : Int, (0 ≤ k ∧ k ≤ 2) ∧ CtH E 61 mL_total [(0, 10, 13, 24), (0, 10, 17, 13)] 57 2100 [.ref o, J p, J q, .ref (m + 12)] (z, T, F, I, P, Y) (xH1 E o m mX12_total [J p, J q] k) := by
  obtain ⟨a, h3, hS, hI, h1, hw⟩ := h.get
  have hO := hI.1.1.1
  have hLw := hI.1.1.2.1
  have hr9 := hI.1.2.1
  have o0 := hO.2.1
  have hL := h.1
  have hu := h.2.1.1
  have h4 := h.2.2.1
  obtain ⟨hf, hc, q3, q4, q5⟩ := h.2.2.2.2.1
  obtain ⟨he, hT, htp, hTm⟩ := h.2.2.2.2.2.1
  by_cases c0 : ¬ ((0 ≤ p ∧ p < 60) ∧ 0 ≤ q ∧ q < 60)
  · refine ⟨1, by omega, CtH.post (fun v h1' e => ?_) ((cl_total_1 (ou := m + 12) (cx_X11_total_1 h1 h3 hS hp hq c0 hV.2.1.2.2.1) ⟨by decide, by decide⟩ h1 hV.2.1.2.2.1.c).up (by decide))⟩
    obtain ⟨rfl, z', hz', rfl⟩ := e
    have hLs := h.rf.big hz'
    have kin := h.kin hLs
    refine ⟨rfl, _, _, _, _, _, _, rfl, ⟨kin.1, kin.2.1, kin.2.2.1, kin.2.2.2.1⟩, Ct.post (fun v2 h2 e2 => ?_) ((Ct.own (ct_X12_total_t1 (I := I) (w := (I (m + 1))) hw hO hp hq c0)).up (by decide))⟩
    obtain ⟨rfl, rfl⟩ := e2
    obtain ⟨ws2, hLI⟩ := h.ask0 hLs (t := 1) (fun _ _ _ => rfl) hu (Ib := I) (fun _ _ => rfl) xScr.rf
    exact ⟨0, _, _, ws2, rfl, by omega, rfl, hLI, upF_at _ _ _ _, fun q => absurd q (by decide)⟩
  by_cases c1 : q < p
  · refine ⟨2, by omega, CtH.post (fun v h1' e => ?_) ((cl_total_2 (ou := m + 12) (cx_X11_total_2 h1 h3 hS hp hq ⟨by omega, c1⟩ hV.2.1.1) ⟨by decide, by decide⟩ h1 hV.2.1.1.c (fun u hu => (hV.2.2.1 u hu).2.2.1)).up (by decide))⟩
    obtain ⟨rfl, z', hz', rfl⟩ := e
    have hLs := h.rf.big hz'
    have kin := h.kin hLs
    refine ⟨rfl, _, _, _, _, _, _, rfl, ⟨kin.1, kin.2.1, kin.2.2.1, kin.2.2.2.1⟩, Ct.post (fun v2 h2 e2 => ?_) ((Ct.own (ct_X12_total_t2 (I := I) (w := (I (m + 1))) hw hO hp hq ⟨by omega, c1⟩)).up (by decide))⟩
    obtain ⟨rfl, rfl⟩ := e2
    obtain ⟨ws2, hLI⟩ := h.ask0 hLs (t := 2) (fun _ _ _ => rfl) hu (Ib := I) (fun _ _ => rfl) xScr.rf
    exact ⟨0, _, _, ws2, rfl, by omega, rfl, hLI, upF_at _ _ _ _, fun q => absurd q (by decide)⟩
  refine ⟨0, by omega, CtH.post (fun v h1' e => ?_) ((cl_total (ou := m + 12) (ct_X11_total h1 h3 hS (by omega)) ⟨by decide, by decide⟩ h1 (fun v h' e => by
      obtain ⟨rfl, rfl⟩ := e
      exact ⟨jn _, _, _, _, _, _, _, by rw [jn_J], jn_r _, rfl, h.2.2.2.1.2.1, h.2.2.2.1.2.2⟩)).up (by decide))⟩
  obtain ⟨rfl, r, z1, T1, F1, I1, P1, Y1, hr, hp1, rfl⟩ := e
  obtain ⟨hv, hh⟩ := hp1
  cases hh
  have hLs := h.rf
  have kin := h.kin hLs
  have hup : ∀ b : Nat, b ≠ m + 12 → upI I (m + 12) 0 r b = I b := fun b hb => upI_na _ _ _ _ hb
  have wup : upI I (m + 12) 0 r (m + 1) = I (m + 1) := (hup _ (by omega)).trans kin.2.2.2.2.2.1
  refine ⟨rfl, _, _, _, _, _, _, rfl, ⟨kin.1, kin.2.1, kin.2.2.1, kin.2.2.2.1⟩, Ct.post (fun v2 h2 e2 => ?_) ((Ct.own (ct_X12_total (F := F) (I := (upI I (m + 12) 0 r)) (w := (upI I (m + 12) 0 r) (m + 1)) kin.2.1 (by rw [wup]; exact hO) (by omega))).up (by decide))⟩
  obtain ⟨e3, rfl⟩ := e2
  obtain ⟨ws2, hLI⟩ := h.ask0 hLs (t := 0) (fun _ _ _ => rfl) hu hup xScr.rf
  try rw [wup] at e3
  exact ⟨r, _, _, ws2, e3.trans hv.symm, hr, by rw [wup], hLI, upF_at _ _ _ _, fun _ => by show upA _ (m + 1) _ (m + 12) 0 = r; rw [upA_na _ _ _ (by omega), upI_at]⟩

set_option maxHeartbeats 4000000 in
set_option maxRecDepth 100000 in
theorem op_may {E : xE} {z : Nat} {T : Nat → Nat × Int} {F : Nat → Nat → Int} {I : Nat → Int → Int} {P : Nat → Nat → Option Nat} {Y : Nat → Int → Option Nat} {o m : Nat} {ws : Nat → Option wWo} {ad adv : Nat → Nat} {sio : Option Nat} {qS v0 : Nat} {tx : String} (hV : xEnv E ad adv sio qS v0 tx) (h : LI o m z T F I P Y ws) : ∃ k : Int, (0 ≤ k ∧ k ≤ 2) ∧ CtH E 61 mL_may [(0, 8, 11, 13)] 57 2100 [.ref o, .ref (m + 12)] (z, T, F, I, P, Y) (xH1 E o m mX12_may [] k) := by
  obtain ⟨a, h3, hS, hI, h1, hw⟩ := h.get
  have hO := hI.1.1.1
  have hLw := hI.1.1.2.1
  have hr9 := hI.1.2.1
  have o0 := hO.2.1
  have hL := h.1
  have hu := h.2.1.1
  have h4 := h.2.2.1
  obtain ⟨hf, hc, q3, q4, q5⟩ := h.2.2.2.2.1
  obtain ⟨he, hT, htp, hTm⟩ := h.2.2.2.2.2.1
  have htp9 : ∀ j : Int, 0 ≤ j → j < F o 1 → 0 ≤ I (o + 1) j ∧ I (o + 1) j ≤ 255 := fun j a b => hT j a (by omega)
  obtain ⟨-, ⟨p0, t01, t02⟩, -⟩ := id hL.1
  have hla := hL.2.1.1 0 a (by decide) h3
  have hof : oFar o a P := ⟨by omega, fun l hl => by have := hL.2.1.2.2.1 0 a l (by decide) h3 hl; omega⟩
  have htm := sTld_rT htp he.1
  by_cases c0 : sTld (I (o + 1)) (F o 1) = true
  · refine ⟨0, by omega, CtH.post (fun v h1' e => ?_) ((cl_may (ou := m + 12) (ct_X11_may h1 h3 hS p0 ⟨t01, t02⟩ he htp9 hof c0) ⟨by decide, by decide⟩ h1 (fun v h' e => by
        obtain ⟨rfl, rfl⟩ := e
        exact ⟨jn _, _, _, _, _, _, _, by rw [jn_J], jn_r _, rfl, h.2.2.2.1.2.1, h.2.2.2.1.2.2⟩)).up (by decide))⟩
    obtain ⟨rfl, r, z1, T1, F1, I1, P1, Y1, hr, hp1, rfl⟩ := e
    obtain ⟨hv, hh⟩ := hp1
    cases hh
    have hLs := h.num (k := 1) (v := 0) rfl
    have kin := h.kin hLs
    have hup : ∀ b : Nat, b ≠ m + 12 → upI I (m + 12) 0 r b = I b := fun b hb => upI_na _ _ _ _ hb
    have wup : upI I (m + 12) 0 r (m + 1) = I (m + 1) := (hup _ (by omega)).trans kin.2.2.2.2.2.1
    refine ⟨rfl, _, _, _, _, _, _, rfl, ⟨kin.1, kin.2.1, kin.2.2.1, kin.2.2.2.1⟩, Ct.post (fun v2 h2 e2 => ?_) ((Ct.own (ct_X12_may (F := (upF F o 1 0)) (I := (upI I (m + 12) 0 r)) (w := (upI I (m + 12) 0 r) (m + 1)) kin.2.1 (by rw [wup]; exact hO) (by rw [hup _ (by omega)]; exact hTm) (by rw [kin.2.2.2.2.1, q4]; exact he) (by rw [hup _ (by omega), kin.2.2.2.2.1, q4, ← htm]; exact c0))).up (by decide))⟩
    obtain ⟨e3, rfl⟩ := e2
    have em : upF F o 1 0 m = F m := kin.2.2.2.2.1
    have e6 : upI I (m + 12) 0 r (m + 6) = I (m + 6) := hup _ (by omega)
    obtain ⟨ws2, hLI⟩ := h.used (F2 := fUse (upF F o 1 0) m) (Ib := upI I (m + 12) 0 r) hup ⟨fun b hb => fUse_na hb, by rw [fUse_k (by decide), em], by rw [fUse_k (by decide), em], fUse_9, by rw [fUse_k (by decide), em]⟩
    rw [wup, e6, em, q4] at e3
    exact ⟨r, _, _, ws2, e3.trans (hv.trans (by rw [sFit_rT htp he.1 c0])).symm, hr, by rw [wup], hLI, fUse_0, fun _ => by show upA _ (m + 1) _ (m + 12) 0 = r; rw [upA_na _ _ _ (by omega), upI_at]⟩
  have c1 : sTld (I (o + 1)) (F o 1) = false := Bool.eq_false_iff.mpr c0
  refine ⟨1, by omega, CtH.post (fun v h1' e => ?_) ((cl_may_1 (ou := m + 12) (cx_X11_may_1 h1 h3 hS p0 ⟨t01, t02⟩ he htp9 c1 hV.2.1.1) ⟨by decide, by decide⟩ h1 hV.2.1.1.c).up (by decide))⟩
  obtain ⟨rfl, z', hz', rfl⟩ := e
  have hLs := (h.num (k := 1) (v := 0) rfl).big hz'
  have kin := h.kin hLs
  have em : upF F o 1 0 m = F m := kin.2.2.2.2.1
  refine ⟨rfl, _, _, _, _, _, _, rfl, ⟨kin.1, kin.2.1, kin.2.2.1, kin.2.2.2.1⟩, Ct.post (fun v2 h2 e2 => ?_) ((Ct.own (ct_X12_may_t1 (F := upF F o 1 0) (I := I) (w := (I (m + 1))) hw hO hTm (by rw [upF_na _ _ _ _ (fun q => by have := hL.2.2.2.2.2; omega), q4]; exact he) (by rw [upF_na _ _ _ _ (fun q => by have := hL.2.2.2.2.2; omega), q4, ← htm]; exact c1))).up (by decide))⟩
  obtain ⟨rfl, rfl⟩ := e2
  obtain ⟨ws2, hLI⟩ := (h.used (F2 := upF (fUse (upF F o 1 0) m) m 0 1) (Ib := I) (fun _ _ => rfl) ⟨fun b hb => by rw [upF_na _ _ _ _ hb, fUse_na hb], by rw [upF_nk _ _ _ _ (by decide), fUse_k (by decide), em], by rw [upF_nk _ _ _ _ (by decide), fUse_k (by decide), em], by rw [upF_nk _ _ _ _ (by decide), fUse_9], by rw [upF_nk _ _ _ _ (by decide), fUse_k (by decide), em]⟩)
  exact ⟨0, _, _, ws2, rfl, by omega, rfl, hLI.big hz', upF_at _ _ _ _, fun q => absurd q (by decide)⟩

set_option maxHeartbeats 4000000 in
set_option maxRecDepth 100000 in
theorem op_likely {E : xE} {z : Nat} {T : Nat → Nat × Int} {F : Nat → Nat → Int} {I : Nat → Int → Int} {P : Nat → Nat → Option Nat} {Y : Nat → Int → Option Nat} {o m : Nat} {ws : Nat → Option wWo} {ad adv : Nat → Nat} {sio : Option Nat} {qS v0 : Nat} {tx : String} (hV : xEnv E ad adv sio qS v0 tx) (h : LI o m z T F I P Y ws) : ∃ k : Int, (0 ≤ k ∧ k ≤ 2) ∧ CtH E 61 mL_likely [(0, 8, 11, 13)] 57 2100 [.ref o, .ref (m + 12)] (z, T, F, I, P, Y) (xH1 E o m mX12_likely [] k) := by
  obtain ⟨a, h3, hS, hI, h1, hw⟩ := h.get
  have hO := hI.1.1.1
  have hLw := hI.1.1.2.1
  have hr9 := hI.1.2.1
  have o0 := hO.2.1
  have hL := h.1
  have hu := h.2.1.1
  have h4 := h.2.2.1
  obtain ⟨hf, hc, q3, q4, q5⟩ := h.2.2.2.2.1
  obtain ⟨he, hT, htp, hTm⟩ := h.2.2.2.2.2.1
  have htp9 : ∀ j : Int, 0 ≤ j → j < F o 1 → 0 ≤ I (o + 1) j ∧ I (o + 1) j ≤ 255 := fun j a b => hT j a (by omega)
  obtain ⟨-, ⟨p0, t01, t02⟩, -⟩ := id hL.1
  have hla := hL.2.1.1 0 a (by decide) h3
  have hof : oFar o a P := ⟨by omega, fun l hl => by have := hL.2.1.2.2.1 0 a l (by decide) h3 hl; omega⟩
  have htm := sTld_rT htp he.1
  by_cases c0 : sTld (I (o + 1)) (F o 1) = true
  · refine ⟨0, by omega, CtH.post (fun v h1' e => ?_) ((cl_likely (ou := m + 12) (ct_X11_likely h1 h3 hS p0 ⟨t01, t02⟩ he htp9 hof c0) ⟨by decide, by decide⟩ h1 (fun v h' e => by
        obtain ⟨rfl, rfl⟩ := e
        exact ⟨jn _, _, _, _, _, _, _, by rw [jn_J], jn_r _, rfl, h.2.2.2.1.2.1, h.2.2.2.1.2.2⟩)).up (by decide))⟩
    obtain ⟨rfl, r, z1, T1, F1, I1, P1, Y1, hr, hp1, rfl⟩ := e
    obtain ⟨hv, hh⟩ := hp1
    cases hh
    have hLs := h.num (k := 1) (v := 0) rfl
    have kin := h.kin hLs
    have hup : ∀ b : Nat, b ≠ m + 12 → upI I (m + 12) 0 r b = I b := fun b hb => upI_na _ _ _ _ hb
    have wup : upI I (m + 12) 0 r (m + 1) = I (m + 1) := (hup _ (by omega)).trans kin.2.2.2.2.2.1
    refine ⟨rfl, _, _, _, _, _, _, rfl, ⟨kin.1, kin.2.1, kin.2.2.1, kin.2.2.2.1⟩, Ct.post (fun v2 h2 e2 => ?_) ((Ct.own (ct_X12_likely (F := (upF F o 1 0)) (I := (upI I (m + 12) 0 r)) (w := (upI I (m + 12) 0 r) (m + 1)) kin.2.1 (by rw [wup]; exact hO) (by rw [hup _ (by omega)]; exact hTm) (by rw [kin.2.2.2.2.1, q4]; exact he) (by rw [hup _ (by omega), kin.2.2.2.2.1, q4, ← htm]; exact c0))).up (by decide))⟩
    obtain ⟨e3, rfl⟩ := e2
    have em : upF F o 1 0 m = F m := kin.2.2.2.2.1
    have e6 : upI I (m + 12) 0 r (m + 6) = I (m + 6) := hup _ (by omega)
    obtain ⟨ws2, hLI⟩ := h.used (F2 := fUse (upF F o 1 0) m) (Ib := upI I (m + 12) 0 r) hup ⟨fun b hb => fUse_na hb, by rw [fUse_k (by decide), em], by rw [fUse_k (by decide), em], fUse_9, by rw [fUse_k (by decide), em]⟩
    rw [wup, e6, em, q4] at e3
    exact ⟨r, _, _, ws2, e3.trans (hv.trans (by rw [sLik_rT htp he.1 c0])).symm, hr, by rw [wup], hLI, fUse_0, fun _ => by show upA _ (m + 1) _ (m + 12) 0 = r; rw [upA_na _ _ _ (by omega), upI_at]⟩
  have c1 : sTld (I (o + 1)) (F o 1) = false := Bool.eq_false_iff.mpr c0
  refine ⟨1, by omega, CtH.post (fun v h1' e => ?_) ((cl_likely_1 (ou := m + 12) (cx_X11_likely_1 h1 h3 hS p0 ⟨t01, t02⟩ he htp9 c1 hV.2.1.1) ⟨by decide, by decide⟩ h1 hV.2.1.1.c).up (by decide))⟩
  obtain ⟨rfl, z', hz', rfl⟩ := e
  have hLs := (h.num (k := 1) (v := 0) rfl).big hz'
  have kin := h.kin hLs
  have em : upF F o 1 0 m = F m := kin.2.2.2.2.1
  refine ⟨rfl, _, _, _, _, _, _, rfl, ⟨kin.1, kin.2.1, kin.2.2.1, kin.2.2.2.1⟩, Ct.post (fun v2 h2 e2 => ?_) ((Ct.own (ct_X12_likely_t1 (F := upF F o 1 0) (I := I) (w := (I (m + 1))) hw hO hTm (by rw [upF_na _ _ _ _ (fun q => by have := hL.2.2.2.2.2; omega), q4]; exact he) (by rw [upF_na _ _ _ _ (fun q => by have := hL.2.2.2.2.2; omega), q4, ← htm]; exact c1))).up (by decide))⟩
  obtain ⟨rfl, rfl⟩ := e2
  obtain ⟨ws2, hLI⟩ := (h.used (F2 := upF (fUse (upF F o 1 0) m) m 0 1) (Ib := I) (fun _ _ => rfl) ⟨fun b hb => by rw [upF_na _ _ _ _ hb, fUse_na hb], by rw [upF_nk _ _ _ _ (by decide), fUse_k (by decide), em], by rw [upF_nk _ _ _ _ (by decide), fUse_k (by decide), em], by rw [upF_nk _ _ _ _ (by decide), fUse_9], by rw [upF_nk _ _ _ _ (by decide), fUse_k (by decide), em]⟩)
  exact ⟨0, _, _, ws2, rfl, by omega, rfl, hLI.big hz', upF_at _ _ _ _, fun q => absurd q (by decide)⟩

set_option maxHeartbeats 4000000 in
set_option maxRecDepth 100000 in
theorem op_look {E : xE} {z : Nat} {T : Nat → Nat × Int} {F : Nat → Nat → Int} {I : Nat → Int → Int} {P : Nat → Nat → Option Nat} {Y : Nat → Int → Option Nat} {o m : Nat} {ws : Nat → Option wWo} {ad adv : Nat → Nat} {sio : Option Nat} {qS v0 : Nat} {tx : String} (hV : xEnv E ad adv sio qS v0 tx) (h : LI o m z T F I P Y ws) : ∃ k : Int, (0 ≤ k ∧ k ≤ 2) ∧ CtH E 61 mL_look [(0, 8, 11, 13)] 57 2100 [.ref o, .ref (m + 12)] (z, T, F, I, P, Y) (xH1 E o m mX12_look [] k) := by
  obtain ⟨a, h3, hS, hI, h1, hw⟩ := h.get
  have hO := hI.1.1.1
  have hLw := hI.1.1.2.1
  have hr9 := hI.1.2.1
  have o0 := hO.2.1
  have hL := h.1
  have hu := h.2.1.1
  have h4 := h.2.2.1
  obtain ⟨hf, hc, q3, q4, q5⟩ := h.2.2.2.2.1
  obtain ⟨he, hT, htp, hTm⟩ := h.2.2.2.2.2.1
  have htp9 : ∀ j : Int, 0 ≤ j → j < F o 1 → 0 ≤ I (o + 1) j ∧ I (o + 1) j ≤ 255 := fun j a b => hT j a (by omega)
  obtain ⟨-, ⟨p0, t01, t02⟩, -⟩ := id hL.1
  have hla := hL.2.1.1 0 a (by decide) h3
  have hof : oFar o a P := ⟨by omega, fun l hl => by have := hL.2.1.2.2.1 0 a l (by decide) h3 hl; omega⟩
  have htm := sTld_rT htp he.1
  by_cases c0 : sTld (I (o + 1)) (F o 1) = true
  · refine ⟨0, by omega, CtH.post (fun v h1' e => ?_) ((cl_look (ou := m + 12) (ct_X11_look h1 h3 hS p0 ⟨t01, t02⟩ he htp9 hof c0) ⟨by decide, by decide⟩ h1 (fun v h' e => by
        obtain ⟨rfl, rfl⟩ := e
        exact ⟨jn _, _, _, _, _, _, _, by rw [jn_J], jn_r _, rfl, h.2.2.2.1.2.1, h.2.2.2.1.2.2⟩)).up (by decide))⟩
    obtain ⟨rfl, r, z1, T1, F1, I1, P1, Y1, hr, hp1, rfl⟩ := e
    obtain ⟨hv, hh⟩ := hp1
    cases hh
    have hLs := h.num (k := 1) (v := 0) rfl
    have kin := h.kin hLs
    have hup : ∀ b : Nat, b ≠ m + 12 → upI I (m + 12) 0 r b = I b := fun b hb => upI_na _ _ _ _ hb
    have wup : upI I (m + 12) 0 r (m + 1) = I (m + 1) := (hup _ (by omega)).trans kin.2.2.2.2.2.1
    refine ⟨rfl, _, _, _, _, _, _, rfl, ⟨kin.1, kin.2.1, kin.2.2.1, kin.2.2.2.1⟩, Ct.post (fun v2 h2 e2 => ?_) ((Ct.own (ct_X12_look (F := (upF F o 1 0)) (I := (upI I (m + 12) 0 r)) (w := (upI I (m + 12) 0 r) (m + 1)) kin.2.1 (by rw [wup]; exact hO) (by rw [hup _ (by omega)]; exact hTm) (by rw [kin.2.2.2.2.1, q4]; exact he) (by rw [hup _ (by omega), kin.2.2.2.2.1, q4, ← htm]; exact c0))).up (by decide))⟩
    obtain ⟨e3, rfl⟩ := e2
    have em : upF F o 1 0 m = F m := kin.2.2.2.2.1
    have e6 : upI I (m + 12) 0 r (m + 6) = I (m + 6) := hup _ (by omega)
    obtain ⟨ws2, hLI⟩ := h.used (F2 := fUse (upF F o 1 0) m) (Ib := upI I (m + 12) 0 r) hup ⟨fun b hb => fUse_na hb, by rw [fUse_k (by decide), em], by rw [fUse_k (by decide), em], fUse_9, by rw [fUse_k (by decide), em]⟩
    rw [wup, e6, em, q4] at e3
    exact ⟨r, _, _, ws2, e3.trans (hv.trans (by rw [sLook_rT htp he.1 c0])).symm, hr, by rw [wup], hLI, fUse_0, fun _ => by show upA _ (m + 1) _ (m + 12) 0 = r; rw [upA_na _ _ _ (by omega), upI_at]⟩
  have c1 : sTld (I (o + 1)) (F o 1) = false := Bool.eq_false_iff.mpr c0
  refine ⟨1, by omega, CtH.post (fun v h1' e => ?_) ((cl_look_1 (ou := m + 12) (cx_X11_look_1 h1 h3 hS p0 ⟨t01, t02⟩ he htp9 c1 hV.2.1.1) ⟨by decide, by decide⟩ h1 hV.2.1.1.c).up (by decide))⟩
  obtain ⟨rfl, z', hz', rfl⟩ := e
  have hLs := (h.num (k := 1) (v := 0) rfl).big hz'
  have kin := h.kin hLs
  have em : upF F o 1 0 m = F m := kin.2.2.2.2.1
  refine ⟨rfl, _, _, _, _, _, _, rfl, ⟨kin.1, kin.2.1, kin.2.2.1, kin.2.2.2.1⟩, Ct.post (fun v2 h2 e2 => ?_) ((Ct.own (ct_X12_look_t1 (F := upF F o 1 0) (I := I) (w := (I (m + 1))) hw hO hTm (by rw [upF_na _ _ _ _ (fun q => by have := hL.2.2.2.2.2; omega), q4]; exact he) (by rw [upF_na _ _ _ _ (fun q => by have := hL.2.2.2.2.2; omega), q4, ← htm]; exact c1))).up (by decide))⟩
  obtain ⟨rfl, rfl⟩ := e2
  obtain ⟨ws2, hLI⟩ := (h.used (F2 := upF (fUse (upF F o 1 0) m) m 0 1) (Ib := I) (fun _ _ => rfl) ⟨fun b hb => by rw [upF_na _ _ _ _ hb, fUse_na hb], by rw [upF_nk _ _ _ _ (by decide), fUse_k (by decide), em], by rw [upF_nk _ _ _ _ (by decide), fUse_k (by decide), em], by rw [upF_nk _ _ _ _ (by decide), fUse_9], by rw [upF_nk _ _ _ _ (by decide), fUse_k (by decide), em]⟩)
  exact ⟨0, _, _, ws2, rfl, by omega, rfl, hLI.big hz', upF_at _ _ _ _, fun q => absurd q (by decide)⟩

set_option maxHeartbeats 4000000 in
set_option maxRecDepth 100000 in
theorem op_pairs {E : xE} {z : Nat} {T : Nat → Nat × Int} {F : Nat → Nat → Int} {I : Nat → Int → Int} {P : Nat → Nat → Option Nat} {Y : Nat → Int → Option Nat} {o m : Nat} {ws : Nat → Option wWo} {ad adv : Nat → Nat} {sio : Option Nat} {qS v0 : Nat} {tx : String} (hV : xEnv E ad adv sio qS v0 tx) (h : LI o m z T F I P Y ws) {p : Int} (hp : -2147483648 ≤ p ∧ p < 2147483648) : ∃ k : Int, (0 ≤ k ∧ k ≤ 2) ∧ CtH E 61 mL_pairs [(0, 9, 12, 24)] 57 2100 [.ref o, J p, .ref (m + 12)] (z, T, F, I, P, Y) (xH1 E o m mX12_pairs [J p] k) := by
  obtain ⟨a, h3, hS, hI, h1, hw⟩ := h.get
  have hO := hI.1.1.1
  have hLw := hI.1.1.2.1
  have hr9 := hI.1.2.1
  have o0 := hO.2.1
  have hL := h.1
  have hu := h.2.1.1
  have h4 := h.2.2.1
  obtain ⟨hf, hc, q3, q4, q5⟩ := h.2.2.2.2.1
  obtain ⟨he, hT, htp, hTm⟩ := h.2.2.2.2.2.1
  by_cases c0 : p ≠ -1 ∧ ¬ (0 ≤ p ∧ p < (I (m + 1)) 0)
  · refine ⟨1, by omega, CtH.post (fun v h1' e => ?_) ((cl_pairs_1 (ou := m + 12) (cx_X11_pairs_1 h1 h3 hS hp c0 hV.2.1.2.2.1) ⟨by decide, by decide⟩ h1 hV.2.1.2.2.1.c).up (by decide))⟩
    obtain ⟨rfl, z', hz', rfl⟩ := e
    have hLs := h.rf.big hz'
    have kin := h.kin hLs
    refine ⟨rfl, _, _, _, _, _, _, rfl, ⟨kin.1, kin.2.1, kin.2.2.1, kin.2.2.2.1⟩, Ct.post (fun v2 h2 e2 => ?_) ((Ct.own (ct_X12_pairs_t1 (I := I) (w := (I (m + 1))) hw hO hp c0)).up (by decide))⟩
    obtain ⟨rfl, rfl⟩ := e2
    obtain ⟨ws2, hLI⟩ := h.ask0 hLs (t := 1) (fun _ _ _ => rfl) hu (Ib := I) (fun _ _ => rfl) xScr.rf
    exact ⟨0, _, _, ws2, rfl, by omega, rfl, hLI, upF_at _ _ _ _, fun q => absurd q (by decide)⟩
  by_cases c1 : p = -1
  · subst c1
    refine ⟨0, by omega, CtH.post (fun v h1' e => ?_) ((cl_pairs (ou := m + 12) (ct_X11_pairs_all h1 h3 hS hL.1.2.2.2.2.2.2.1 hL.1.2.2.2.2.2.2.2 (by have := hL.2.1.1 0 a (by decide) h3; omega)) ⟨by decide, by decide⟩ h1 (fun v h' e => by
        obtain ⟨rfl, I', rfl, hC'⟩ := e
        exact ⟨jn _, _, _, _, _, _, _, by rw [jn_J], jn_r _, rfl, h.2.2.2.1.2.1, h.2.2.2.1.2.2⟩)).up (by decide))⟩
    obtain ⟨rfl, r, z1, T1, F1, I1, P1, Y1, hr, hp1, rfl⟩ := e
    obtain ⟨hv, I9, hh, hC9⟩ := hp1
    cases hh
    have hLs := (h.cho hC9).2
    have kin := h.kin hLs
    have hup : ∀ b : Nat, b ≠ m + 12 → upI I1 (m + 12) 0 r b = I1 b := fun b hb => upI_na _ _ _ _ hb
    have wup : upI I1 (m + 12) 0 r (m + 1) = I (m + 1) := (hup _ (by omega)).trans kin.2.2.2.2.2.1
    refine ⟨rfl, _, _, _, _, _, _, rfl, ⟨kin.1, kin.2.1, kin.2.2.1, kin.2.2.2.1⟩, Ct.post (fun v2 h2 e2 => ?_) ((Ct.own (ct_X12_pairs_all (F := F) (I := (upI I1 (m + 12) 0 r)) (w := (upI I1 (m + 12) 0 r) (m + 1)) kin.2.1 (by rw [wup]; exact hO))).up (by decide))⟩
    obtain ⟨e3, I', hx, rfl⟩ := e2
    obtain ⟨ws2, hLI⟩ := h.ask0 hLs (t := 0) (fun _ _ _ => rfl) hu hup hx
    try rw [wup] at e3
    exact ⟨r, _, _, ws2, e3.trans hv.symm, hr, by rw [wup], hLI, upF_at _ _ _ _, fun _ => by show upA _ (m + 1) _ (m + 12) 0 = r; rw [upA_na _ _ _ (by omega), hx _ (by omega), upI_at]⟩
  by_cases c2 : 8 ≤ p
  · refine ⟨0, by omega, CtH.post (fun v h1' e => ?_) ((cl_pairs (ou := m + 12) (ct_X11_pairs_far h1 h3 hS hL.1.2.2.2.2.2.2.1 hL.1.2.2.2.2.2.2.2 (by have := hL.2.1.1 0 a (by decide) h3; omega) (by omega)) ⟨by decide, by decide⟩ h1 (fun v h' e => by
        obtain ⟨rfl, I', rfl, hC'⟩ := e
        exact ⟨jn _, _, _, _, _, _, _, by rw [jn_J], jn_r _, rfl, h.2.2.2.1.2.1, h.2.2.2.1.2.2⟩)).up (by decide))⟩
    obtain ⟨rfl, r, z1, T1, F1, I1, P1, Y1, hr, hp1, rfl⟩ := e
    obtain ⟨hv, I9, hh, hC9⟩ := hp1
    cases hh
    have hLs := (h.cho hC9).2
    have kin := h.kin hLs
    have hup : ∀ b : Nat, b ≠ m + 12 → upI I1 (m + 12) 0 r b = I1 b := fun b hb => upI_na _ _ _ _ hb
    have wup : upI I1 (m + 12) 0 r (m + 1) = I (m + 1) := (hup _ (by omega)).trans kin.2.2.2.2.2.1
    refine ⟨rfl, _, _, _, _, _, _, rfl, ⟨kin.1, kin.2.1, kin.2.2.1, kin.2.2.2.1⟩, Ct.post (fun v2 h2 e2 => ?_) ((Ct.own (ct_X12_pairs_far (F := F) (I := (upI I1 (m + 12) 0 r)) (w := (upI I1 (m + 12) 0 r) (m + 1)) kin.2.1 (by rw [wup]; exact hO) hp (by rw [wup]; exact (by omega)))).up (by decide))⟩
    obtain ⟨e3, rfl⟩ := e2
    obtain ⟨ws2, hLI⟩ := h.ask0 hLs (t := 0) (fun _ _ _ => rfl) hu hup xScr.rf
    try rw [wup] at e3
    exact ⟨r, _, _, ws2, e3.trans hv.symm, hr, by rw [wup], hLI, upF_at _ _ _ _, fun _ => by show upA _ (m + 1) _ (m + 12) 0 = r; rw [upA_na _ _ _ (by omega), upI_at]⟩
  obtain ⟨r, rfl⟩ : ∃ n : Nat, p = (n : Int) := ⟨p.toNat, by omega⟩
  have hrP : r < nP (I (m + 1)) := by unfold nP wN; omega
  refine ⟨0, by omega, CtH.post (fun v h1' e => ?_) ((cl_pairs (ou := m + 12) (ct_X11_pairs h1 h3 hS hL.1.2.2.2.2.2.2.1 hL.1.2.2.2.2.2.2.2 (by have := hL.2.1.1 0 a (by decide) h3; omega) hrP) ⟨by decide, by decide⟩ h1 (fun v h' e => by
      obtain ⟨rfl, I', rfl, hC'⟩ := e
      exact ⟨jn _, _, _, _, _, _, _, by rw [jn_J], jn_r _, rfl, h.2.2.2.1.2.1, h.2.2.2.1.2.2⟩)).up (by decide))⟩
  obtain ⟨rfl, r, z1, T1, F1, I1, P1, Y1, hr, hp1, rfl⟩ := e
  obtain ⟨hv, I9, hh, hC9⟩ := hp1
  cases hh
  have hLs := (h.cho hC9).2
  have kin := h.kin hLs
  have hup : ∀ b : Nat, b ≠ m + 12 → upI I1 (m + 12) 0 r b = I1 b := fun b hb => upI_na _ _ _ _ hb
  have wup : upI I1 (m + 12) 0 r (m + 1) = I (m + 1) := (hup _ (by omega)).trans kin.2.2.2.2.2.1
  refine ⟨rfl, _, _, _, _, _, _, rfl, ⟨kin.1, kin.2.1, kin.2.2.1, kin.2.2.2.1⟩, Ct.post (fun v2 h2 e2 => ?_) ((Ct.own (ct_X12_pairs (F := F) (I := (upI I1 (m + 12) 0 r)) (w := (upI I1 (m + 12) 0 r) (m + 1)) kin.2.1 (by rw [wup]; exact hO) (by rw [wup]; exact ⟨by omega, by omega⟩))).up (by decide))⟩
  obtain ⟨e3, I', hx, rfl⟩ := e2
  obtain ⟨ws2, hLI⟩ := h.ask0 hLs (t := 0) (fun _ _ _ => rfl) hu hup hx
  try rw [wup] at e3
  exact ⟨r, _, _, ws2, e3.trans hv.symm, hr, by rw [wup], hLI, upF_at _ _ _ _, fun _ => by show upA _ (m + 1) _ (m + 12) 0 = r; rw [upA_na _ _ _ (by omega), hx _ (by omega), upI_at]⟩

set_option maxHeartbeats 4000000 in
set_option maxRecDepth 100000 in
theorem op_odds {E : xE} {z : Nat} {T : Nat → Nat × Int} {F : Nat → Nat → Int} {I : Nat → Int → Int} {P : Nat → Nat → Option Nat} {Y : Nat → Int → Option Nat} {o m : Nat} {ws : Nat → Option wWo} {ad adv : Nat → Nat} {sio : Option Nat} {qS v0 : Nat} {tx : String} (hV : xEnv E ad adv sio qS v0 tx) (h : LI o m z T F I P Y ws) {p : Int} (hp : -2147483648 ≤ p ∧ p < 2147483648) : ∃ k : Int, (0 ≤ k ∧ k ≤ 2) ∧ CtH E 61 mL_odds [(0, 9, 12, 13)] 57 2100 [.ref o, J p, .ref (m + 12)] (z, T, F, I, P, Y) (xH1 E o m mX12_odds [J p] k) := by
  obtain ⟨a, h3, hS, hI, h1, hw⟩ := h.get
  have hO := hI.1.1.1
  have hLw := hI.1.1.2.1
  have hr9 := hI.1.2.1
  have o0 := hO.2.1
  have hL := h.1
  have hu := h.2.1.1
  have h4 := h.2.2.1
  obtain ⟨hf, hc, q3, q4, q5⟩ := h.2.2.2.2.1
  obtain ⟨he, hT, htp, hTm⟩ := h.2.2.2.2.2.1
  by_cases c0 : ¬ (0 ≤ p ∧ p ≤ 5)
  · refine ⟨1, by omega, CtH.post (fun v h1' e => ?_) ((cl_odds_1 (ou := m + 12) (cx_X11_odds_1 h1 h3 hS hp c0 hV.2.1.1) ⟨by decide, by decide⟩ h1 hV.2.1.1.c).up (by decide))⟩
    obtain ⟨rfl, z', hz', rfl⟩ := e
    have hLs := h.rf.big hz'
    have kin := h.kin hLs
    refine ⟨rfl, _, _, _, _, _, _, rfl, ⟨kin.1, kin.2.1, kin.2.2.1, kin.2.2.2.1⟩, Ct.post (fun v2 h2 e2 => ?_) ((Ct.own (ct_X12_odds_t1 (I := I) (w := (I (m + 1))) hw hO hp c0)).up (by decide))⟩
    obtain ⟨rfl, rfl⟩ := e2
    obtain ⟨ws2, hLI⟩ := h.ask0 hLs (t := 1) (fun _ _ _ => rfl) hu (Ib := I) (fun _ _ => rfl) xScr.rf
    exact ⟨0, _, _, ws2, rfl, by omega, rfl, hLI, upF_at _ _ _ _, fun q => absurd q (by decide)⟩
  obtain ⟨n, rfl⟩ : ∃ n : Nat, p = (n : Int) := ⟨p.toNat, by omega⟩
  refine ⟨0, by omega, CtH.post (fun v h1' e => ?_) ((cl_odds (ou := m + 12) (ct_X11_odds h1 h3 hS (by omega)) ⟨by decide, by decide⟩ h1 (fun v h' e => by
      obtain ⟨rfl, rfl⟩ := e
      exact ⟨jn _, _, _, _, _, _, _, by rw [jn_J], jn_r _, rfl, h.2.2.2.1.2.1, h.2.2.2.1.2.2⟩)).up (by decide))⟩
  obtain ⟨rfl, r, z1, T1, F1, I1, P1, Y1, hr, hp1, rfl⟩ := e
  obtain ⟨hv, hh⟩ := hp1
  cases hh
  have hLs := h.rf
  have kin := h.kin hLs
  have hup : ∀ b : Nat, b ≠ m + 12 → upI I (m + 12) 0 r b = I b := fun b hb => upI_na _ _ _ _ hb
  have wup : upI I (m + 12) 0 r (m + 1) = I (m + 1) := (hup _ (by omega)).trans kin.2.2.2.2.2.1
  refine ⟨rfl, _, _, _, _, _, _, rfl, ⟨kin.1, kin.2.1, kin.2.2.1, kin.2.2.2.1⟩, Ct.post (fun v2 h2 e2 => ?_) ((Ct.own (ct_X12_odds (F := F) (I := (upI I (m + 12) 0 r)) (w := (upI I (m + 12) 0 r) (m + 1)) kin.2.1 (by rw [wup]; exact hO) (by omega))).up (by decide))⟩
  obtain ⟨e3, rfl⟩ := e2
  obtain ⟨ws2, hLI⟩ := h.ask0 hLs (t := 0) (fun _ _ _ => rfl) hu hup xScr.rf
  try rw [wup] at e3
  exact ⟨r, _, _, ws2, e3.trans hv.symm, hr, by rw [wup], hLI, upF_at _ _ _ _, fun _ => by show upA _ (m + 1) _ (m + 12) 0 = r; rw [upA_na _ _ _ (by omega), upI_at]⟩

set_option maxHeartbeats 4000000 in
set_option maxRecDepth 100000 in
theorem op_most {E : xE} {z : Nat} {T : Nat → Nat × Int} {F : Nat → Nat → Int} {I : Nat → Int → Int} {P : Nat → Nat → Option Nat} {Y : Nat → Int → Option Nat} {o m : Nat} {ws : Nat → Option wWo} {ad adv : Nat → Nat} {sio : Option Nat} {qS v0 : Nat} {tx : String} (hV : xEnv E ad adv sio qS v0 tx) (h : LI o m z T F I P Y ws) {p : Int} (hp : -2147483648 ≤ p ∧ p < 2147483648) : ∃ k : Int, (0 ≤ k ∧ k ≤ 2) ∧ CtH E 61 mL_most [(0, 9, 12, 26)] 57 2100 [.ref o, J p, .ref (m + 12)] (z, T, F, I, P, Y) (xH1 E o m mX12_most [J p] k) := by
  obtain ⟨a, h3, hS, hI, h1, hw⟩ := h.get
  have hO := hI.1.1.1
  have hLw := hI.1.1.2.1
  have hr9 := hI.1.2.1
  have o0 := hO.2.1
  have hL := h.1
  have hu := h.2.1.1
  have h4 := h.2.2.1
  obtain ⟨hf, hc, q3, q4, q5⟩ := h.2.2.2.2.1
  obtain ⟨he, hT, htp, hTm⟩ := h.2.2.2.2.2.1
  by_cases c0 : ¬ (0 ≤ p ∧ p ≤ 1)
  · refine ⟨1, by omega, CtH.post (fun v h1' e => ?_) ((cl_most_1 (ou := m + 12) (cx_X11_most_1 h1 h3 hS hp c0 hV.2.1.2.2.2.1) ⟨by decide, by decide⟩ h1 hV.2.1.2.2.2.1.c).up (by decide))⟩
    obtain ⟨rfl, z', hz', rfl⟩ := e
    have hLs := h.rf.big hz'
    have kin := h.kin hLs
    refine ⟨rfl, _, _, _, _, _, _, rfl, ⟨kin.1, kin.2.1, kin.2.2.1, kin.2.2.2.1⟩, Ct.post (fun v2 h2 e2 => ?_) ((Ct.own (ct_X12_most_t1 (I := I) (w := (I (m + 1))) hw hO hp c0)).up (by decide))⟩
    obtain ⟨rfl, rfl⟩ := e2
    obtain ⟨ws2, hLI⟩ := h.ask0 hLs (t := 1) (fun _ _ _ => rfl) hu (Ib := I) (fun _ _ => rfl) xScr.rf
    exact ⟨0, _, _, ws2, rfl, by omega, rfl, hLI, upF_at _ _ _ _, fun q => absurd q (by decide)⟩
  refine ⟨0, by omega, CtH.post (fun v h1' e => ?_) ((cl_most (ou := m + 12) (ct_X11_most h1 h3 hS hr9 (by omega)) ⟨by decide, by decide⟩ h1 (fun v h' e => by
      obtain ⟨rfl, rfl⟩ := e
      exact ⟨jn _, _, _, _, _, _, _, by rw [jn_J], jn_r _, rfl, h.2.2.2.1.2.1, h.2.2.2.1.2.2⟩)).up (by decide))⟩
  obtain ⟨rfl, r, z1, T1, F1, I1, P1, Y1, hr, hp1, rfl⟩ := e
  obtain ⟨hv, hh⟩ := hp1
  cases hh
  have hLs := h.rf
  have kin := h.kin hLs
  have hup : ∀ b : Nat, b ≠ m + 12 → upI I (m + 12) 0 r b = I b := fun b hb => upI_na _ _ _ _ hb
  have wup : upI I (m + 12) 0 r (m + 1) = I (m + 1) := (hup _ (by omega)).trans kin.2.2.2.2.2.1
  refine ⟨rfl, _, _, _, _, _, _, rfl, ⟨kin.1, kin.2.1, kin.2.2.1, kin.2.2.2.1⟩, Ct.post (fun v2 h2 e2 => ?_) ((Ct.own (ct_X12_most (F := F) (I := (upI I (m + 12) 0 r)) (w := (upI I (m + 12) 0 r) (m + 1)) kin.2.1 (by rw [wup]; exact hO) (by omega))).up (by decide))⟩
  obtain ⟨e3, rfl⟩ := e2
  obtain ⟨ws2, hLI⟩ := h.ask0 hLs (t := 0) (fun _ _ _ => rfl) hu hup xScr.rf
  try rw [wup] at e3
  exact ⟨r, _, _, ws2, e3.trans hv.symm, hr, by rw [wup], hLI, upF_at _ _ _ _, fun _ => by show upA _ (m + 1) _ (m + 12) 0 = r; rw [upA_na _ _ _ (by omega), upI_at]⟩

set_option maxHeartbeats 4000000 in
set_option maxRecDepth 100000 in
theorem op_ahead {E : xE} {z : Nat} {T : Nat → Nat × Int} {F : Nat → Nat → Int} {I : Nat → Int → Int} {P : Nat → Nat → Option Nat} {Y : Nat → Int → Option Nat} {o m : Nat} {ws : Nat → Option wWo} {ad adv : Nat → Nat} {sio : Option Nat} {qS v0 : Nat} {tx : String} (hV : xEnv E ad adv sio qS v0 tx) (h : LI o m z T F I P Y ws) {p : Int} (hp : -2147483648 ≤ p ∧ p < 2147483648) {bb : Bool} : ∃ k : Int, (0 ≤ k ∧ k ≤ 2) ∧ CtH E 61 mL_ahead [(0, 10, 13, 13)] 57 2100 [.ref o, J p, J (bI bb), .ref (m + 12)] (z, T, F, I, P, Y) (xH1 E o m mX12_ahead [J p, J (bI bb)] k) := by
  obtain ⟨a, h3, hS, hI, h1, hw⟩ := h.get
  have hO := hI.1.1.1
  have hLw := hI.1.1.2.1
  have hr9 := hI.1.2.1
  have o0 := hO.2.1
  have hL := h.1
  have hu := h.2.1.1
  have h4 := h.2.2.1
  obtain ⟨hf, hc, q3, q4, q5⟩ := h.2.2.2.2.1
  obtain ⟨he, hT, htp, hTm⟩ := h.2.2.2.2.2.1
  by_cases c0 : ¬ (0 ≤ p ∧ p ≤ 60)
  · refine ⟨1, by omega, CtH.post (fun v h1' e => ?_) ((cl_ahead_1 (ou := m + 12) (cx_X11_ahead_1 h1 h3 hS hp c0 hV.2.1.1) ⟨by decide, by decide⟩ h1 hV.2.1.1.c).up (by decide))⟩
    obtain ⟨rfl, z', hz', rfl⟩ := e
    have hLs := h.rf.big hz'
    have kin := h.kin hLs
    refine ⟨rfl, _, _, _, _, _, _, rfl, ⟨kin.1, kin.2.1, kin.2.2.1, kin.2.2.2.1⟩, Ct.post (fun v2 h2 e2 => ?_) ((Ct.own (ct_X12_ahead_t1 (I := I) (w := (I (m + 1))) hw hO hp c0)).up (by decide))⟩
    obtain ⟨rfl, rfl⟩ := e2
    obtain ⟨ws2, hLI⟩ := h.ask0 hLs (t := 1) (fun _ _ _ => rfl) hu (Ib := I) (fun _ _ => rfl) xScr.rf
    exact ⟨0, _, _, ws2, rfl, by omega, rfl, hLI, upF_at _ _ _ _, fun q => absurd q (by decide)⟩
  obtain ⟨n, rfl⟩ : ∃ n : Nat, p = (n : Int) := ⟨p.toNat, by omega⟩
  obtain ⟨b4, h4b⟩ := h4
  refine ⟨0, by omega, CtH.post (fun v h1' e => ?_) ((cl_ahead (ou := m + 12) (ct_X11_ahead hL h3 h4b hu (by omega)) ⟨by decide, by decide⟩ h1 (fun v h' e => by
      obtain ⟨ws1, z', T', F', I', P', Y', hw1, rfl, rfl, hLs⟩ := h.sp e
      have kin := h.kin hLs
      exact ⟨jn _, _, _, _, _, _, _, by rw [jn_J], jn_r _, rfl, kin.2.2.1, kin.2.2.2.1⟩)).up (by decide))⟩
  obtain ⟨rfl, r, z1, T1, F1, I1, P1, Y1, hr, hp1, rfl⟩ := e
  obtain ⟨ws1, z9, T9, F9, I9, P9, Y9, hw1, hv, hh, hLs⟩ := h.sp hp1
  cases hh
  have kin := h.kin hLs
  have hup : ∀ b : Nat, b ≠ m + 12 → upI I1 (m + 12) 0 r b = I1 b := fun b hb => upI_na _ _ _ _ hb
  have wup : upI I1 (m + 12) 0 r (m + 1) = I (m + 1) := (hup _ (by omega)).trans kin.2.2.2.2.2.1
  refine ⟨rfl, _, _, _, _, _, _, rfl, ⟨kin.1, kin.2.1, kin.2.2.1, kin.2.2.2.1⟩, Ct.post (fun v2 h2 e2 => ?_) ((Ct.own (ct_X12_ahead (F := F1) (I := (upI I1 (m + 12) 0 r)) (w := (upI I1 (m + 12) 0 r) (m + 1)) kin.2.1 (by rw [wup]; exact hO) (by rw [wup]; exact hLw) (by omega) (by rw [wup]; exact (sGoS_all (wI2_s15 hI (by omega)) n)))).up (by decide))⟩
  obtain ⟨e3, I', hx4, rfl⟩ := e2
  obtain ⟨ws2, hLI⟩ := h.keep4 hLs (fun s a b => hw1 s b) ((hw1 0 (by decide)).trans hu) hup hx4 (t := 0)
  try rw [wup] at e3
  exact ⟨r, _, _, ws2, e3.trans hv.symm, hr, by rw [wup], hLI, upF_at _ _ _ _, fun _ => by show upA _ (m + 1) _ (m + 12) 0 = r; rw [upA_na _ _ _ (by omega), hx4 _ (by omega), upA_na _ _ _ (by omega), upI_at]⟩

set_option maxHeartbeats 4000000 in
set_option maxRecDepth 100000 in
theorem op_trial {E : xE} {z : Nat} {T : Nat → Nat × Int} {F : Nat → Nat → Int} {I : Nat → Int → Int} {P : Nat → Nat → Option Nat} {Y : Nat → Int → Option Nat} {o m : Nat} {ws : Nat → Option wWo} {ad adv : Nat → Nat} {sio : Option Nat} {qS v0 : Nat} {tx : String} (hV : xEnv E ad adv sio qS v0 tx) (h : LI o m z T F I P Y ws) {p : Int} (hp : -2147483648 ≤ p ∧ p < 2147483648) {bb : Bool} : ∃ k : Int, (0 ≤ k ∧ k ≤ 2) ∧ CtH E 61 mL_trial [(0, 10, 13, 13)] 57 2100 [.ref o, J p, J (bI bb), .ref (m + 12)] (z, T, F, I, P, Y) (xH1 E o m mX12_trial [J p, J (bI bb)] k) := by
  obtain ⟨a, h3, hS, hI, h1, hw⟩ := h.get
  have hO := hI.1.1.1
  have hLw := hI.1.1.2.1
  have hr9 := hI.1.2.1
  have o0 := hO.2.1
  have hL := h.1
  have hu := h.2.1.1
  have h4 := h.2.2.1
  obtain ⟨hf, hc, q3, q4, q5⟩ := h.2.2.2.2.1
  obtain ⟨he, hT, htp, hTm⟩ := h.2.2.2.2.2.1
  by_cases c0 : ¬ (0 ≤ p ∧ p ≤ 60)
  · refine ⟨1, by omega, CtH.post (fun v h1' e => ?_) ((cl_trial_1 (ou := m + 12) (cx_X11_trial_1 h1 h3 hS hp c0 hV.2.1.1) ⟨by decide, by decide⟩ h1 hV.2.1.1.c).up (by decide))⟩
    obtain ⟨rfl, z', hz', rfl⟩ := e
    have hLs := h.rf.big hz'
    have kin := h.kin hLs
    refine ⟨rfl, _, _, _, _, _, _, rfl, ⟨kin.1, kin.2.1, kin.2.2.1, kin.2.2.2.1⟩, Ct.post (fun v2 h2 e2 => ?_) ((Ct.own (ct_X12_trial_t1 (I := I) (w := (I (m + 1))) hw hO hp c0)).up (by decide))⟩
    obtain ⟨rfl, rfl⟩ := e2
    obtain ⟨ws2, hLI⟩ := h.ask0 hLs (t := 1) (fun _ _ _ => rfl) hu (Ib := I) (fun _ _ => rfl) xScr.rf
    exact ⟨0, _, _, ws2, rfl, by omega, rfl, hLI, upF_at _ _ _ _, fun q => absurd q (by decide)⟩
  obtain ⟨n, rfl⟩ : ∃ n : Nat, p = (n : Int) := ⟨p.toNat, by omega⟩
  obtain ⟨b4, h4b⟩ := h4
  refine ⟨0, by omega, CtH.post (fun v h1' e => ?_) ((cl_trial (ou := m + 12) (ct_X11_trial hL h3 h4b hu (by omega)) ⟨by decide, by decide⟩ h1 (fun v h' e => by
      obtain ⟨ws1, z', T', F', I', P', Y', hw1, rfl, rfl, hLs⟩ := h.sp e
      have kin := h.kin hLs
      exact ⟨jn _, _, _, _, _, _, _, by rw [jn_J], jn_r _, rfl, kin.2.2.1, kin.2.2.2.1⟩)).up (by decide))⟩
  obtain ⟨rfl, r, z1, T1, F1, I1, P1, Y1, hr, hp1, rfl⟩ := e
  obtain ⟨ws1, z9, T9, F9, I9, P9, Y9, hw1, hv, hh, hLs⟩ := h.sp hp1
  cases hh
  have kin := h.kin hLs
  have hup : ∀ b : Nat, b ≠ m + 12 → upI I1 (m + 12) 0 r b = I1 b := fun b hb => upI_na _ _ _ _ hb
  have wup : upI I1 (m + 12) 0 r (m + 1) = I (m + 1) := (hup _ (by omega)).trans kin.2.2.2.2.2.1
  refine ⟨rfl, _, _, _, _, _, _, rfl, ⟨kin.1, kin.2.1, kin.2.2.1, kin.2.2.2.1⟩, Ct.post (fun v2 h2 e2 => ?_) ((Ct.own (ct_X12_trial (F := F1) (I := (upI I1 (m + 12) 0 r)) (w := (upI I1 (m + 12) 0 r) (m + 1)) kin.2.1 (by rw [wup]; exact hO) (by rw [wup]; exact hLw) (by omega) (by rw [wup]; exact (sGoS_all hI n)))).up (by decide))⟩
  obtain ⟨e3, I', hx4, rfl⟩ := e2
  obtain ⟨ws2, hLI⟩ := h.keep4 hLs (fun s a b => hw1 s b) ((hw1 0 (by decide)).trans hu) hup hx4 (t := 0)
  try rw [wup] at e3
  exact ⟨r, _, _, ws2, e3.trans hv.symm, hr, by rw [wup], hLI, upF_at _ _ _ _, fun _ => by show upA _ (m + 1) _ (m + 12) 0 = r; rw [upA_na _ _ _ (by omega), hx4 _ (by omega), upA_na _ _ _ (by omega), upI_at]⟩

set_option maxHeartbeats 4000000 in
set_option maxRecDepth 100000 in
theorem op_span {E : xE} {z : Nat} {T : Nat → Nat × Int} {F : Nat → Nat → Int} {I : Nat → Int → Int} {P : Nat → Nat → Option Nat} {Y : Nat → Int → Option Nat} {o m : Nat} {ws : Nat → Option wWo} {ad adv : Nat → Nat} {sio : Option Nat} {qS v0 : Nat} {tx : String} (hV : xEnv E ad adv sio qS v0 tx) (h : LI o m z T F I P Y ws) {p : Int} (hp : -2147483648 ≤ p ∧ p < 2147483648) {bb : Bool} : ∃ k : Int, (0 ≤ k ∧ k ≤ 2) ∧ CtH E 61 mL_span [(0, 10, 13, 13)] 57 2100 [.ref o, J p, J (bI bb), .ref (m + 12)] (z, T, F, I, P, Y) (xH1 E o m mX12_span [J p, J (bI bb)] k) := by
  obtain ⟨a, h3, hS, hI, h1, hw⟩ := h.get
  have hO := hI.1.1.1
  have hLw := hI.1.1.2.1
  have hr9 := hI.1.2.1
  have o0 := hO.2.1
  have hL := h.1
  have hu := h.2.1.1
  have h4 := h.2.2.1
  obtain ⟨hf, hc, q3, q4, q5⟩ := h.2.2.2.2.1
  obtain ⟨he, hT, htp, hTm⟩ := h.2.2.2.2.2.1
  by_cases c0 : ¬ (0 ≤ p ∧ p ≤ 60)
  · refine ⟨1, by omega, CtH.post (fun v h1' e => ?_) ((cl_span_1 (ou := m + 12) (cx_X11_span_1 h1 h3 hS hp c0 hV.2.1.1) ⟨by decide, by decide⟩ h1 hV.2.1.1.c).up (by decide))⟩
    obtain ⟨rfl, z', hz', rfl⟩ := e
    have hLs := h.rf.big hz'
    have kin := h.kin hLs
    refine ⟨rfl, _, _, _, _, _, _, rfl, ⟨kin.1, kin.2.1, kin.2.2.1, kin.2.2.2.1⟩, Ct.post (fun v2 h2 e2 => ?_) ((Ct.own (ct_X12_span_t1 (I := I) (w := (I (m + 1))) hw hO hp c0)).up (by decide))⟩
    obtain ⟨rfl, rfl⟩ := e2
    obtain ⟨ws2, hLI⟩ := h.ask0 hLs (t := 1) (fun _ _ _ => rfl) hu (Ib := I) (fun _ _ => rfl) xScr.rf
    exact ⟨0, _, _, ws2, rfl, by omega, rfl, hLI, upF_at _ _ _ _, fun q => absurd q (by decide)⟩
  obtain ⟨n, rfl⟩ : ∃ n : Nat, p = (n : Int) := ⟨p.toNat, by omega⟩
  obtain ⟨b4, h4b⟩ := h4
  refine ⟨0, by omega, CtH.post (fun v h1' e => ?_) ((cl_span (ou := m + 12) (ct_X11_span hL h3 h4b hu (by omega) h.ten) ⟨by decide, by decide⟩ h1 (fun v h' e => by
      obtain ⟨ws1, z', T', F', I', P', Y', hw1, rfl, rfl, hLs⟩ := h.sp e
      have kin := h.kin hLs
      exact ⟨jn _, _, _, _, _, _, _, by rw [jn_J], jn_r _, rfl, kin.2.2.1, kin.2.2.2.1⟩)).up (by decide))⟩
  obtain ⟨rfl, r, z1, T1, F1, I1, P1, Y1, hr, hp1, rfl⟩ := e
  obtain ⟨ws1, z9, T9, F9, I9, P9, Y9, hw1, hv, hh, hLs⟩ := h.sp hp1
  cases hh
  have kin := h.kin hLs
  have hup : ∀ b : Nat, b ≠ m + 12 → upI I1 (m + 12) 0 r b = I1 b := fun b hb => upI_na _ _ _ _ hb
  have wup : upI I1 (m + 12) 0 r (m + 1) = I (m + 1) := (hup _ (by omega)).trans kin.2.2.2.2.2.1
  refine ⟨rfl, _, _, _, _, _, _, rfl, ⟨kin.1, kin.2.1, kin.2.2.1, kin.2.2.2.1⟩, Ct.post (fun v2 h2 e2 => ?_) ((Ct.own (ct_X12_span (F := F1) (I := (upI I1 (m + 12) 0 r)) (w := (upI I1 (m + 12) 0 r) (m + 1)) kin.2.1 (by rw [wup]; exact hO) (by rw [wup]; exact hLw) (by omega) (by rw [wup]; exact (fun k hk => sGoS_all (wI2_s15 hI (by omega)) n)))).up (by decide))⟩
  obtain ⟨e3, I', hx4, rfl⟩ := e2
  obtain ⟨ws2, hLI⟩ := h.keep4 hLs (fun s a b => hw1 s b) ((hw1 0 (by decide)).trans hu) hup hx4 (t := 0)
  try rw [wup] at e3
  exact ⟨r, _, _, ws2, e3.trans hv.symm, hr, by rw [wup], hLI, upF_at _ _ _ _, fun _ => by show upA _ (m + 1) _ (m + 12) 0 = r; rw [upA_na _ _ _ (by omega), hx4 _ (by omega), upA_na _ _ _ (by omega), upI_at]⟩

set_option maxHeartbeats 4000000 in
set_option maxRecDepth 100000 in
theorem op_led {E : xE} {z : Nat} {T : Nat → Nat × Int} {F : Nat → Nat → Int} {I : Nat → Int → Int} {P : Nat → Nat → Option Nat} {Y : Nat → Int → Option Nat} {o m : Nat} {ws : Nat → Option wWo} {ad adv : Nat → Nat} {sio : Option Nat} {qS v0 : Nat} {tx : String} (hV : xEnv E ad adv sio qS v0 tx) (h : LI o m z T F I P Y ws) {p : Int} (hp : -2147483648 ≤ p ∧ p < 2147483648) {bb : Bool} : ∃ k : Int, (0 ≤ k ∧ k ≤ 2) ∧ CtH E 61 mL_led [(0, 10, 13, 26)] 57 2100 [.ref o, J p, J (bI bb), .ref (m + 12)] (z, T, F, I, P, Y) (xH1 E o m mX12_led [J p, J (bI bb)] k) := by
  obtain ⟨a, h3, hS, hI, h1, hw⟩ := h.get
  have hO := hI.1.1.1
  have hLw := hI.1.1.2.1
  have hr9 := hI.1.2.1
  have o0 := hO.2.1
  have hL := h.1
  have hu := h.2.1.1
  have h4 := h.2.2.1
  obtain ⟨hf, hc, q3, q4, q5⟩ := h.2.2.2.2.1
  obtain ⟨he, hT, htp, hTm⟩ := h.2.2.2.2.2.1
  by_cases c0 : ¬ (0 ≤ p ∧ p ≤ 3)
  · refine ⟨1, by omega, CtH.post (fun v h1' e => ?_) ((cl_led_1 (ou := m + 12) (cx_X11_led_1 h1 h3 hS hp c0 hV.2.1.2.2.2.1) ⟨by decide, by decide⟩ h1 hV.2.1.2.2.2.1.c).up (by decide))⟩
    obtain ⟨rfl, z', hz', rfl⟩ := e
    have hLs := h.rf.big hz'
    have kin := h.kin hLs
    refine ⟨rfl, _, _, _, _, _, _, rfl, ⟨kin.1, kin.2.1, kin.2.2.1, kin.2.2.2.1⟩, Ct.post (fun v2 h2 e2 => ?_) ((Ct.own (ct_X12_led_t1 (I := I) (w := (I (m + 1))) hw hO hp c0)).up (by decide))⟩
    obtain ⟨rfl, rfl⟩ := e2
    obtain ⟨ws2, hLI⟩ := h.ask0 hLs (t := 1) (fun _ _ _ => rfl) hu (Ib := I) (fun _ _ => rfl) xScr.rf
    exact ⟨0, _, _, ws2, rfl, by omega, rfl, hLI, upF_at _ _ _ _, fun q => absurd q (by decide)⟩
  refine ⟨0, by omega, CtH.post (fun v h1' e => ?_) ((cl_led (ou := m + 12) (ct_X11_led2 h1 h3 hS (by omega)) ⟨by decide, by decide⟩ h1 (fun v h' e => by
      obtain ⟨rfl, rfl⟩ := e
      exact ⟨jn _, _, _, _, _, _, _, by rw [jn_J], jn_r _, rfl, h.2.2.2.1.2.1, h.2.2.2.1.2.2⟩)).up (by decide))⟩
  obtain ⟨rfl, r, z1, T1, F1, I1, P1, Y1, hr, hp1, rfl⟩ := e
  obtain ⟨hv, hh⟩ := hp1
  cases hh
  have hLs := h.rf
  have kin := h.kin hLs
  have hup : ∀ b : Nat, b ≠ m + 12 → upI I (m + 12) 0 r b = I b := fun b hb => upI_na _ _ _ _ hb
  have wup : upI I (m + 12) 0 r (m + 1) = I (m + 1) := (hup _ (by omega)).trans kin.2.2.2.2.2.1
  refine ⟨rfl, _, _, _, _, _, _, rfl, ⟨kin.1, kin.2.1, kin.2.2.1, kin.2.2.2.1⟩, Ct.post (fun v2 h2 e2 => ?_) ((Ct.own (ct_X12_led (F := F) (I := (upI I (m + 12) 0 r)) (w := (upI I (m + 12) 0 r) (m + 1)) kin.2.1 (by rw [wup]; exact hO) (by omega))).up (by decide))⟩
  obtain ⟨e3, rfl⟩ := e2
  obtain ⟨ws2, hLI⟩ := h.ask0 hLs (t := 0) (fun _ _ _ => rfl) hu hup xScr.rf
  try rw [wup] at e3
  exact ⟨r, _, _, ws2, e3.trans hv.symm, hr, by rw [wup], hLI, upF_at _ _ _ _, fun _ => by show upA _ (m + 1) _ (m + 12) 0 = r; rw [upA_na _ _ _ (by omega), upI_at]⟩

set_option maxHeartbeats 4000000 in
set_option maxRecDepth 100000 in
theorem op_log {E : xE} {z : Nat} {T : Nat → Nat × Int} {F : Nat → Nat → Int} {I : Nat → Int → Int} {P : Nat → Nat → Option Nat} {Y : Nat → Int → Option Nat} {o m : Nat} {ws : Nat → Option wWo} {ad adv : Nat → Nat} {sio : Option Nat} {qS v0 : Nat} {tx : String} (hV : xEnv E ad adv sio qS v0 tx) (h : LI o m z T F I P Y ws) {p : Int} (hp : -2147483648 ≤ p ∧ p < 2147483648) {q : Int} (hq : -2147483648 ≤ q ∧ q < 2147483648) : ∃ k : Int, (0 ≤ k ∧ k ≤ 2) ∧ CtH E 61 mL_log [(0, 10, 13, 26)] 57 2100 [.ref o, J p, J q, .ref (m + 12)] (z, T, F, I, P, Y) (xH1 E o m mX12_log [J p, J q] k) := by
  obtain ⟨a, h3, hS, hI, h1, hw⟩ := h.get
  have hO := hI.1.1.1
  have hLw := hI.1.1.2.1
  have hr9 := hI.1.2.1
  have o0 := hO.2.1
  have hL := h.1
  have hu := h.2.1.1
  have h4 := h.2.2.1
  obtain ⟨hf, hc, q3, q4, q5⟩ := h.2.2.2.2.1
  obtain ⟨he, hT, htp, hTm⟩ := h.2.2.2.2.2.1
  by_cases c0 : ¬ (0 ≤ q ∧ q ≤ 3)
  · refine ⟨1, by omega, CtH.post (fun v h1' e => ?_) ((cl_log_1 (ou := m + 12) (cx_X11_log_1 h1 h3 hS hp hq c0 hV.2.1.2.2.2.1) ⟨by decide, by decide⟩ h1 hV.2.1.2.2.2.1.c).up (by decide))⟩
    obtain ⟨rfl, z', hz', rfl⟩ := e
    have hLs := h.rf.big hz'
    have kin := h.kin hLs
    refine ⟨rfl, _, _, _, _, _, _, rfl, ⟨kin.1, kin.2.1, kin.2.2.1, kin.2.2.2.1⟩, Ct.post (fun v2 h2 e2 => ?_) ((Ct.own (ct_X12_log_t1 (I := I) (w := (I (m + 1))) hw hO hp hq c0)).up (by decide))⟩
    obtain ⟨rfl, rfl⟩ := e2
    obtain ⟨ws2, hLI⟩ := h.ask0 hLs (t := 1) (fun _ _ _ => rfl) hu (Ib := I) (fun _ _ => rfl) xScr.rf
    exact ⟨0, _, _, ws2, rfl, by omega, rfl, hLI, upF_at _ _ _ _, fun q => absurd q (by decide)⟩
  obtain ⟨x, rfl⟩ : ∃ n : Nat, q = (n : Int) := ⟨q.toNat, by omega⟩
  refine ⟨0, by omega, CtH.post (fun v h1' e => ?_) ((cl_log (ou := m + 12) (ct_X11_log h1 h3 hS hp (by omega)) ⟨by decide, by decide⟩ h1 (fun v h' e => by
      obtain ⟨rfl, rfl⟩ := e
      exact ⟨jn _, _, _, _, _, _, _, by rw [jn_J], jn_r _, rfl, h.2.2.2.1.2.1, h.2.2.2.1.2.2⟩)).up (by decide))⟩
  obtain ⟨rfl, r, z1, T1, F1, I1, P1, Y1, hr, hp1, rfl⟩ := e
  obtain ⟨hv, hh⟩ := hp1
  cases hh
  have hLs := h.rf
  have kin := h.kin hLs
  have hup : ∀ b : Nat, b ≠ m + 12 → upI I (m + 12) 0 r b = I b := fun b hb => upI_na _ _ _ _ hb
  have wup : upI I (m + 12) 0 r (m + 1) = I (m + 1) := (hup _ (by omega)).trans kin.2.2.2.2.2.1
  refine ⟨rfl, _, _, _, _, _, _, rfl, ⟨kin.1, kin.2.1, kin.2.2.1, kin.2.2.2.1⟩, Ct.post (fun v2 h2 e2 => ?_) ((Ct.own (ct_X12_log (F := F) (I := (upI I (m + 12) 0 r)) (w := (upI I (m + 12) 0 r) (m + 1)) kin.2.1 (by rw [wup]; exact hO) hp hq (by omega))).up (by decide))⟩
  obtain ⟨e3, rfl⟩ := e2
  obtain ⟨ws2, hLI⟩ := h.ask0 hLs (t := 0) (fun _ _ _ => rfl) hu hup xScr.rf
  try rw [wup] at e3
  exact ⟨r, _, _, ws2, e3.trans hv.symm, hr, by rw [wup], hLI, upF_at _ _ _ _, fun _ => by show upA _ (m + 1) _ (m + 12) 0 = r; rw [upA_na _ _ _ (by omega), upI_at]⟩

