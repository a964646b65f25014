/-! texts and the image, on both sides -/
section LIT
variable {T T1 : Nat → Nat × Int} {F F1 F2 : Nat → Nat → Int} {I I1 I2 : Nat → Int → Int} {P P1 : Nat → Nat → Option Nat} {Y Y1 : Nat → Int → Option Nat} {o m z z1 : Nat} {u : wWo} {ws ws1 : Nat → Option wWo} {f1 f2 f7 f8 p b d c : Int}
theorem LI.to2 (h : LI o m z T F I P Y ws) (l2 : LK T1 F1 I1 P1 Y1 o m z1 ws1) (l3 : ∃ x : Nat, P1 o 4 = some x) (l5 : F1 o 1 = f1 ∧ F1 o 2 = f2 ∧ F1 o 7 = f7 ∧ F1 o 8 = f8) (l9 : I1 (o + 1) = I (o + 1)) (l10 : LF m T F I P Y T1 F1 I1 P1 Y1) (hM : MSt m F1 I1 F2 I2)
    (h0 : ws1 0 = some u) (he : wEq u (I2 (m + 1))) (hR : w32 (I2 (m + 1))) (hten : ∀ (s : Nat) (u : wWo), s < 15 → ws1 s = some u → u 10 ≤ 9999)
    (h7 : 0 ≤ f7 ∧ f7 < 12) (h8 : 0 ≤ f8 ∧ f8 ≤ 12) (hn : F2 m 7 = f8 ∧ F2 m 9 = f1 ∧ F2 m 14 = f2) (hf : 0 ≤ f1 ∧ f1 ≤ F o 1) (h6 : I2 (m + 6) = I (m + 6))
    (hk : w32 (I2 (m + 2)) ∧ ((P1 o 5 = none ∧ F2 m 6 = 0) ∨ ((∃ x : Nat, P1 o 5 = some x) ∧ F2 m 6 = 1 ∧ ws1 2 = some (I2 (m + 2))))) (hU : LU f7 f8 (wsU ws1 0 (some (I2 (m + 1)))) (I2 (m + 5)) (I2 (m + 1))) : LI o m z1 T1 F2 I2 P1 Y1 (wsU ws1 0 (some (I2 (m + 1)))) := by
  obtain ⟨g1, g2, g3, ⟨g4, g41, g42⟩, g5, ⟨g6, g7, g8, g9⟩, -, -, -⟩ := h
  obtain ⟨l5, l6, l7, l8⟩ := l5
  obtain ⟨m1, m2⟩ := hM
  have z3 := l2.2.2.2.2.2.2.2
  have hK := (l2.mfr (F' := F2) (I' := I2) (fun b hb => m1 b (by omega)) (fun b hb => m2 b (by omega))).weq h0 he hR
  have e0 : F2 o = F1 o := m1 o (by omega)
  have e1 : I2 (o + 1) = I1 (o + 1) := m2 (o + 1) (by omega)
  have t : T1 (m + 12) = T (m + 12) := (l10 (m + 12) (by omega) (by omega)).1
  refine ⟨hK, ⟨wsU_at, fun s u1 h9 h1 => ?_⟩, l3, ⟨g4.lf l10, by rw [t]; exact g41, by rw [t]; exact g42⟩, ⟨by rw [e0, l7]; exact h7, by rw [e0, l8]; exact h8, by rw [e0, l8]; exact hn.1, by rw [e0, l5]; exact hn.2.1, by rw [e0, l6]; exact hn.2.2⟩, ⟨by rw [e0, l5]; omega, by rw [e1, l9]; exact g7, by rw [e0, l5, e1, l9, h6]; exact fun j j0 j1 => g8 j j0 (by omega), by rw [h6]; exact g9⟩, ⟨hk.1, ?_⟩, by rw [e0, l7, l8]; exact hU, rfl⟩
  · by_cases e : s = 0
    · subst e
      rw [wsU_at] at h1; cases h1
      rw [he 10 (by omega) (by omega)]; exact hten 0 u (by decide) h0
    · rw [wsU_na e] at h1; exact hten s u1 h9 h1
  · rw [wsU_na (by decide)]; exact hk.2
theorem fR_nb {x : Nat} (h : x ≠ m) : fR F m p b d c x = F x := by funext j; unfold fR; simp [h]
theorem tenU (h : ∀ (s : Nat) (u : wWo), s < 15 → ws s = some u → u 10 ≤ 9999) {k : Nat} (hu : u 10 ≤ 9999) : ∀ (s : Nat) (u' : wWo), s < 15 → wsU ws k (some u) s = some u' → u' 10 ≤ 9999 := fun s u' hs hq => by
  by_cases e : s = k
  · subst e; rw [wsU_at] at hq; cases hq; exact hu
  · rw [wsU_na e] at hq; exact h s u' hs hq
theorem tenN (h : ∀ (s : Nat) (u : wWo), s < 15 → ws s = some u → u 10 ≤ 9999) {k : Nat} : ∀ (s : Nat) (u' : wWo), s < 15 → wsU ws k none s = some u' → u' 10 ≤ 9999 := fun s u' hs hq => by
  by_cases e : s = k
  · subst e; rw [wsU_at] at hq; cases hq
  · rw [wsU_na e] at hq; exact h s u' hs hq
end LIT
/-- behind an image -/
def xPI (E : xE) (o m : Nat) : Option Value → xH → Prop := fun v h1 => v = none ∧ ∃ (z1 : Nat) (T1 : Nat → Nat × Int) (F1 : Nat → Nat → Int) (I1 : Nat → Int → Int) (P1 : Nat → Nat → Option Nat) (Y1 : Nat → Int → Option Nat), h1 = (z1, T1, F1, I1, P1, Y1) ∧ ((T1 o).1 = 12 ∧ wM T1 P1 m) ∧
  Ct E 60 mX12_image 0 0 [.ref m] (z1, T1, F1, I1, P1, Y1) (fun v2 h2 => v2 = none ∧ ∃ (F2 : Nat → Nat → Int) (I2 : Nat → Int → Int) (ws2 : Nat → Option wWo), h2 = (z1, T1, F2, I2, P1, Y1) ∧ LI o m z1 T1 F2 I2 P1 Y1 ws2)
set_option maxHeartbeats 4000000 in
set_option maxRecDepth 100000 in
theorem pp_image {E : xE} {z : Nat} {T : Nat → Nat × Int} {F : Nat → Nat → Int} {I : Nat → Int → Int} {P : Nat → Nat → Option Nat} {Y : Nat → Int → Option Nat} {o m : Nat} {ws : Nat → Option wWo} {ad adv : Nat → Nat} {sio : Option Nat} {qS v0 : Nat} {tx : String} (hV : xEnv E ad adv sio qS v0 tx) (h : LI o m z T F I P Y ws) : Ct E 60 mX11_image 57 2100 [.ref o] (z, T, F, I, P, Y) (xPI E o m) := by
  obtain ⟨a, h3, hS, hI, h1, hw⟩ := h.get
  have hO := hI.1.1.1
  have hLw := hI.1.1.2.1
  have hr9 := hI.1.2.1
  have o0 := hO.2.1
  have hL := h.1
  have hu := h.2.1.1
  have h4 := h.2.2.1
  obtain ⟨hf, hc, q3, q4, q5⟩ := h.2.2.2.2.1
  obtain ⟨he, hT, htp, hTm⟩ := h.2.2.2.2.2.1
  have z3 := hL.2.2.2.2.2
  cases h5 : P o 5 with
  | none =>
    refine Ct.post (fun v h1' e => ?_) ((ct_X11_image_n hL h3 hu hV.1 h5).up (by decide))
    obtain ⟨rfl, z1, T1, F1, I1, P1, Y1, rfl, hz, hK, hP, hx5, hF, hI1, hY, hM⟩ := e
    have em : F1 m = F m := (hM m (by omega) (by omega)).2.1
    have e1 : I1 (m + 1) = I (m + 1) := (hM (m + 1) (by omega) (by omega)).2.2.1
    have e2' : I1 (m + 2) = I (m + 2) := (hM (m + 2) (by omega) (by omega)).2.2.1
    have e5 : I1 (m + 5) = I (m + 5) := (hM (m + 5) (by omega) (by omega)).2.2.1
    have e6 : I1 (m + 6) = I (m + 6) := (hM (m + 6) (by omega) (by omega)).2.2.1
    have hw1 := hw.lf hM
    refine ⟨rfl, _, _, _, _, _, _, rfl, ⟨hK.1.1, hw1⟩, Ct.post (fun v2 h2 e2 => ?_) ((Ct.own (ct_X12_image (F := F1) (I := I1) (w := I1 (m + 1)) hw1)).up (by decide))⟩
    obtain ⟨e3, rfl⟩ := e2
    have hRk := h.2.2.2.2.2.2.1.1
    have eW : wEq (I (m + 1)) (wCo (I1 (m + 2)) (I1 (m + 1)) 0 2752) := fun j j0 j1 => by unfold wCo; rw [if_pos (by omega), e1]; congr 1; omega
    have hRW : w32 (wCo (I1 (m + 2)) (I1 (m + 1)) 0 2752) := w32_Co (by rw [e2']; exact hRk) (by rw [e1]; exact hI.1.1.1.1) _ _
    have hK2 := hK.weq (s := 2) wsU_at eW hRW
    have hLI := h.to2 hK2 (F2 := upF (upF F1 m 0 0) m 6 1) (I2 := upA (upA I1 (m + 2) (wCo (I1 (m + 2)) (I1 (m + 1)) 0 2752)) (m + 1) (I1 (m + 1))) (f1 := F o 1) (f2 := F o 2) (f7 := F o 7) (f8 := F o 8) (by rw [hP 4 (by decide)]; exact h4) ⟨by rw [hF], by rw [hF], by rw [hF], by rw [hF]⟩ hI1 hM ⟨fun b hb => by rw [upF_na _ _ _ _ hb, upF_na _ _ _ _ hb], fun b hb => by rw [upA_na _ _ _ (by omega), upA_na _ _ _ (by omega)]⟩ (u := I (m + 1)) (by rw [wsU_na (by decide), wsU_na (by decide)]; exact hu) (by rw [upA_at, e1]; exact wEq.rf) (by rw [upA_at, e1]; exact hI.1.1.1.1) (tenU (tenU h.2.1.2 h.ten) (by rw [eW 10 (by omega) (by omega)]; exact h.ten)) hf hc ⟨by rw [upF_nk _ _ _ _ (by decide), upF_nk _ _ _ _ (by decide), em, q3], by rw [upF_nk _ _ _ _ (by decide), upF_nk _ _ _ _ (by decide), em, q4], by rw [upF_nk _ _ _ _ (by decide), upF_nk _ _ _ _ (by decide), em, q5]⟩ ⟨he.1, Int.le_refl _⟩ (by rw [upA_na _ _ _ (by omega), upA_na _ _ _ (by omega)]; exact e6) ⟨by rw [upA_na _ _ _ (by omega), upA_at]; exact hRW, Or.inr ⟨hx5, upF_at _ _ _ _, by rw [upA_na _ _ _ (by omega), upA_at, wsU_at]⟩⟩ (h.2.2.2.2.2.2.2.1.same (by rw [upA_na _ _ _ (by omega), upA_na _ _ _ (by omega)]; exact e5) (fun s s3 s15 => by rw [wsU_na (by omega), wsU_na (by omega), wsU_na (by omega)]) (fun j j0 j1 => by rw [upA_at, e1]) hf)
    exact ⟨e3, _, _, _, rfl, hLI⟩
  | some k =>
    refine Ct.post (fun v h1' e => ?_) ((ct_X11_image_o hL h3 hu h5).up (by decide))
    obtain ⟨rfl, z1, T1, F1, I1, P1, Y1, rfl, hz, hK, hP, hx5, hF, hI1, hY, hM⟩ := e
    have em : F1 m = F m := (hM m (by omega) (by omega)).2.1
    have e1 : I1 (m + 1) = I (m + 1) := (hM (m + 1) (by omega) (by omega)).2.2.1
    have e2' : I1 (m + 2) = I (m + 2) := (hM (m + 2) (by omega) (by omega)).2.2.1
    have e5 : I1 (m + 5) = I (m + 5) := (hM (m + 5) (by omega) (by omega)).2.2.1
    have e6 : I1 (m + 6) = I (m + 6) := (hM (m + 6) (by omega) (by omega)).2.2.1
    have hw1 := hw.lf hM
    refine ⟨rfl, _, _, _, _, _, _, rfl, ⟨hK.1.1, hw1⟩, Ct.post (fun v2 h2 e2 => ?_) ((Ct.own (ct_X12_image (F := F1) (I := I1) (w := I1 (m + 1)) hw1)).up (by decide))⟩
    obtain ⟨e3, rfl⟩ := e2
    have hRk := h.2.2.2.2.2.2.1.1
    have eW : wEq (I (m + 1)) (wCo (I1 (m + 2)) (I1 (m + 1)) 0 2752) := fun j j0 j1 => by unfold wCo; rw [if_pos (by omega), e1]; congr 1; omega
    have hRW : w32 (wCo (I1 (m + 2)) (I1 (m + 1)) 0 2752) := w32_Co (by rw [e2']; exact hRk) (by rw [e1]; exact hI.1.1.1.1) _ _
    have hK2 := hK.weq (s := 2) wsU_at eW hRW
    have hLI := h.to2 hK2 (F2 := upF (upF F1 m 0 0) m 6 1) (I2 := upA (upA I1 (m + 2) (wCo (I1 (m + 2)) (I1 (m + 1)) 0 2752)) (m + 1) (I1 (m + 1))) (f1 := F o 1) (f2 := F o 2) (f7 := F o 7) (f8 := F o 8) (by rw [hP 4 (by decide)]; exact h4) ⟨by rw [hF], by rw [hF], by rw [hF], by rw [hF]⟩ hI1 hM ⟨fun b hb => by rw [upF_na _ _ _ _ hb, upF_na _ _ _ _ hb], fun b hb => by rw [upA_na _ _ _ (by omega), upA_na _ _ _ (by omega)]⟩ (u := I (m + 1)) (by rw [wsU_na (by decide), wsU_na (by decide)]; exact hu) (by rw [upA_at, e1]; exact wEq.rf) (by rw [upA_at, e1]; exact hI.1.1.1.1) (tenU (tenU h.2.1.2 h.ten) (by rw [eW 10 (by omega) (by omega)]; exact h.ten)) hf hc ⟨by rw [upF_nk _ _ _ _ (by decide), upF_nk _ _ _ _ (by decide), em, q3], by rw [upF_nk _ _ _ _ (by decide), upF_nk _ _ _ _ (by decide), em, q4], by rw [upF_nk _ _ _ _ (by decide), upF_nk _ _ _ _ (by decide), em, q5]⟩ ⟨he.1, Int.le_refl _⟩ (by rw [upA_na _ _ _ (by omega), upA_na _ _ _ (by omega)]; exact e6) ⟨by rw [upA_na _ _ _ (by omega), upA_at]; exact hRW, Or.inr ⟨hx5, upF_at _ _ _ _, by rw [upA_na _ _ _ (by omega), upA_at, wsU_at]⟩⟩ (h.2.2.2.2.2.2.2.1.same (by rw [upA_na _ _ _ (by omega), upA_na _ _ _ (by omega)]; exact e5) (fun s s3 s15 => by rw [wsU_na (by omega), wsU_na (by omega), wsU_na (by omega)]) (fun j j0 j1 => by rw [upA_at, e1]) hf)
    exact ⟨e3, _, _, _, rfl, hLI⟩
set_option maxHeartbeats 4000000 in
set_option maxRecDepth 100000 in
theorem op_store {E : xE} {z : Nat} {T : Nat → Nat × Int} {F : Nat → Nat → Int} {I : Nat → Int → Int} {P : Nat → Nat → Option Nat} {Y : Nat → Int → Option Nat} {o m : Nat} {ws : Nat → Option wWo} {ad adv : Nat → Nat} {sio : Option Nat} {qS v0 : Nat} {tx : String} (hV : xEnv E ad adv sio qS v0 tx) (h : LI o m z T F I P Y ws) : ∃ k : Int, (0 ≤ k ∧ k ≤ 2) ∧ CtH E 61 mL_store [(0, 8, 11, 13), (0, 8, 14, 15)] 57 2100 [.ref o, .ref (m + 12)] (z, T, F, I, P, Y) (xH1 E o m mX12_store [] k) := by
  obtain ⟨a, h3, hS, hI, h1, hw⟩ := h.get
  have hO := hI.1.1.1
  have hLw := hI.1.1.2.1
  have hr9 := hI.1.2.1
  have o0 := hO.2.1
  have hL := h.1
  have hu := h.2.1.1
  have h4 := h.2.2.1
  obtain ⟨hf, hc, q3, q4, q5⟩ := h.2.2.2.2.1
  obtain ⟨he, hT, htp, hTm⟩ := h.2.2.2.2.2.1
  obtain ⟨b4, h4b⟩ := h4
  have z3 := hL.2.2.2.2.2
  cases hg : gSto (I (o + 1)) (F o 1) (I (m + 1)) with
  | inl f =>
    refine ⟨1, by omega, CtH.post (fun v h1' e => ?_) ((cl_store_1 (ou := m + 12) (cx_X11_store_1 hL hT he hV.2.2.2.2.1 hV.2.2.2.2.2.1 hV.2.2.2.2.2.2 h3 h4b hu hg hV.2.1.1) ⟨by decide, by decide⟩ h1 hV.2.1.1.c).up (by decide))⟩
    obtain ⟨rfl, z1, F1, I1, P1, Y1, rfl, hz, hK1, hP1, ⟨f1, f2, f7, f8⟩, hI1, hM1⟩ := e
    have hLs : LSt o m z T F I P Y z1 T F1 I1 P1 Y1 (wsU ws 1 none) 0 (f) (F o 7) (F o 8) := ⟨hz, hK1.big hz, ⟨by rw [hP1]; exact ⟨b4, h4b⟩, by rw [hP1]⟩, ⟨f1, f2, f7, f8⟩, hI1, hM1⟩
    have kin := h.kin hLs
    have w1 : I1 (m + 1) = I (m + 1) := kin.2.2.2.2.2.1
    have w6 : I1 (m + 6) = I (m + 6) := kin.2.2.2.2.2.2.2.2
    have em : F1 m = F m := kin.2.2.2.2.1
    refine ⟨rfl, _, _, _, _, _, _, rfl, ⟨kin.1, kin.2.1, kin.2.2.1, kin.2.2.2.1⟩, Ct.post (fun v2 h2 e2 => ?_) ((Ct.own (ct_X12_store (F := F1) (I := I1) (w := I1 (m + 1)) kin.2.1 (by rw [w6]; exact hTm) (t := I (o + 1)) (e := F o 1) (by rw [w6]; exact htp) he (by rw [em, q4]) hV.2.2.2.1 (by rw [w1]; exact hI))).up (by decide))⟩
    rw [w1, hg] at e2
    obtain ⟨rfl, p, b, d, c, w2, I2, ew, hR, hI2, rfl⟩ := e2
    have hLI := h.to hLs (F2 := upF (upF (fR (fUse F1 m) m p b d c) m 14 (f)) m 0 1) (I2 := upA I2 (m + 1) w2) ⟨fun b hb => by rw [upF_na _ _ _ _ hb, upF_na _ _ _ _ hb, fR_nb hb, fUse_na hb], fun b hb => by rw [upA_na _ _ _ (by omega)]; exact hI2 b (by omega) (by omega)⟩ (u := I (m + 1)) (by rw [wsU_na (by decide)]; exact hu) (by rw [upA_at]; exact fun j j0 j1 => ew j j0 j1) (by rw [upA_at]; exact hR) (tenN h.2.1.2) hf hc ⟨by rw [upF_nk _ _ _ _ (by decide), upF_nk _ _ _ _ (by decide), fR_o (by omega), fUse_k (by decide), em, q3], by rw [upF_nk _ _ _ _ (by decide), upF_nk _ _ _ _ (by decide), fR_o (by omega), fUse_9], by rw [upF_nk _ _ _ _ (by decide), upF_at]⟩ ⟨Int.le_refl _, he.1⟩ rfl (by rw [upA_na _ _ _ (by omega), hI2 _ (by omega) (by omega)]; exact w6) ⟨by rw [upF_nk _ _ _ _ (by decide), upF_nk _ _ _ _ (by decide), fR_o (by omega), fUse_k (by decide), em], by rw [upA_na _ _ _ (by omega), hI2 _ (by omega) (by omega)]; exact kin.2.2.2.2.2.2.1, by rw [wsU_na (by decide)]⟩ (h.2.2.2.2.2.2.2.1.same (by rw [upA_na _ _ _ (by omega), hI2 _ (by omega) (by omega)]; exact kin.2.2.2.2.2.2.2.1) (fun s s3 s15 => by rw [wsU_na (by omega), wsU_na (by omega)]) (fun j j0 j1 => by rw [upA_at]; exact ew j (by omega) (by omega)) hf)
    exact ⟨0, _, _, _, rfl, by omega, rfl, hLI, upF_at _ _ _ _, fun q => absurd q (by decide)⟩
  | inr w' =>
    have hw' := gSto_ok hg hI
    have hw10 := gSto10 hg hI h.ten
    have w1b := hI.1.1.1.2.2.1
    by_cases cc : I (m + 1) 1 = 12
    · refine ⟨2, by omega, CtH.post (fun v h1' e => ?_) ((cl_store_2 (ou := m + 12) (cx_X11_store_2 hL hT he hV.2.2.2.2.1 hV.2.2.2.2.2.1 hV.2.2.2.2.2.2 h3 h4b hu hg cc hV.2.1.2.1) ⟨by decide, by decide⟩ h1 hV.2.1.2.1.c (fun u hu => (hV.2.2.1 u hu).1)).up (by decide))⟩
      obtain ⟨rfl, z1, F1, I1, P1, Y1, rfl, hz, hK1, hP1, ⟨f1, f2, f7, f8⟩, hI1, hM1⟩ := e
      have hLs : LSt o m z T F I P Y z1 T F1 I1 P1 Y1 (wsU ws 1 none) 0 (-1) (F o 7) (F o 8) := ⟨hz, hK1.big hz, ⟨by rw [hP1]; exact ⟨b4, h4b⟩, by rw [hP1]⟩, ⟨f1, f2, f7, f8⟩, hI1, hM1⟩
      have kin := h.kin hLs
      have w1 : I1 (m + 1) = I (m + 1) := kin.2.2.2.2.2.1
      have w6 : I1 (m + 6) = I (m + 6) := kin.2.2.2.2.2.2.2.2
      have em : F1 m = F m := kin.2.2.2.2.1
      refine ⟨rfl, _, _, _, _, _, _, rfl, ⟨kin.1, kin.2.1, kin.2.2.1, kin.2.2.2.1⟩, Ct.post (fun v2 h2 e2 => ?_) ((Ct.own (ct_X12_store (F := F1) (I := I1) (w := I1 (m + 1)) kin.2.1 (by rw [w6]; exact hTm) (t := I (o + 1)) (e := F o 1) (by rw [w6]; exact htp) he (by rw [em, q4]) hV.2.2.2.1 (by rw [w1]; exact hI))).up (by decide))⟩
      rw [w1, hg] at e2
      rcases e2 with ⟨-, e2⟩ | ⟨hne, -⟩
      case inr => exact absurd cc hne
      obtain ⟨rfl, p, b, d, c, w2, I2, ew, hR, hI2, rfl⟩ := e2
      have hLI := h.to hLs (F2 := upF (upF (fR (fUse F1 m) m p b d c) m 14 (-1)) m 0 2) (I2 := upA I2 (m + 1) w2) ⟨fun b hb => by rw [upF_na _ _ _ _ hb, upF_na _ _ _ _ hb, fR_nb hb, fUse_na hb], fun b hb => by rw [upA_na _ _ _ (by omega)]; exact hI2 b (by omega) (by omega)⟩ (u := I (m + 1)) (by rw [wsU_na (by decide)]; exact hu) (by rw [upA_at]; exact fun j j0 j1 => ew j j0 j1) (by rw [upA_at]; exact hR) (tenN h.2.1.2) hf hc ⟨by rw [upF_nk _ _ _ _ (by decide), upF_nk _ _ _ _ (by decide), fR_o (by omega), fUse_k (by decide), em, q3], by rw [upF_nk _ _ _ _ (by decide), upF_nk _ _ _ _ (by decide), fR_o (by omega), fUse_9], by rw [upF_nk _ _ _ _ (by decide), upF_at]⟩ ⟨Int.le_refl _, he.1⟩ rfl (by rw [upA_na _ _ _ (by omega), hI2 _ (by omega) (by omega)]; exact w6) ⟨by rw [upF_nk _ _ _ _ (by decide), upF_nk _ _ _ _ (by decide), fR_o (by omega), fUse_k (by decide), em], by rw [upA_na _ _ _ (by omega), hI2 _ (by omega) (by omega)]; exact kin.2.2.2.2.2.2.1, by rw [wsU_na (by decide)]⟩ (h.2.2.2.2.2.2.2.1.same (by rw [upA_na _ _ _ (by omega), hI2 _ (by omega) (by omega)]; exact kin.2.2.2.2.2.2.2.1) (fun s s3 s15 => by rw [wsU_na (by omega), wsU_na (by omega)]) (fun j j0 j1 => by rw [upA_at]; exact ew j (by omega) (by omega)) hf)
      exact ⟨0, _, _, _, rfl, by omega, rfl, hLI, upF_at _ _ _ _, fun q => absurd q (by decide)⟩
    · refine ⟨0, by omega, CtH.post (fun v h1' e => ?_) ((cl_store (ou := m + 12) (ct_X11_store hL hT he hV.2.2.2.2.1 hV.2.2.2.2.2.1 hV.2.2.2.2.2.2 h3 h4b hu hg (by omega)) ⟨by decide, by decide⟩ h1 (fun v h' e => by
        obtain ⟨z', T', F', I', P', Y', rfl, rfl, hLs⟩ := LSt.of e
        have kin := h.kin hLs
        exact ⟨jn _, _, _, _, _, _, _, by rw [jn_J], jn_r _, rfl, kin.2.2.1, kin.2.2.2.1⟩)).up (by decide))⟩
      obtain ⟨rfl, r, z1, T1, F1, I1, P1, Y1, hr, hp1, rfl⟩ := e
      obtain ⟨z9, T9, F9, I9, P9, Y9, hv, hh, hLs⟩ := LSt.of hp1
      cases hh
      have kin := h.kin hLs
      have hup : ∀ b : Nat, b ≠ m + 12 → upI I1 (m + 12) 0 r b = I1 b := fun b hb => upI_na _ _ _ _ hb
      have w1 : upI I1 (m + 12) 0 r (m + 1) = I (m + 1) := (hup _ (by omega)).trans kin.2.2.2.2.2.1
      have w6 : upI I1 (m + 12) 0 r (m + 6) = I (m + 6) := (hup _ (by omega)).trans kin.2.2.2.2.2.2.2.2
      have em : F1 m = F m := kin.2.2.2.2.1
      refine ⟨rfl, _, _, _, _, _, _, rfl, ⟨kin.1, kin.2.1, kin.2.2.1, kin.2.2.2.1⟩, Ct.post (fun v2 h2 e2 => ?_) ((Ct.own (ct_X12_store (F := F1) (I := upI I1 (m + 12) 0 r) (w := upI I1 (m + 12) 0 r (m + 1)) kin.2.1 (by rw [w6]; exact hTm) (t := I (o + 1)) (e := F o 1) (by rw [w6]; exact htp) he (by rw [em, q4]) hV.2.2.2.1 (by rw [w1]; exact hI))).up (by decide))⟩
      rw [w1, hg] at e2
      rcases e2 with ⟨q12, -⟩ | ⟨-, e3, p, b, d, c, I2, hI2, rfl⟩
      · exact absurd q12 cc
      have wI' : wI2 (wS w' 1 (I (m + 1) 1 + 1)) := wI2_no hw'.1 (by omega) (by unfold wCell; omega)
      have hten1 : ∀ (s : Nat) (u : wWo), s < 15 → wsU (wsU (fun s => wsU (wsU ws 1 (some (I (m + 1)))) 1 (some w') (uSw 0 1 s)) 0 (some (wS w' 1 (I (m + 1) 1 + 1)))) 1 none s = some u → u 10 ≤ 9999 := fun s u hs hq => by
        by_cases e1 : s = 1
        · subst e1; rw [wsU_at] at hq; cases hq
        · rw [wsU_na e1] at hq
          by_cases e0 : s = 0
          · subst e0; rw [wsU_at] at hq; cases hq; rw [wS_ne _ _ _ (by omega)]; exact hw10
          · rw [wsU_na e0] at hq
            have e8 : uSw 0 1 s = s := by unfold uSw; rw [if_neg e0, if_neg e1]
            rw [e8, wsU_na e1, wsU_na e1] at hq
            exact h.2.1.2 s u hs hq
      have hLI := h.to hLs.no1 (F2 := upF (upF (fR (fUse F1 m) m p b d c) m 14 (-1)) m 7 0) (I2 := upA I2 (m + 1) (wS w' 1 (I (m + 1) 1 + 1))) ⟨fun b hb => by rw [upF_na _ _ _ _ hb, upF_na _ _ _ _ hb, fR_nb hb, fUse_na hb], fun b hb => by rw [upA_na _ _ _ (by omega), hI2 b (by omega) (by omega)]; exact hup b (by omega)⟩ (u := wS w' 1 (I (m + 1) 1 + 1)) (by rw [wsU_na (by decide), wsU_at]) (by rw [upA_at]; exact wEq.rf) (by rw [upA_at]; exact wI'.1.1.1.1) hten1 (by omega) (by omega) ⟨upF_at _ _ _ _, by rw [upF_nk _ _ _ _ (by decide), upF_nk _ _ _ _ (by decide), fR_o (by omega), fUse_9], by rw [upF_nk _ _ _ _ (by decide), upF_at]⟩ ⟨Int.le_refl _, he.1⟩ rfl (by rw [upA_na _ _ _ (by omega), hI2 _ (by omega) (by omega)]; exact w6) ⟨by rw [upF_nk _ _ _ _ (by decide), upF_nk _ _ _ _ (by decide), fR_o (by omega), fUse_k (by decide), em], by rw [upA_na _ _ _ (by omega), hI2 _ (by omega) (by omega), hup _ (by omega)]; exact kin.2.2.2.2.2.2.1, by rw [wsU_na (by decide), wsU_na (by decide)]; show wsU (wsU ws 1 _) 1 _ (uSw 0 1 2) = ws 2; unfold uSw; rw [if_neg (by decide), if_neg (by decide), wsU_na (by decide), wsU_na (by decide)]⟩ LU.zero
      exact ⟨r, _, _, _, e3.trans hv.symm, hr, rfl, hLI, by rw [upF_nk _ _ _ _ (by decide), upF_nk _ _ _ _ (by decide), fR_o (by omega), fUse_0], fun _ => by show upA _ (m + 1) _ (m + 12) 0 = r; rw [upA_na _ _ _ (by omega), hI2 _ (by omega) (by omega), upI_at]⟩
set_option maxHeartbeats 4000000 in
set_option maxRecDepth 100000 in
theorem op_law {E : xE} {z : Nat} {T : Nat → Nat × Int} {F : Nat → Nat → Int} {I : Nat → Int → Int} {P : Nat → Nat → Option Nat} {Y : Nat → Int → Option Nat} {o m : Nat} {ws : Nat → Option wWo} {ad adv : Nat → Nat} {sio : Option Nat} {qS v0 : Nat} {tx : String} (hV : xEnv E ad adv sio qS v0 tx) (h : LI o m z T F I P Y ws) : ∃ k : Int, (0 ≤ k ∧ k ≤ 2) ∧ CtH E 61 mL_law [(0, 8, 11, 13)] 57 2100 [.ref o, .ref (m + 12)] (z, T, F, I, P, Y) (xH1 E o m mX12_law [] k) := by
  obtain ⟨a, h3, hS, hI, h1, hw⟩ := h.get
  have hO := hI.1.1.1
  have hLw := hI.1.1.2.1
  have hr9 := hI.1.2.1
  have o0 := hO.2.1
  have hL := h.1
  have hu := h.2.1.1
  have h4 := h.2.2.1
  obtain ⟨hf, hc, q3, q4, q5⟩ := h.2.2.2.2.1
  obtain ⟨he, hT, htp, hTm⟩ := h.2.2.2.2.2.1
  obtain ⟨b4, h4b⟩ := h4
  have z3 := hL.2.2.2.2.2
  cases hg : gLaw (I (o + 1)) (F o 1) with
  | inl f =>
    refine ⟨1, by omega, CtH.post (fun v h1' e => ?_) ((cl_law_1 (ou := m + 12) (cx_X11_law_1 hL hT he hV.2.2.2.2.1 hV.2.2.2.2.2.1 hV.2.2.2.2.2.2 h3 h4b hu hg hV.2.1.1) ⟨by decide, by decide⟩ h1 hV.2.1.1.c).up (by decide))⟩
    obtain ⟨rfl, z1, F1, I1, P1, Y1, rfl, hz, hK1, hP1, ⟨f1, f2, f7, f8⟩, hI1, hM1⟩ := e
    have hLs : LSt o m z T F I P Y z1 T F1 I1 P1 Y1 ws 0 (f) (F o 7) (F o 8) := ⟨hz, hK1.big hz, ⟨by rw [hP1]; exact ⟨b4, h4b⟩, by rw [hP1]⟩, ⟨f1, f2, f7, f8⟩, hI1, hM1⟩
    have kin := h.kin hLs
    have w1 : I1 (m + 1) = I (m + 1) := kin.2.2.2.2.2.1
    have w6 : I1 (m + 6) = I (m + 6) := kin.2.2.2.2.2.2.2.2
    have em : F1 m = F m := kin.2.2.2.2.1
    refine ⟨rfl, _, _, _, _, _, _, rfl, ⟨kin.1, kin.2.1, kin.2.2.1, kin.2.2.2.1⟩, Ct.post (fun v2 h2 e2 => ?_) ((Ct.own (ct_X12_law (F := F1) (I := I1) (w := I1 (m + 1)) kin.2.1 (by rw [w6]; exact hTm) (t := I (o + 1)) (e := F o 1) (by rw [w6]; exact htp) he (by rw [em, q4]) hV.2.2.2.1 (by rw [w1]; exact hI.1.1.1.1))).up (by decide))⟩
    rw [hg] at e2
    obtain ⟨rfl, p, d, c, w2, ew, hR, rfl⟩ := e2
    rw [w1] at ew
    have hLI := h.to hLs (F2 := upF (upF (fR (fUse F1 m) m p f d c) m 14 (f)) m 0 1) (I2 := upA I1 (m + 1) w2) ⟨fun b hb => by rw [upF_na _ _ _ _ hb, upF_na _ _ _ _ hb, fR_nb hb, fUse_na hb], fun b hb => by rw [upA_na _ _ _ (by omega)]⟩ (u := I (m + 1)) hu (by rw [upA_at]; exact fun j j0 j1 => ew j (Or.inl (by omega))) (by rw [upA_at]; exact hR) h.2.1.2 hf hc ⟨by rw [upF_nk _ _ _ _ (by decide), upF_nk _ _ _ _ (by decide), fR_o (by omega), fUse_k (by decide), em, q3], by rw [upF_nk _ _ _ _ (by decide), upF_nk _ _ _ _ (by decide), fR_o (by omega), fUse_9], by rw [upF_nk _ _ _ _ (by decide), upF_at]⟩ ⟨Int.le_refl _, he.1⟩ rfl (by rw [upA_na _ _ _ (by omega)]; exact w6) ⟨by rw [upF_nk _ _ _ _ (by decide), upF_nk _ _ _ _ (by decide), fR_o (by omega), fUse_k (by decide), em], by rw [upA_na _ _ _ (by omega)]; exact kin.2.2.2.2.2.2.1, rfl⟩ (h.2.2.2.2.2.2.2.1.same (by rw [upA_na _ _ _ (by omega)]; exact kin.2.2.2.2.2.2.2.1) (fun s s3 s15 => by rw [wsU_na (by omega)]) (fun j j0 j1 => by rw [upA_at]; exact ew j (Or.inl (by omega))) hf)
    exact ⟨0, _, _, _, rfl, by omega, rfl, hLI, upF_at _ _ _ _, fun q => absurd q (by decide)⟩
  | inr x =>
    obtain ⟨ls, cs⟩ := x
    obtain ⟨hl1, hl2, -⟩ := gLaw_ok he.1 hg
    have hl1 : ls.length ≤ 12 := hl1
    have hl2 : (cs.length : Int) ≤ F o 1 := hl2
    refine ⟨0, by omega, CtH.post (fun v h1' e => ?_) ((cl_law (ou := m + 12) (ct_X11_law hL hT he hV.2.2.2.2.1 hV.2.2.2.2.2.1 hV.2.2.2.2.2.2 h3 h4b hu hg) ⟨by decide, by decide⟩ h1 (fun v h' e => by
      obtain ⟨rfl, z', T', F', I', P', Y', rfl, -, -, -, -, -, -, hM⟩ := e
      have t := (hM (m + 12) (by omega) (by omega)).1
      exact ⟨jn _, _, _, _, _, _, _, by rw [jn_J], jn_r _, rfl, by rw [t]; exact h.2.2.2.1.2.1, by rw [t]; exact h.2.2.2.1.2.2⟩)).up (by decide))⟩
    obtain ⟨rfl, r, z1, T1, F1, I1, P1, Y1, hr, hp1, rfl⟩ := e
    obtain ⟨hv, z9, T9, F9, I9, P9, Y9, hh, hz, hKu, hP45, hF1, hI1, hTo, hM⟩ := hp1
    cases hh
    have hw1 := hw.lf hM
    have t12 := (hM (m + 12) (by omega) (by omega)).1
    have em : F1 m = F m := (hM m (by omega) (by omega)).2.1
    have hup : ∀ b : Nat, b ≠ m + 12 → upI I1 (m + 12) 0 r b = I1 b := fun b hb => upI_na _ _ _ _ hb
    have ei : ∀ k : Nat, k < 12 → upI I1 (m + 12) 0 r (m + k) = I (m + k) := fun k hk => (hup _ (by omega)).trans (hM (m + k) (by omega) (by omega)).2.2.1
    have w1 := ei 1 (by decide)
    have w6 := ei 6 (by decide)
    refine ⟨rfl, _, _, _, _, _, _, rfl, ⟨hTo, hw1, by rw [t12]; exact h.2.2.2.1.2.1, by rw [t12]; exact h.2.2.2.1.2.2⟩, Ct.post (fun v2 h2 e2 => ?_) ((Ct.own (ct_X12_law (F := F1) (I := upI I1 (m + 12) 0 r) (w := upI I1 (m + 12) 0 r (m + 1)) hw1 (by rw [w6]; exact hTm) (t := I (o + 1)) (e := F o 1) (by rw [w6]; exact htp) he (by rw [em, q4]) hV.2.2.2.1 (by rw [w1]; exact hI.1.1.1.1))).up (by decide))⟩
    rw [hg, w1] at e2
    obtain ⟨e3, p, b, d, c, w2, hpd, hR, rfl⟩ := e2
    have hWL := wLwd_ld hpd hl1 (by omega)
    have hRu : w32 (wLwd w2 (ls.length : Int)) := fun j => by
      unfold wLwd
      by_cases e : j = 2
      · subst e; rw [wS_at]; omega
      · rw [wS_ne _ _ _ e]
        refine cpyL_32 (fun i => ?_) _ j
        by_cases e' : i = 2752
        · subst e'; rw [wS_at]; omega
        · rw [wS_ne _ _ _ e']; exact hR i
    have hK := hKu _ hWL hRu
    have hLs : LSt o m z T F I P Y z1 T1 F1 I1 P1 Y1 (wsU ws 0 (some (wLwd w2 (ls.length : Int)))) 0 (-1) 0 0 := ⟨hz, hK, hP45, hF1, hI1, hM⟩
    have hLI := h.to hLs (F2 := upF (upF (fR (fUse F1 m) m p b d c) m 14 (-1)) m 7 0) (I2 := upA (upI I1 (m + 12) 0 r) (m + 1) (wLwd w2 (ls.length : Int))) ⟨fun b hb => by rw [upF_na _ _ _ _ hb, upF_na _ _ _ _ hb, fR_nb hb, fUse_na hb], fun b hb => by rw [upA_na _ _ _ (by omega)]; exact hup b (by omega)⟩ (u := wLwd w2 (ls.length : Int)) wsU_at (by rw [upA_at]; exact wEq.rf) (by rw [upA_at]; exact hRu) (tenU h.2.1.2 (by rw [hWL.1 10 (by omega) (by omega) (by omega)]; exact h.ten)) (by omega) (by omega) ⟨upF_at _ _ _ _, by rw [upF_nk _ _ _ _ (by decide), upF_nk _ _ _ _ (by decide), fR_o (by omega), fUse_9], by rw [upF_nk _ _ _ _ (by decide), upF_at]⟩ ⟨Int.le_refl _, he.1⟩ rfl (by rw [upA_na _ _ _ (by omega)]; exact w6) ⟨by rw [upF_nk _ _ _ _ (by decide), upF_nk _ _ _ _ (by decide), fR_o (by omega), fUse_k (by decide), em], by rw [upA_na _ _ _ (by omega)]; exact ei 2 (by decide), wsU_na (by decide)⟩ LU.zero
    exact ⟨r, _, _, _, e3.trans hv.symm, hr, rfl, hLI, by rw [upF_nk _ _ _ _ (by decide), upF_nk _ _ _ _ (by decide), fR_o (by omega), fUse_0], fun _ => by show upA _ (m + 1) _ (m + 12) 0 = r; rw [upA_na _ _ _ (by omega), upI_at]⟩
