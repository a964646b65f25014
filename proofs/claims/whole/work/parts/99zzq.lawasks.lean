/-! calls that never throw, on both sides -/
section LIZ
variable {T : Nat → Nat × Int} {F : Nat → Nat → Int} {I I' : Nat → Int → Int} {P : Nat → Nat → Option Nat} {Y : Nat → Int → Option Nat} {o m z : Nat} {u : wWo} {ws : Nat → Option wWo}
theorem LI.ten2 (h : LI o m z T F I P Y ws) (h2 : ws 2 = some u) : ∀ (s : Nat) (u' : wWo), s < 15 → wsU (wsU ws 0 (some u)) 1 none s = some u' → u' 10 ≤ 9999 := fun s u' hs hu => by
  by_cases e : s = 1
  · subst e; rw [wsU_at] at hu; cases hu
  · rw [wsU_na e] at hu
    by_cases e0 : s = 0
    · subst e0; rw [wsU_at] at hu; cases hu; exact h.2.1.2 2 _ (by decide) h2
    · rw [wsU_na e0] at hu; exact h.2.1.2 s u' hs hu
theorem LI.tenp (h : LI o m z T F I P Y ws) {k : Nat} (hk : k < 15) : ∀ (s : Nat) (u' : wWo), s < 15 → wsU (fun s => ws (uSw 0 k s)) 1 none s = some u' → u' 10 ≤ 9999 := fun s u' hs hu => by
  by_cases e : s = 1
  · subst e; rw [wsU_at] at hu; cases hu
  · rw [wsU_na e] at hu
    exact h.2.1.2 _ u' (uSw_lt (by decide) hk s hs) hu
/-- both sides are fed alike -/
theorem LI.fed (h : LI o m z T F I P Y ws) (c : F o 1 + 20 ≤ 400) {p1 p2 p3 p4 p5 : Int} (hx : xScr m (upA I (o + 1) (cFd (I (o + 1)) (F o 1) (gFive p1 p2 p3 p4 p5))) I') : LI o m z T (upF (upF (upF F o 1 (F o 1 + 20)) m 0 0) m 9 (upF F o 1 (F o 1 + 20) m 9 + 20)) (upA (upA I' (m + 6) (sFdN (upA I (o + 1) (cFd (I (o + 1)) (F o 1) (gFive p1 p2 p3 p4 p5)) (m + 6)) (upF F o 1 (F o 1 + 20) m 9) (gFive p1 p2 p3 p4 p5) 20)) (m + 1) (upA I (o + 1) (cFd (I (o + 1)) (F o 1) (gFive p1 p2 p3 p4 p5)) (m + 1))) P Y ws := by
  obtain ⟨g1, g2, g3, g4, ⟨q1, q2, q3, q4, q5⟩, ⟨he, hT, htp, hTm⟩, ⟨g10, g11⟩, g12, g13⟩ := h
  have z3 := g1.2.2.2.2.2
  have e6 : upA I (o + 1) (cFd (I (o + 1)) (F o 1) (gFive p1 p2 p3 p4 p5)) (m + 6) = I (m + 6) := upA_na _ _ _ (by omega)
  have e1 : upA I (o + 1) (cFd (I (o + 1)) (F o 1) (gFive p1 p2 p3 p4 p5)) (m + 1) = I (m + 1) := upA_na _ _ _ (by omega)
  have em : upF F o 1 (F o 1 + 20) m = F m := upF_na _ _ _ _ (by omega)
  rw [e6, e1, em, q4]
  have hfd := htp.feed he.1 (g := gFive p1 p2 p3 p4 p5)
  have fo : ∀ b : Nat, b ≠ m → upF (upF (upF F o 1 (F o 1 + 20)) m 0 0) m 9 (F o 1 + 20) b = upF F o 1 (F o 1 + 20) b := fun b hb => by rw [upF_na _ _ _ _ hb, upF_na _ _ _ _ hb]
  have io : ∀ b : Nat, b ≠ m + 6 → (b < m + 7 ∨ m + 11 < b) → upA (upA I' (m + 6) (sFdN (I (m + 6)) (F o 1) (gFive p1 p2 p3 p4 p5) 20)) (m + 1) (I (m + 1)) b = upA I (o + 1) (cFd (I (o + 1)) (F o 1) (gFive p1 p2 p3 p4 p5)) b := fun b b6 bb => by
    by_cases b1 : b = m + 1
    · subst b1; rw [upA_at, e1]
    · rw [upA_na _ _ _ b1, upA_na _ _ _ b6, hx b bb]
  have fm : ∀ k : Nat, k ≠ 0 → k ≠ 9 → upF (upF (upF F o 1 (F o 1 + 20)) m 0 0) m 9 (F o 1 + 20) m k = F m k := fun k a b => by rw [upF_nk _ _ _ _ b, upF_nk _ _ _ _ a, em]
  have fo1 : upF (upF (upF F o 1 (F o 1 + 20)) m 0 0) m 9 (F o 1 + 20) o = upF F o 1 (F o 1 + 20) o := fo o (by omega)
  have io1 := io (o + 1) (by omega) (by omega)
  rw [upA_at] at io1
  have i6 : upA (upA I' (m + 6) (sFdN (I (m + 6)) (F o 1) (gFive p1 p2 p3 p4 p5) 20)) (m + 1) (I (m + 1)) (m + 6) = sFdN (I (m + 6)) (F o 1) (gFive p1 p2 p3 p4 p5) 20 := by rw [upA_na _ _ _ (by omega), upA_at]
  have ik : ∀ k : Nat, k = 1 ∨ k = 2 ∨ k = 5 → upA (upA I' (m + 6) (sFdN (I (m + 6)) (F o 1) (gFive p1 p2 p3 p4 p5) 20)) (m + 1) (I (m + 1)) (m + k) = I (m + k) := fun k hk => by
    rw [io (m + k) (by omega) (by omega), upA_na _ _ _ (by omega)]
  have g9 := (g1.fr (F' := upF F o 1 (F o 1 + 20)) (I' := upA I (o + 1) (cFd (I (o + 1)) (F o 1) (gFive p1 p2 p3 p4 p5))) (fun b hb => upF_na _ _ _ _ (by omega)) (fun b hb => upA_na _ _ _ (by omega)) (g1.2.2.2.2.1.fr (upA_na _ _ _ (by omega)) (upA_na _ _ _ (by omega)))).1
  refine ⟨g9.mfr (fun b hb => fo b (by omega)) (fun b hb => io b (by omega) (by omega)), ⟨by rw [ik 1 (by omega)]; exact g2.1, g2.2⟩, g3, g4, ⟨by rw [fo1, upF_nk _ _ _ _ (by decide)]; exact q1, by rw [fo1, upF_nk _ _ _ _ (by decide)]; exact q2, by rw [fm 7 (by decide) (by decide), fo1, upF_nk _ _ _ _ (by decide)]; exact q3, by rw [fo1, upF_at, upF_at], by rw [fm 14 (by decide) (by decide), fo1, upF_nk _ _ _ _ (by decide)]; exact q5⟩, ⟨by rw [fo1, upF_at]; omega, ?_, ?_, ?_⟩, ⟨by rw [ik 2 (by omega)]; exact g10, by rw [ik 2 (by omega), fm 6 (by decide) (by decide)]; exact g11⟩, by rw [fo1, upF_nk _ _ _ _ (by decide), upF_nk _ _ _ _ (by decide), ik 5 (by omega), ik 1 (by omega)]; exact g12, rfl⟩
  · rw [io1]
    intro j j0 j1
    by_cases cj : j < F o 1 + 20
    · exact (hfd j j0 cj).1
    · unfold cFd; rw [if_neg (by omega)]; exact hT j j0 j1
  · rw [fo1, upF_at, io1, i6]; exact hfd
  · rw [i6]
    intro j
    by_cases cj : 0 ≤ j ∧ j < F o 1 + 20
    · obtain ⟨⟨a1, a2⟩, a3⟩ := hfd j cj.1 cj.2
      rw [a3]; split <;> omega
    · have e : sFdN (I (m + 6)) (F o 1) (gFive p1 p2 p3 p4 p5) 20 j = I (m + 6) j := by unfold sFdN; rw [if_neg (by omega)]
      rw [e]; exact hTm j
end LIZ
set_option maxHeartbeats 4000000 in
set_option maxRecDepth 100000 in
theorem pp_fault {E : xE} {z : Nat} {T : Nat → Nat × Int} {F : Nat → Nat → Int} {I : Nat → Int → Int} {P : Nat → Nat → Option Nat} {Y : Nat → Int → Option Nat} {o m : Nat} {ws : Nat → Option wWo} {ad adv : Nat → Nat} {sio : Option Nat} {qS v0 : Nat} {tx : String} (hV : xEnv E ad adv sio qS v0 tx) (h : LI o m z T F I P Y ws) : Ct E 60 mX11_fault 0 0 [.ref o] (z, T, F, I, P, Y) (xPP E o m mX12_fault []) := by
  obtain ⟨a, h3, hS, hI, h1, hw⟩ := h.get
  have hO := hI.1.1.1
  have hLw := hI.1.1.2.1
  have hr9 := hI.1.2.1
  have o0 := hO.2.1
  have hL := h.1
  have hu := h.2.1.1
  have h4 := h.2.2.1
  obtain ⟨hf, hc, q3, q4, q5⟩ := h.2.2.2.2.1
  obtain ⟨he, hT, htp, hTm⟩ := h.2.2.2.2.2.1
  refine Ct.post (fun v h1' e => ?_) ((ct_X11_fault h1 h3 hS).up (by decide))
  obtain ⟨rfl, rfl⟩ := e
  have hLs := h.rf
  have kin := h.kin hLs
  have w1 : I (m + 1) = I (m + 1) := kin.2.2.2.2.2.1
  refine ⟨jn _, _, _, _, _, _, _, by rw [jn_J], jn_r _, rfl, ⟨kin.1, kin.2.1⟩, Ct.post (fun v2 h2 e2 => ?_) ((Ct.own (ct_X12_fault (F := F) (I := I) (w := I (m + 1)) kin.2.1 )).up (by decide))⟩
  obtain ⟨e3, rfl⟩ := e2
  rw [q5] at e3
  obtain ⟨ws2, hLI⟩ := h.ask0 hLs (t := 0) (fun _ _ _ => rfl) hu (Ib := I) (fun _ _ => rfl) xScr.rf
  exact ⟨_, _, ws2, e3.trans (by rw [jn_J]), rfl, hLI⟩

set_option maxHeartbeats 4000000 in
set_option maxRecDepth 100000 in
theorem pp_debt {E : xE} {z : Nat} {T : Nat → Nat × Int} {F : Nat → Nat → Int} {I : Nat → Int → Int} {P : Nat → Nat → Option Nat} {Y : Nat → Int → Option Nat} {o m : Nat} {ws : Nat → Option wWo} {ad adv : Nat → Nat} {sio : Option Nat} {qS v0 : Nat} {tx : String} (hV : xEnv E ad adv sio qS v0 tx) (h : LI o m z T F I P Y ws) : Ct E 60 mX11_debt 0 0 [.ref o] (z, T, F, I, P, Y) (xPP E o m mX12_debt []) := by
  obtain ⟨a, h3, hS, hI, h1, hw⟩ := h.get
  have hO := hI.1.1.1
  have hLw := hI.1.1.2.1
  have hr9 := hI.1.2.1
  have o0 := hO.2.1
  have hL := h.1
  have hu := h.2.1.1
  have h4 := h.2.2.1
  obtain ⟨hf, hc, q3, q4, q5⟩ := h.2.2.2.2.1
  obtain ⟨he, hT, htp, hTm⟩ := h.2.2.2.2.2.1
  refine Ct.post (fun v h1' e => ?_) ((ct_X11_debt h1 h3 hS hr9).up (by decide))
  obtain ⟨rfl, rfl⟩ := e
  have hLs := h.rf
  have kin := h.kin hLs
  have w1 : I (m + 1) = I (m + 1) := kin.2.2.2.2.2.1
  refine ⟨jn _, _, _, _, _, _, _, by rw [jn_J], jn_r _, rfl, ⟨kin.1, kin.2.1⟩, Ct.post (fun v2 h2 e2 => ?_) ((Ct.own (ct_X12_debt (F := F) (I := I) (w := I (m + 1)) kin.2.1 (by rw [w1]; exact hO))).up (by decide))⟩
  obtain ⟨e3, rfl⟩ := e2
  obtain ⟨ws2, hLI⟩ := h.ask0 hLs (t := 0) (fun _ _ _ => rfl) hu (Ib := I) (fun _ _ => rfl) xScr.rf
  exact ⟨_, _, ws2, e3.trans (by rw [jn_J]), rfl, hLI⟩

set_option maxHeartbeats 4000000 in
set_option maxRecDepth 100000 in
theorem pp_slice {E : xE} {z : Nat} {T : Nat → Nat × Int} {F : Nat → Nat → Int} {I : Nat → Int → Int} {P : Nat → Nat → Option Nat} {Y : Nat → Int → Option Nat} {o m : Nat} {ws : Nat → Option wWo} {ad adv : Nat → Nat} {sio : Option Nat} {qS v0 : Nat} {tx : String} (hV : xEnv E ad adv sio qS v0 tx) (h : LI o m z T F I P Y ws) : Ct E 60 mX11_slice 0 0 [.ref o] (z, T, F, I, P, Y) (xPP E o m mX12_slice []) := by
  obtain ⟨a, h3, hS, hI, h1, hw⟩ := h.get
  have hO := hI.1.1.1
  have hLw := hI.1.1.2.1
  have hr9 := hI.1.2.1
  have o0 := hO.2.1
  have hL := h.1
  have hu := h.2.1.1
  have h4 := h.2.2.1
  obtain ⟨hf, hc, q3, q4, q5⟩ := h.2.2.2.2.1
  obtain ⟨he, hT, htp, hTm⟩ := h.2.2.2.2.2.1
  refine Ct.post (fun v h1' e => ?_) ((ct_X11_slice h1 h3 hS hr9).up (by decide))
  obtain ⟨rfl, F9, I9, P9, Y9, rfl, hS9, hF9⟩ := e
  have hLs := h.liv h3 hS9 hI hF9
  have kin := h.kin hLs
  have w1 : I9 (m + 1) = I (m + 1) := kin.2.2.2.2.2.1
  refine ⟨jn _, _, _, _, _, _, _, by rw [jn_J], jn_r _, rfl, ⟨kin.1, kin.2.1⟩, Ct.post (fun v2 h2 e2 => ?_) ((Ct.own (ct_X12_slice (F := F9) (I := I9) (w := I9 (m + 1)) kin.2.1 (by rw [w1]; exact hO) (by rw [w1]; exact hLw))).up (by decide))⟩
  obtain ⟨e3, I', hx, rfl⟩ := e2
  rw [w1] at e3
  obtain ⟨ws2, hLI⟩ := h.ask0 hLs (t := 0) (fun s a b => wsU_na a) wsU_at (Ib := I9) (fun _ _ => rfl) hx
  exact ⟨_, _, ws2, e3.trans (by rw [jn_J]), by rw [w1], hLI⟩

set_option maxHeartbeats 4000000 in
set_option maxRecDepth 100000 in
theorem pp_many {E : xE} {z : Nat} {T : Nat → Nat × Int} {F : Nat → Nat → Int} {I : Nat → Int → Int} {P : Nat → Nat → Option Nat} {Y : Nat → Int → Option Nat} {o m : Nat} {ws : Nat → Option wWo} {ad adv : Nat → Nat} {sio : Option Nat} {qS v0 : Nat} {tx : String} (hV : xEnv E ad adv sio qS v0 tx) (h : LI o m z T F I P Y ws) : Ct E 60 mX11_many 0 0 [.ref o] (z, T, F, I, P, Y) (xPP E o m mX12_many []) := by
  obtain ⟨a, h3, hS, hI, h1, hw⟩ := h.get
  have hO := hI.1.1.1
  have hLw := hI.1.1.2.1
  have hr9 := hI.1.2.1
  have o0 := hO.2.1
  have hL := h.1
  have hu := h.2.1.1
  have h4 := h.2.2.1
  obtain ⟨hf, hc, q3, q4, q5⟩ := h.2.2.2.2.1
  obtain ⟨he, hT, htp, hTm⟩ := h.2.2.2.2.2.1
  refine Ct.post (fun v h1' e => ?_) ((ct_X11_many h1 h3 hS).up (by decide))
  obtain ⟨rfl, rfl⟩ := e
  have hLs := h.rf
  have kin := h.kin hLs
  have w1 : I (m + 1) = I (m + 1) := kin.2.2.2.2.2.1
  refine ⟨jn _, _, _, _, _, _, _, by rw [jn_J], jn_r _, rfl, ⟨kin.1, kin.2.1⟩, Ct.post (fun v2 h2 e2 => ?_) ((Ct.own (ct_X12_many (F := F) (I := I) (w := I (m + 1)) kin.2.1 (by rw [w1]; exact hO))).up (by decide))⟩
  obtain ⟨e3, rfl⟩ := e2
  obtain ⟨ws2, hLI⟩ := h.ask0 hLs (t := 0) (fun _ _ _ => rfl) hu (Ib := I) (fun _ _ => rfl) xScr.rf
  exact ⟨_, _, ws2, e3.trans (by rw [jn_J]), rfl, hLI⟩

set_option maxHeartbeats 4000000 in
set_option maxRecDepth 100000 in
theorem pp_rank {E : xE} {z : Nat} {T : Nat → Nat × Int} {F : Nat → Nat → Int} {I : Nat → Int → Int} {P : Nat → Nat → Option Nat} {Y : Nat → Int → Option Nat} {o m : Nat} {ws : Nat → Option wWo} {ad adv : Nat → Nat} {sio : Option Nat} {qS v0 : Nat} {tx : String} (hV : xEnv E ad adv sio qS v0 tx) (h : LI o m z T F I P Y ws) {p : Int} (hp : -2147483648 ≤ p ∧ p < 2147483648) : Ct E 60 mX11_rank 0 0 [.ref o, J p] (z, T, F, I, P, Y) (xPP E o m mX12_rank [J p]) := by
  obtain ⟨a, h3, hS, hI, h1, hw⟩ := h.get
  have hO := hI.1.1.1
  have hLw := hI.1.1.2.1
  have hr9 := hI.1.2.1
  have o0 := hO.2.1
  have hL := h.1
  have hu := h.2.1.1
  have h4 := h.2.2.1
  obtain ⟨hf, hc, q3, q4, q5⟩ := h.2.2.2.2.1
  obtain ⟨he, hT, htp, hTm⟩ := h.2.2.2.2.2.1
  refine Ct.post (fun v h1' e => ?_) ((ct_X11_rank h1 h3 hS hp).up (by decide))
  obtain ⟨rfl, rfl⟩ := e
  have hLs := h.rf
  have kin := h.kin hLs
  have w1 : I (m + 1) = I (m + 1) := kin.2.2.2.2.2.1
  refine ⟨jn _, _, _, _, _, _, _, by rw [jn_J], jn_r _, rfl, ⟨kin.1, kin.2.1⟩, Ct.post (fun v2 h2 e2 => ?_) ((Ct.own (ct_X12_rank (F := F) (I := I) (w := I (m + 1)) kin.2.1 (by rw [w1]; exact hO) hp)).up (by decide))⟩
  obtain ⟨e3, rfl⟩ := e2
  obtain ⟨ws2, hLI⟩ := h.ask0 hLs (t := 0) (fun _ _ _ => rfl) hu (Ib := I) (fun _ _ => rfl) xScr.rf
  exact ⟨_, _, ws2, e3.trans (by rw [jn_J]), rfl, hLI⟩

set_option maxHeartbeats 4000000 in
set_option maxRecDepth 100000 in
theorem pp_over {E : xE} {z : Nat} {T : Nat → Nat × Int} {F : Nat → Nat → Int} {I : Nat → Int → Int} {P : Nat → Nat → Option Nat} {Y : Nat → Int → Option Nat} {o m : Nat} {ws : Nat → Option wWo} {ad adv : Nat → Nat} {sio : Option Nat} {qS v0 : Nat} {tx : String} (hV : xEnv E ad adv sio qS v0 tx) (h : LI o m z T F I P Y ws) {bb : Bool} : Ct E 60 mX11_over 0 0 [.ref o, J (bI bb)] (z, T, F, I, P, Y) (xPP E o m mX12_over [J (bI bb)]) := by
  obtain ⟨a, h3, hS, hI, h1, hw⟩ := h.get
  have hO := hI.1.1.1
  have hLw := hI.1.1.2.1
  have hr9 := hI.1.2.1
  have o0 := hO.2.1
  have hL := h.1
  have hu := h.2.1.1
  have h4 := h.2.2.1
  obtain ⟨hf, hc, q3, q4, q5⟩ := h.2.2.2.2.1
  obtain ⟨he, hT, htp, hTm⟩ := h.2.2.2.2.2.1
  cases bb
  · refine Ct.post (fun v h1' e => ?_) ((ct_X11_over h1 h3 hS hr9 (b := false)).up (by decide))
    obtain ⟨rfl, rfl⟩ := e
    have hLs := h.rf
    have kin := h.kin hLs
    have w1 : I (m + 1) = I (m + 1) := kin.2.2.2.2.2.1
    refine ⟨jn _, _, _, _, _, _, _, by rw [jn_J], jn_r _, rfl, ⟨kin.1, kin.2.1⟩, Ct.post (fun v2 h2 e2 => ?_) ((Ct.own (ct_X12_over_f (F := F) (I := I) (w := I (m + 1)) kin.2.1 (by rw [w1]; exact hO))).up (by decide))⟩
    obtain ⟨e3, rfl⟩ := e2
    obtain ⟨ws2, hLI⟩ := h.ask0 hLs (t := 0) (fun _ _ _ => rfl) hu (Ib := I) (fun _ _ => rfl) xScr.rf
    exact ⟨_, _, ws2, e3.trans (by rw [jn_J]), rfl, hLI⟩
  · refine Ct.post (fun v h1' e => ?_) ((ct_X11_over h1 h3 hS hr9 (b := true)).up (by decide))
    obtain ⟨rfl, rfl⟩ := e
    have hLs := h.rf
    have kin := h.kin hLs
    have w1 : I (m + 1) = I (m + 1) := kin.2.2.2.2.2.1
    refine ⟨jn _, _, _, _, _, _, _, by rw [jn_J], jn_r _, rfl, ⟨kin.1, kin.2.1⟩, Ct.post (fun v2 h2 e2 => ?_) ((Ct.own (ct_X12_over_t (F := F) (I := I) (w := I (m + 1)) kin.2.1 (by rw [w1]; exact hO))).up (by decide))⟩
    obtain ⟨e3, rfl⟩ := e2
    obtain ⟨ws2, hLI⟩ := h.ask0 hLs (t := 0) (fun _ _ _ => rfl) hu (Ib := I) (fun _ _ => rfl) xScr.rf
    exact ⟨_, _, ws2, e3.trans (by rw [jn_J]), rfl, hLI⟩

set_option maxHeartbeats 4000000 in
set_option maxRecDepth 100000 in
theorem pp_cheapest {E : xE} {z : Nat} {T : Nat → Nat × Int} {F : Nat → Nat → Int} {I : Nat → Int → Int} {P : Nat → Nat → Option Nat} {Y : Nat → Int → Option Nat} {o m : Nat} {ws : Nat → Option wWo} {ad adv : Nat → Nat} {sio : Option Nat} {qS v0 : Nat} {tx : String} (hV : xEnv E ad adv sio qS v0 tx) (h : LI o m z T F I P Y ws) {bb : Bool} : Ct E 60 mX11_cheapest 0 0 [.ref o, J (bI bb)] (z, T, F, I, P, Y) (xPP E o m mX12_cheapest [J (bI bb)]) := by
  obtain ⟨a, h3, hS, hI, h1, hw⟩ := h.get
  have hO := hI.1.1.1
  have hLw := hI.1.1.2.1
  have hr9 := hI.1.2.1
  have o0 := hO.2.1
  have hL := h.1
  have hu := h.2.1.1
  have h4 := h.2.2.1
  obtain ⟨hf, hc, q3, q4, q5⟩ := h.2.2.2.2.1
  obtain ⟨he, hT, htp, hTm⟩ := h.2.2.2.2.2.1
  refine Ct.post (fun v h1' e => ?_) ((ct_X11_cheapest h1 h3 hS hL.1.2.2.2.2.2.2.1 hL.1.2.2.2.2.2.2.2).up (by decide))
  obtain ⟨rfl, I9, rfl, hC9⟩ := e
  have hLs := (h.cho hC9).2
  have kin := h.kin hLs
  have w1 : I9 (m + 1) = I (m + 1) := kin.2.2.2.2.2.1
  refine ⟨jn _, _, _, _, _, _, _, by rw [jn_J], jn_r _, rfl, ⟨kin.1, kin.2.1⟩, Ct.post (fun v2 h2 e2 => ?_) ((Ct.own (ct_X12_cheapest (F := F) (I := I9) (w := I9 (m + 1)) kin.2.1 (by rw [w1]; exact hO))).up (by decide))⟩
  obtain ⟨e3, I', hx, rfl⟩ := e2
  rw [w1] at e3
  obtain ⟨ws2, hLI⟩ := h.ask0 hLs (t := 0) (fun _ _ _ => rfl) hu (Ib := I9) (fun _ _ => rfl) hx
  exact ⟨_, _, ws2, e3.trans (by rw [jn_J]), by rw [w1], hLI⟩

set_option maxHeartbeats 4000000 in
set_option maxRecDepth 100000 in
theorem pp_deepest {E : xE} {z : Nat} {T : Nat → Nat × Int} {F : Nat → Nat → Int} {I : Nat → Int → Int} {P : Nat → Nat → Option Nat} {Y : Nat → Int → Option Nat} {o m : Nat} {ws : Nat → Option wWo} {ad adv : Nat → Nat} {sio : Option Nat} {qS v0 : Nat} {tx : String} (hV : xEnv E ad adv sio qS v0 tx) (h : LI o m z T F I P Y ws) : Ct E 60 mX11_deepest 0 0 [.ref o] (z, T, F, I, P, Y) (xPP E o m mX12_deepest []) := by
  obtain ⟨a, h3, hS, hI, h1, hw⟩ := h.get
  have hO := hI.1.1.1
  have hLw := hI.1.1.2.1
  have hr9 := hI.1.2.1
  have o0 := hO.2.1
  have hL := h.1
  have hu := h.2.1.1
  have h4 := h.2.2.1
  obtain ⟨hf, hc, q3, q4, q5⟩ := h.2.2.2.2.1
  obtain ⟨he, hT, htp, hTm⟩ := h.2.2.2.2.2.1
  refine Ct.post (fun v h1' e => ?_) ((ct_X11_deepest h1 h3 hS).up (by decide))
  obtain ⟨rfl, rfl⟩ := e
  have hLs := h.rf
  have kin := h.kin hLs
  have w1 : I (m + 1) = I (m + 1) := kin.2.2.2.2.2.1
  refine ⟨jn _, _, _, _, _, _, _, by rw [jn_J], jn_r _, rfl, ⟨kin.1, kin.2.1⟩, Ct.post (fun v2 h2 e2 => ?_) ((Ct.own (ct_X12_deepest (F := F) (I := I) (w := I (m + 1)) kin.2.1 (by rw [w1]; exact hO))).up (by decide))⟩
  obtain ⟨e3, rfl⟩ := e2
  obtain ⟨ws2, hLI⟩ := h.ask0 hLs (t := 0) (fun _ _ _ => rfl) hu (Ib := I) (fun _ _ => rfl) xScr.rf
  exact ⟨_, _, ws2, e3.trans (by rw [jn_J]), rfl, hLI⟩

set_option maxHeartbeats 4000000 in
set_option maxRecDepth 100000 in
theorem pp_lead {E : xE} {z : Nat} {T : Nat → Nat × Int} {F : Nat → Nat → Int} {I : Nat → Int → Int} {P : Nat → Nat → Option Nat} {Y : Nat → Int → Option Nat} {o m : Nat} {ws : Nat → Option wWo} {ad adv : Nat → Nat} {sio : Option Nat} {qS v0 : Nat} {tx : String} (hV : xEnv E ad adv sio qS v0 tx) (h : LI o m z T F I P Y ws) : Ct E 60 mX11_lead 0 0 [.ref o] (z, T, F, I, P, Y) (xPP E o m mX12_lead []) := by
  obtain ⟨a, h3, hS, hI, h1, hw⟩ := h.get
  have hO := hI.1.1.1
  have hLw := hI.1.1.2.1
  have hr9 := hI.1.2.1
  have o0 := hO.2.1
  have hL := h.1
  have hu := h.2.1.1
  have h4 := h.2.2.1
  obtain ⟨hf, hc, q3, q4, q5⟩ := h.2.2.2.2.1
  obtain ⟨he, hT, htp, hTm⟩ := h.2.2.2.2.2.1
  refine Ct.post (fun v h1' e => ?_) ((ct_X11_lead h1 h3 hS hL.1.2.2.2.2.2.2.1 hL.1.2.2.2.2.2.2.2).up (by decide))
  obtain ⟨rfl, I9, rfl, hC9⟩ := e
  have hLs := (h.cho hC9).2
  have kin := h.kin hLs
  have w1 : I9 (m + 1) = I (m + 1) := kin.2.2.2.2.2.1
  refine ⟨jn _, _, _, _, _, _, _, by rw [jn_J], jn_r _, rfl, ⟨kin.1, kin.2.1⟩, Ct.post (fun v2 h2 e2 => ?_) ((Ct.own (ct_X12_lead (F := F) (I := I9) (w := I9 (m + 1)) kin.2.1 (by rw [w1]; exact hO))).up (by decide))⟩
  obtain ⟨e3, I', hx, rfl⟩ := e2
  rw [w1] at e3
  obtain ⟨ws2, hLI⟩ := h.ask0 hLs (t := 0) (fun _ _ _ => rfl) hu (Ib := I9) (fun _ _ => rfl) hx
  exact ⟨_, _, ws2, e3.trans (by rw [jn_J]), by rw [w1], hLI⟩

set_option maxHeartbeats 4000000 in
set_option maxRecDepth 100000 in
theorem pp_side {E : xE} {z : Nat} {T : Nat → Nat × Int} {F : Nat → Nat → Int} {I : Nat → Int → Int} {P : Nat → Nat → Option Nat} {Y : Nat → Int → Option Nat} {o m : Nat} {ws : Nat → Option wWo} {ad adv : Nat → Nat} {sio : Option Nat} {qS v0 : Nat} {tx : String} (hV : xEnv E ad adv sio qS v0 tx) (h : LI o m z T F I P Y ws) : Ct E 60 mX11_side 0 0 [.ref o] (z, T, F, I, P, Y) (xPP E o m mX12_side []) := by
  obtain ⟨a, h3, hS, hI, h1, hw⟩ := h.get
  have hO := hI.1.1.1
  have hLw := hI.1.1.2.1
  have hr9 := hI.1.2.1
  have o0 := hO.2.1
  have hL := h.1
  have hu := h.2.1.1
  have h4 := h.2.2.1
  obtain ⟨hf, hc, q3, q4, q5⟩ := h.2.2.2.2.1
  obtain ⟨he, hT, htp, hTm⟩ := h.2.2.2.2.2.1
  refine Ct.post (fun v h1' e => ?_) ((ct_X11_side h1 h3 hS hL.1.2.2.2.2.2.2.1 hL.1.2.2.2.2.2.2.2).up (by decide))
  obtain ⟨rfl, I9, rfl, hC9⟩ := e
  have hLs := (h.cho hC9).2
  have kin := h.kin hLs
  have w1 : I9 (m + 1) = I (m + 1) := kin.2.2.2.2.2.1
  refine ⟨jn _, _, _, _, _, _, _, by rw [jn_J], jn_r _, rfl, ⟨kin.1, kin.2.1⟩, Ct.post (fun v2 h2 e2 => ?_) ((Ct.own (ct_X12_side (F := F) (I := I9) (w := I9 (m + 1)) kin.2.1 (by rw [w1]; exact hO))).up (by decide))⟩
  obtain ⟨e3, I', hx, rfl⟩ := e2
  rw [w1] at e3
  obtain ⟨ws2, hLI⟩ := h.ask0 hLs (t := 0) (fun _ _ _ => rfl) hu (Ib := I9) (fun _ _ => rfl) hx
  exact ⟨_, _, ws2, e3.trans (by rw [jn_J]), by rw [w1], hLI⟩

set_option maxHeartbeats 4000000 in
set_option maxRecDepth 100000 in
theorem pp_rests {E : xE} {z : Nat} {T : Nat → Nat × Int} {F : Nat → Nat → Int} {I : Nat → Int → Int} {P : Nat → Nat → Option Nat} {Y : Nat → Int → Option Nat} {o m : Nat} {ws : Nat → Option wWo} {ad adv : Nat → Nat} {sio : Option Nat} {qS v0 : Nat} {tx : String} (hV : xEnv E ad adv sio qS v0 tx) (h : LI o m z T F I P Y ws) : Ct E 60 mX11_rests 0 0 [.ref o] (z, T, F, I, P, Y) (xPP E o m mX12_rests []) := by
  obtain ⟨a, h3, hS, hI, h1, hw⟩ := h.get
  have hO := hI.1.1.1
  have hLw := hI.1.1.2.1
  have hr9 := hI.1.2.1
  have o0 := hO.2.1
  have hL := h.1
  have hu := h.2.1.1
  have h4 := h.2.2.1
  obtain ⟨hf, hc, q3, q4, q5⟩ := h.2.2.2.2.1
  obtain ⟨he, hT, htp, hTm⟩ := h.2.2.2.2.2.1
  refine Ct.post (fun v h1' e => ?_) ((ct_X11_rests h1 h3 hS hL.1.2.2.2.2.2.2.1 hL.1.2.2.2.2.2.2.2 hr9).up (by decide))
  obtain ⟨rfl, I9, rfl, hC9⟩ := e
  have hLs := (h.cho hC9).2
  have kin := h.kin hLs
  have w1 : I9 (m + 1) = I (m + 1) := kin.2.2.2.2.2.1
  refine ⟨jn _, _, _, _, _, _, _, by rw [jn_J], jn_r _, rfl, ⟨kin.1, kin.2.1⟩, Ct.post (fun v2 h2 e2 => ?_) ((Ct.own (ct_X12_rests (F := F) (I := I9) (w := I9 (m + 1)) kin.2.1 (by rw [w1]; exact hO))).up (by decide))⟩
  obtain ⟨e3, rfl⟩ := e2
  rw [w1] at e3
  obtain ⟨ws2, hLI⟩ := h.ask0 hLs (t := 0) (fun _ _ _ => rfl) hu (Ib := I9) (fun _ _ => rfl) xScr.rf
  exact ⟨_, _, ws2, e3.trans (by rw [jn_J]), by rw [w1], hLI⟩

set_option maxHeartbeats 4000000 in
set_option maxRecDepth 100000 in
theorem pp_twins {E : xE} {z : Nat} {T : Nat → Nat × Int} {F : Nat → Nat → Int} {I : Nat → Int → Int} {P : Nat → Nat → Option Nat} {Y : Nat → Int → Option Nat} {o m : Nat} {ws : Nat → Option wWo} {ad adv : Nat → Nat} {sio : Option Nat} {qS v0 : Nat} {tx : String} (hV : xEnv E ad adv sio qS v0 tx) (h : LI o m z T F I P Y ws) : Ct E 60 mX11_twins 0 0 [.ref o] (z, T, F, I, P, Y) (xPP E o m mX12_twins []) := by
  obtain ⟨a, h3, hS, hI, h1, hw⟩ := h.get
  have hO := hI.1.1.1
  have hLw := hI.1.1.2.1
  have hr9 := hI.1.2.1
  have o0 := hO.2.1
  have hL := h.1
  have hu := h.2.1.1
  have h4 := h.2.2.1
  obtain ⟨hf, hc, q3, q4, q5⟩ := h.2.2.2.2.1
  obtain ⟨he, hT, htp, hTm⟩ := h.2.2.2.2.2.1
  refine Ct.post (fun v h1' e => ?_) ((ct_X11_twins h1 h3 hS).up (by decide))
  obtain ⟨rfl, rfl⟩ := e
  have hLs := h.rf
  have kin := h.kin hLs
  have w1 : I (m + 1) = I (m + 1) := kin.2.2.2.2.2.1
  refine ⟨jn _, _, _, _, _, _, _, by rw [jn_J], jn_r _, rfl, ⟨kin.1, kin.2.1⟩, Ct.post (fun v2 h2 e2 => ?_) ((Ct.own (ct_X12_twins (F := F) (I := I) (w := I (m + 1)) kin.2.1 (by rw [w1]; exact hO))).up (by decide))⟩
  obtain ⟨e3, rfl⟩ := e2
  obtain ⟨ws2, hLI⟩ := h.ask0 hLs (t := 0) (fun _ _ _ => rfl) hu (Ib := I) (fun _ _ => rfl) xScr.rf
  exact ⟨_, _, ws2, e3.trans (by rw [jn_J]), rfl, hLI⟩

set_option maxHeartbeats 4000000 in
set_option maxRecDepth 100000 in
theorem pp_count {E : xE} {z : Nat} {T : Nat → Nat × Int} {F : Nat → Nat → Int} {I : Nat → Int → Int} {P : Nat → Nat → Option Nat} {Y : Nat → Int → Option Nat} {o m : Nat} {ws : Nat → Option wWo} {ad adv : Nat → Nat} {sio : Option Nat} {qS v0 : Nat} {tx : String} (hV : xEnv E ad adv sio qS v0 tx) (h : LI o m z T F I P Y ws) {p : Int} (hp : -2147483648 ≤ p ∧ p < 2147483648) : Ct E 60 mX11_count 0 0 [.ref o, J p] (z, T, F, I, P, Y) (xPP E o m mX12_count [J p]) := by
  obtain ⟨a, h3, hS, hI, h1, hw⟩ := h.get
  have hO := hI.1.1.1
  have hLw := hI.1.1.2.1
  have hr9 := hI.1.2.1
  have o0 := hO.2.1
  have hL := h.1
  have hu := h.2.1.1
  have h4 := h.2.2.1
  obtain ⟨hf, hc, q3, q4, q5⟩ := h.2.2.2.2.1
  obtain ⟨he, hT, htp, hTm⟩ := h.2.2.2.2.2.1
  refine Ct.post (fun v h1' e => ?_) ((ct_X11_count h1 h3 hS hp).up (by decide))
  obtain ⟨rfl, rfl⟩ := e
  have hLs := h.rf
  have kin := h.kin hLs
  have w1 : I (m + 1) = I (m + 1) := kin.2.2.2.2.2.1
  refine ⟨jn _, _, _, _, _, _, _, by rw [jn_J], jn_r _, rfl, ⟨kin.1, kin.2.1⟩, Ct.post (fun v2 h2 e2 => ?_) ((Ct.own (ct_X12_count (F := F) (I := I) (w := I (m + 1)) kin.2.1 (by rw [w1]; exact hO) hp)).up (by decide))⟩
  obtain ⟨e3, rfl⟩ := e2
  rw [q3] at e3
  obtain ⟨ws2, hLI⟩ := h.ask0 hLs (t := 0) (fun _ _ _ => rfl) hu (Ib := I) (fun _ _ => rfl) xScr.rf
  exact ⟨_, _, ws2, e3.trans (by rw [jn_J]), rfl, hLI⟩

set_option maxHeartbeats 4000000 in
set_option maxRecDepth 100000 in
theorem pp_plan {E : xE} {z : Nat} {T : Nat → Nat × Int} {F : Nat → Nat → Int} {I : Nat → Int → Int} {P : Nat → Nat → Option Nat} {Y : Nat → Int → Option Nat} {o m : Nat} {ws : Nat → Option wWo} {ad adv : Nat → Nat} {sio : Option Nat} {qS v0 : Nat} {tx : String} (hV : xEnv E ad adv sio qS v0 tx) (h : LI o m z T F I P Y ws) {bb : Bool} : Ct E 60 mX11_plan 57 2100 [.ref o, J (bI bb)] (z, T, F, I, P, Y) (xPP E o m mX12_plan [J (bI bb)]) := by
  obtain ⟨a, h3, hS, hI, h1, hw⟩ := h.get
  have hO := hI.1.1.1
  have hLw := hI.1.1.2.1
  have hr9 := hI.1.2.1
  have o0 := hO.2.1
  have hL := h.1
  have hu := h.2.1.1
  have h4 := h.2.2.1
  obtain ⟨hf, hc, q3, q4, q5⟩ := h.2.2.2.2.1
  obtain ⟨he, hT, htp, hTm⟩ := h.2.2.2.2.2.1
  cases bb
  · refine Ct.post (fun v h1' e => ?_) ((ct_X11_plan hL hV.1 h3 h4 hu hf hc (v := 0) (by omega)).up (by decide))
    obtain ⟨z9, T9, F9, I9, P9, Y9, rfl, rfl, hLs⟩ := LSt.of e
    have kin := h.kin hLs
    have w1 : I9 (m + 1) = I (m + 1) := kin.2.2.2.2.2.1
    have h3w := hO.2.2.2.2.1
    refine ⟨jn _, _, _, _, _, _, _, by rw [jn_J], jn_r _, rfl, ⟨kin.1, kin.2.1⟩, Ct.post (fun v2 h2 e2 => ?_) ((Ct.own (ct_X12_plan_f (F := F9) (I := I9) (w := I9 (m + 1)) kin.2.1 (by rw [w1]; exact hO) (by rw [kin.2.2.2.2.1, q3]; omega))).up (by decide))⟩
    obtain ⟨e3, I', hx, rfl⟩ := e2
    rw [w1] at e3
    have hten : sPlan (I (m + 1)) 0 10 ≤ 9999 := by unfold sPlan; rw [wS_ne _ _ _ (by omega), halt10 hO]; exact h.ten
    have hhi : wHi (I (m + 1)) (sPlan (I (m + 1)) 0) := (wHi_halt hO).tr (wHi_S _ _ _ (by omega))
    have hwi : wI2 (sPlan (I (m + 1)) 0) := wI2_no (wI2_halt hI) (by omega) (by unfold wCell; omega)
    obtain ⟨ws2, hLI⟩ := h.rem hLs hten hhi (Ib := I9) (fun _ _ => rfl) hx hwi
    exact ⟨_, _, ws2, e3.trans (by rw [jn_J]), by rw [w1], hLI⟩
  · refine Ct.post (fun v h1' e => ?_) ((ct_X11_plan hL hV.1 h3 h4 hu hf hc (v := 1) (by omega)).up (by decide))
    obtain ⟨z9, T9, F9, I9, P9, Y9, rfl, rfl, hLs⟩ := LSt.of e
    have kin := h.kin hLs
    have w1 : I9 (m + 1) = I (m + 1) := kin.2.2.2.2.2.1
    have h3w := hO.2.2.2.2.1
    refine ⟨jn _, _, _, _, _, _, _, by rw [jn_J], jn_r _, rfl, ⟨kin.1, kin.2.1⟩, Ct.post (fun v2 h2 e2 => ?_) ((Ct.own (ct_X12_plan_t (F := F9) (I := I9) (w := I9 (m + 1)) kin.2.1 (by rw [w1]; exact hO) (by rw [kin.2.2.2.2.1, q3]; omega))).up (by decide))⟩
    obtain ⟨e3, I', hx, rfl⟩ := e2
    rw [w1] at e3
    have hten : sPlan (I (m + 1)) 1 10 ≤ 9999 := by unfold sPlan; rw [wS_ne _ _ _ (by omega), halt10 hO]; exact h.ten
    have hhi : wHi (I (m + 1)) (sPlan (I (m + 1)) 1) := (wHi_halt hO).tr (wHi_S _ _ _ (by omega))
    have hwi : wI2 (sPlan (I (m + 1)) 1) := wI2_no (wI2_halt hI) (by omega) (by unfold wCell; omega)
    obtain ⟨ws2, hLI⟩ := h.rem hLs hten hhi (Ib := I9) (fun _ _ => rfl) hx hwi
    exact ⟨_, _, ws2, e3.trans (by rw [jn_J]), by rw [w1], hLI⟩

set_option maxHeartbeats 4000000 in
set_option maxRecDepth 100000 in
theorem pp_seed {E : xE} {z : Nat} {T : Nat → Nat × Int} {F : Nat → Nat → Int} {I : Nat → Int → Int} {P : Nat → Nat → Option Nat} {Y : Nat → Int → Option Nat} {o m : Nat} {ws : Nat → Option wWo} {ad adv : Nat → Nat} {sio : Option Nat} {qS v0 : Nat} {tx : String} (hV : xEnv E ad adv sio qS v0 tx) (h : LI o m z T F I P Y ws) {p : Int} (hp : -2147483648 ≤ p ∧ p < 2147483648) : Ct E 60 mX11_seed 0 0 [.ref o, J p] (z, T, F, I, P, Y) (xPP E o m mX12_seed [J p]) := by
  obtain ⟨a, h3, hS, hI, h1, hw⟩ := h.get
  have hO := hI.1.1.1
  have hLw := hI.1.1.2.1
  have hr9 := hI.1.2.1
  have o0 := hO.2.1
  have hL := h.1
  have hu := h.2.1.1
  have h4 := h.2.2.1
  obtain ⟨hf, hc, q3, q4, q5⟩ := h.2.2.2.2.1
  obtain ⟨he, hT, htp, hTm⟩ := h.2.2.2.2.2.1
  refine Ct.post (fun v h1' e => ?_) ((ct_X11_seed h1 h3 hS hI hp).up (by decide))
  obtain ⟨rfl, F9, I9, P9, Y9, rfl, hS9, hF9⟩ := e
  have hW9 := wI2_s15 hI hp
  have hLs := h.liv h3 hS9 hW9 hF9
  have kin := h.kin hLs
  have w1 : I9 (m + 1) = I (m + 1) := kin.2.2.2.2.2.1
  refine ⟨jn _, _, _, _, _, _, _, by rw [jn_J], jn_r _, rfl, ⟨kin.1, kin.2.1⟩, Ct.post (fun v2 h2 e2 => ?_) ((Ct.own (ct_X12_seed (F := F9) (I := I9) (w := I9 (m + 1)) kin.2.1 (by rw [w1]; exact hO) hp)).up (by decide))⟩
  obtain ⟨e3, rfl⟩ := e2
  rw [w1] at e3
  obtain ⟨ws2, hLI⟩ := h.ask hLs (fun s a b => wsU_na a) wsU_at (by rw [wS_ne _ _ _ (by omega)]; exact h.ten) (fun j a b => wS_ne _ _ _ (by omega)) (Ib := I9) (fun _ _ => rfl) xScr.rf (F2 := upF F9 m 0 0) ⟨fun b hb => upF_na _ _ _ _ hb, by rw [upF_nk _ _ _ _ (by decide), kin.2.2.2.2.1], by rw [upF_nk _ _ _ _ (by decide), kin.2.2.2.2.1], by rw [upF_nk _ _ _ _ (by decide), kin.2.2.2.2.1, q4], by rw [upF_nk _ _ _ _ (by decide), kin.2.2.2.2.1, q5]⟩ ⟨he.1, Int.le_refl _⟩ h.2.2.2.2.2.2.2.2 hW9
  exact ⟨_, _, ws2, e3.trans (by rw [jn_J]), by rw [w1], hLI⟩

set_option maxHeartbeats 4000000 in
set_option maxRecDepth 100000 in
theorem pp_end {E : xE} {z : Nat} {T : Nat → Nat × Int} {F : Nat → Nat → Int} {I : Nat → Int → Int} {P : Nat → Nat → Option Nat} {Y : Nat → Int → Option Nat} {o m : Nat} {ws : Nat → Option wWo} {ad adv : Nat → Nat} {sio : Option Nat} {qS v0 : Nat} {tx : String} (hV : xEnv E ad adv sio qS v0 tx) (h : LI o m z T F I P Y ws) {p : Int} (hp : -2147483648 ≤ p ∧ p < 2147483648) : Ct E 60 mX11_end 0 0 [.ref o, J p] (z, T, F, I, P, Y) (xPP E o m mX12_end [J p]) := by
  obtain ⟨a, h3, hS, hI, h1, hw⟩ := h.get
  have hO := hI.1.1.1
  have hLw := hI.1.1.2.1
  have hr9 := hI.1.2.1
  have o0 := hO.2.1
  have hL := h.1
  have hu := h.2.1.1
  have h4 := h.2.2.1
  obtain ⟨hf, hc, q3, q4, q5⟩ := h.2.2.2.2.1
  obtain ⟨he, hT, htp, hTm⟩ := h.2.2.2.2.2.1
  by_cases c : 0 ≤ p ∧ p ≤ F o 1
  · have ct := ct_X11_end h1 h3 hS hp he (E := E) (z := z)
    rw [if_pos c, if_pos c] at ct
    refine Ct.post (fun v h1' e => ?_) (ct.up (by decide))
    obtain ⟨rfl, rfl⟩ := e
    have hLs := h.num (k := 1) (v := p) rfl
    have kin := h.kin hLs
    have em : upF F o 1 p m = F m := kin.2.2.2.2.1
    refine ⟨1, _, _, _, _, _, _, rfl, by omega, rfl, ⟨kin.1, kin.2.1⟩, Ct.post (fun v2 h2 e2 => ?_) ((Ct.own (ct_X12_end (F := upF F o 1 p) (I := I) (w := I (m + 1)) kin.2.1 hp (by rw [em, q4]; exact he) (by rw [em, q4]; exact c))).up (by decide))⟩
    obtain ⟨e3, rfl⟩ := e2
    obtain ⟨ws2, hLI⟩ := h.ask hLs (fun _ _ _ => rfl) hu h.ten (fun _ _ _ => rfl) (Ib := I) (fun _ _ => rfl) xScr.rf (F2 := upF (upF (upF F o 1 p) m 0 0) m 9 p) ⟨fun b hb => by rw [upF_na _ _ _ _ hb, upF_na _ _ _ _ hb], by rw [upF_nk _ _ _ _ (by decide), upF_nk _ _ _ _ (by decide), em], by rw [upF_nk _ _ _ _ (by decide), upF_nk _ _ _ _ (by decide), em], upF_at _ _ _ _, by rw [upF_nk _ _ _ _ (by decide), upF_nk _ _ _ _ (by decide), em, q5]⟩ c h.2.2.2.2.2.2.2.2 hI
    exact ⟨_, _, ws2, e3, rfl, hLI⟩
  · have ct := ct_X11_end h1 h3 hS hp he (E := E) (z := z)
    rw [if_neg c, if_neg c] at ct
    refine Ct.post (fun v h1' e => ?_) (ct.up (by decide))
    obtain ⟨rfl, rfl⟩ := e
    have hLs := h.rf
    have kin := h.kin hLs
    refine ⟨0, _, _, _, _, _, _, rfl, by omega, rfl, ⟨kin.1, kin.2.1⟩, Ct.post (fun v2 h2 e2 => ?_) ((Ct.own (ct_X12_end_f (F := F) (I := I) (w := I (m + 1)) kin.2.1 hp (by rw [q4]; exact he) (by rw [q4]; exact c))).up (by decide))⟩
    obtain ⟨e3, rfl⟩ := e2
    obtain ⟨ws2, hLI⟩ := h.ask0 hLs (t := 0) (fun _ _ _ => rfl) hu (Ib := I) (fun _ _ => rfl) xScr.rf
    exact ⟨_, _, ws2, e3, rfl, hLI⟩

set_option maxHeartbeats 4000000 in
set_option maxRecDepth 100000 in
theorem pp_feed {E : xE} {z : Nat} {T : Nat → Nat × Int} {F : Nat → Nat → Int} {I : Nat → Int → Int} {P : Nat → Nat → Option Nat} {Y : Nat → Int → Option Nat} {o m : Nat} {ws : Nat → Option wWo} {ad adv : Nat → Nat} {sio : Option Nat} {qS v0 : Nat} {tx : String} (hV : xEnv E ad adv sio qS v0 tx) (h : LI o m z T F I P Y ws) {p1 : Int} (hp1 : -2147483648 ≤ p1 ∧ p1 < 2147483648) {p2 : Int} (hp2 : -2147483648 ≤ p2 ∧ p2 < 2147483648) {p3 : Int} (hp3 : -2147483648 ≤ p3 ∧ p3 < 2147483648) {p4 : Int} (hp4 : -2147483648 ≤ p4 ∧ p4 < 2147483648) {p5 : Int} (hp5 : -2147483648 ≤ p5 ∧ p5 < 2147483648) : Ct E 60 mX11_feed 0 0 [.ref o, J p1, J p2, J p3, J p4, J p5] (z, T, F, I, P, Y) (xPP E o m mX12_feed [J p1, J p2, J p3, J p4, J p5]) := by
  obtain ⟨a, h3, hS, hI, h1, hw⟩ := h.get
  have hO := hI.1.1.1
  have hLw := hI.1.1.2.1
  have hr9 := hI.1.2.1
  have o0 := hO.2.1
  have hL := h.1
  have hu := h.2.1.1
  have h4 := h.2.2.1
  obtain ⟨hf, hc, q3, q4, q5⟩ := h.2.2.2.2.1
  obtain ⟨he, hT, htp, hTm⟩ := h.2.2.2.2.2.1
  obtain ⟨-, ⟨p0, t01, t02⟩, -⟩ := id hL.1
  have z3 := hL.2.2.2.2.2
  by_cases c : F o 1 + 20 ≤ 400
  · have ct := ct_X11_feed (E := E) (z := z) (F := F) (I := I) (Y := Y) (n := F o 1) (a1 := p1) (a2 := p2) (a3 := p3) (a4 := p4) (a5 := p5) (u := I (o + 1)) h1 p0 ⟨t01, t02⟩ ⟨he.1, c⟩
    rw [upA_id, upF_self] at ct
    refine Ct.post (fun v h1' e => ?_) (ct.up (by decide))
    obtain ⟨rfl, rfl⟩ := e
    have em : upF F o 1 (F o 1 + 20) m = F m := upF_na _ _ _ _ (by omega)
    have e6 : upA I (o + 1) (cFd (I (o + 1)) (F o 1) (gFive p1 p2 p3 p4 p5)) (m + 6) = I (m + 6) := upA_na _ _ _ (by omega)
    have e1 : upA I (o + 1) (cFd (I (o + 1)) (F o 1) (gFive p1 p2 p3 p4 p5)) (m + 1) = I (m + 1) := upA_na _ _ _ (by omega)
    refine ⟨F o 1 + 20, _, _, _, _, _, _, rfl, by omega, rfl, ⟨h1, hw⟩, Ct.post (fun v2 h2 e2 => ?_) ((Ct.own (ct_X12_feed (F := upF F o 1 (F o 1 + 20)) (I := upA I (o + 1) (cFd (I (o + 1)) (F o 1) (gFive p1 p2 p3 p4 p5))) (w := upA I (o + 1) (cFd (I (o + 1)) (F o 1) (gFive p1 p2 p3 p4 p5)) (m + 1)) hw (by rw [em, q4]; exact he) (by rw [em, q4]; exact c))).up (by decide))⟩
    obtain ⟨e3, I', hx, rfl⟩ := e2
    rw [em, q4] at e3
    have hfd := h.fed c hx (p1 := p1) (p2 := p2) (p3 := p3) (p4 := p4) (p5 := p5)
    exact ⟨_, _, ws, e3, rfl, hfd⟩
  · have ct := ct_X11_feed_f (E := E) (z := z) (F := F) (I := I) (Y := Y) (n := F o 1) (a1 := p1) (a2 := p2) (a3 := p3) (a4 := p4) (a5 := p5) (u := I (o + 1)) h1 p0 ⟨t01, t02⟩ ⟨he.1, he.2, by omega⟩
    rw [upA_id, upF_self] at ct
    refine Ct.post (fun v h1' e => ?_) (ct.up (by decide))
    obtain ⟨rfl, rfl⟩ := e
    have hLs := h.rf
    have kin := h.kin hLs
    refine ⟨-1, _, _, _, _, _, _, rfl, by omega, rfl, ⟨kin.1, kin.2.1⟩, Ct.post (fun v2 h2 e2 => ?_) ((Ct.own (ct_X12_feed_f (F := F) (I := I) (w := I (m + 1)) kin.2.1 (by rw [q4]; exact he) (by rw [q4]; omega))).up (by decide))⟩
    obtain ⟨e3, rfl⟩ := e2
    obtain ⟨ws2, hLI⟩ := h.ask0 hLs (t := 0) (fun _ _ _ => rfl) hu (Ib := I) (fun _ _ => rfl) xScr.rf
    exact ⟨_, _, ws2, e3, rfl, hLI⟩

set_option maxHeartbeats 4000000 in
set_option maxRecDepth 100000 in
theorem pp_back {E : xE} {z : Nat} {T : Nat → Nat × Int} {F : Nat → Nat → Int} {I : Nat → Int → Int} {P : Nat → Nat → Option Nat} {Y : Nat → Int → Option Nat} {o m : Nat} {ws : Nat → Option wWo} {ad adv : Nat → Nat} {sio : Option Nat} {qS v0 : Nat} {tx : String} (hV : xEnv E ad adv sio qS v0 tx) (h : LI o m z T F I P Y ws) : Ct E 60 mX11_back 0 0 [.ref o] (z, T, F, I, P, Y) (xPP E o m mX12_back []) := by
  obtain ⟨a, h3, hS, hI, h1, hw⟩ := h.get
  have hO := hI.1.1.1
  have hLw := hI.1.1.2.1
  have hr9 := hI.1.2.1
  have o0 := hO.2.1
  have hL := h.1
  have hu := h.2.1.1
  have h4 := h.2.2.1
  obtain ⟨hf, hc, q3, q4, q5⟩ := h.2.2.2.2.1
  obtain ⟨he, hT, htp, hTm⟩ := h.2.2.2.2.2.1
  obtain ⟨hR2, hk⟩ := h.2.2.2.2.2.2.1
  rcases hk with ⟨k5, k6⟩ | ⟨⟨k, k5⟩, k6, k7⟩
  · refine Ct.post (fun v h1' e => ?_) ((ct_X11_back_f hL k5).up (by decide))
    obtain ⟨rfl, rfl⟩ := e
    have hLs := h.rf
    have kin := h.kin hLs
    refine ⟨0, _, _, _, _, _, _, rfl, by omega, rfl, ⟨kin.1, kin.2.1⟩, Ct.post (fun v2 h2 e2 => ?_) ((Ct.own (ct_X12_back_f (F := F) (I := I) (w := I (m + 1)) kin.2.1 k6)).up (by decide))⟩
    obtain ⟨e3, rfl⟩ := e2
    obtain ⟨ws2, hLI⟩ := h.ask0 hLs (t := 0) (fun _ _ _ => rfl) hu (Ib := I) (fun _ _ => rfl) xScr.rf
    exact ⟨_, _, ws2, e3, rfl, hLI⟩
  · refine Ct.post (fun v h1' e => ?_) ((ct_X11_back hL h3 k5 k7).up (by decide))
    obtain ⟨rfl, F9, I9, P9, rfl, hK9, hP9, hF9, hI9, hM9⟩ := e
    have hLs : LSt o m z T F I P Y z T F9 I9 P9 Y (wsU ws 0 (some (I (m + 2)))) (F o 1) (F o 2) 0 0 := ⟨Nat.le_refl _, hK9, ⟨by rw [hP9]; exact h4, by rw [hP9]⟩, ⟨by rw [hF9, upF_nk _ _ _ _ (by decide), upF_nk _ _ _ _ (by decide)], by rw [hF9, upF_nk _ _ _ _ (by decide), upF_nk _ _ _ _ (by decide)], by rw [hF9, upF_nk _ _ _ _ (by decide), upF_at], by rw [hF9, upF_at]⟩, hI9, hM9⟩
    have kin := h.kin hLs
    have w1 : I9 (m + 1) = I (m + 1) := kin.2.2.2.2.2.1
    have w2 : I9 (m + 2) = I (m + 2) := kin.2.2.2.2.2.2.1
    refine ⟨1, _, _, _, _, _, _, rfl, by omega, rfl, ⟨kin.1, kin.2.1⟩, Ct.post (fun v2 h2 e2 => ?_) ((Ct.own (ct_X12_back (F := F9) (I := I9) (w := I9 (m + 1)) kin.2.1 (by rw [kin.2.2.2.2.1]; exact k6))).up (by decide))⟩
    obtain ⟨e3, rfl⟩ := e2
    have hLI := h.to hLs.no1 (F2 := upF (upF F9 m 0 0) m 7 0) (I2 := upA I9 (m + 1) (wCo (I9 (m + 1)) (I9 (m + 2)) 0 2752)) ⟨fun b hb => by rw [upF_na _ _ _ _ hb, upF_na _ _ _ _ hb], fun b hb => upA_na _ _ _ (by omega)⟩ (u := I (m + 2)) (by rw [wsU_na (by decide), wsU_at]) (by rw [upA_at, w2]; intro j j0 j1; unfold wCo; rw [if_pos (by omega)]; congr 1; omega) (by rw [upA_at]; exact w32_Co (by rw [w1]; exact hI.1.1.1.1) (by rw [w2]; exact hR2) _ _) (h.ten2 k7) (by omega) (by omega) ⟨upF_at _ _ _ _, by rw [upF_nk _ _ _ _ (by decide), upF_nk _ _ _ _ (by decide), kin.2.2.2.2.1, q4], by rw [upF_nk _ _ _ _ (by decide), upF_nk _ _ _ _ (by decide), kin.2.2.2.2.1, q5]⟩ ⟨he.1, Int.le_refl _⟩ h.2.2.2.2.2.2.2.2 (by rw [upA_na _ _ _ (by omega)]; exact kin.2.2.2.2.2.2.2.2) ⟨by rw [upF_nk _ _ _ _ (by decide), upF_nk _ _ _ _ (by decide), kin.2.2.2.2.1], by rw [upA_na _ _ _ (by omega)]; exact w2, by rw [wsU_na (by decide), wsU_na (by decide)]⟩ LU.zero
    exact ⟨_, _, _, e3, rfl, hLI⟩

set_option maxHeartbeats 4000000 in
set_option maxRecDepth 100000 in
theorem pp_undo {E : xE} {z : Nat} {T : Nat → Nat × Int} {F : Nat → Nat → Int} {I : Nat → Int → Int} {P : Nat → Nat → Option Nat} {Y : Nat → Int → Option Nat} {o m : Nat} {ws : Nat → Option wWo} {ad adv : Nat → Nat} {sio : Option Nat} {qS v0 : Nat} {tx : String} (hV : xEnv E ad adv sio qS v0 tx) (h : LI o m z T F I P Y ws) : Ct E 60 mX11_undo 0 0 [.ref o] (z, T, F, I, P, Y) (xPP E o m mX12_undo []) := by
  obtain ⟨a, h3, hS, hI, h1, hw⟩ := h.get
  have hO := hI.1.1.1
  have hLw := hI.1.1.2.1
  have hr9 := hI.1.2.1
  have o0 := hO.2.1
  have hL := h.1
  have hu := h.2.1.1
  have h4 := h.2.2.1
  obtain ⟨hf, hc, q3, q4, q5⟩ := h.2.2.2.2.1
  obtain ⟨he, hT, htp, hTm⟩ := h.2.2.2.2.2.1
  by_cases c : F o 8 = 0
  · refine Ct.post (fun v h1' e => ?_) ((ct_X11_undo_f hL c).up (by decide))
    obtain ⟨rfl, rfl⟩ := e
    have hLs := h.rf
    have kin := h.kin hLs
    refine ⟨0, _, _, _, _, _, _, rfl, by omega, rfl, ⟨kin.1, kin.2.1⟩, Ct.post (fun v2 h2 e2 => ?_) ((Ct.own (ct_X12_undo_f (F := F) (I := I) (w := I (m + 1)) kin.2.1 (by rw [q3]; exact c))).up (by decide))⟩
    obtain ⟨e3, rfl⟩ := e2
    obtain ⟨ws2, hLI⟩ := h.ask0 hLs (t := 0) (fun _ _ _ => rfl) hu (Ib := I) (fun _ _ => rfl) xScr.rf
    exact ⟨_, _, ws2, e3, rfl, hLI⟩
  · have hUU := h.2.2.2.2.2.2.2.1
    obtain ⟨u, u1, u2, u3⟩ := hUU (F o 8 - 1).toNat (by omega)
    have ei : (((F o 8 - 1).toNat : Nat) : Int) = F o 8 - 1 := by omega
    rw [ei] at u1 u2
    have eS : uSl (F o 7) (F o 8) = ((F o 7 + (F o 8 - 1)) % 12).toNat + 3 := by unfold uSl; rw [show F o 7 + F o 8 - 1 = F o 7 + (F o 8 - 1) by omega]
    have hS15 : uSl (F o 7) (F o 8) < 15 ∧ 3 ≤ uSl (F o 7) (F o 8) := by unfold uSl; omega
    refine Ct.post (fun v h1' e => ?_) ((ct_X11_undo hL h3 h4 hf (by omega) (u := u) (by rw [eS]; exact u1)).up (by decide))
    obtain ⟨z9, T9, F9, I9, P9, Y9, rfl, rfl, hLs⟩ := LSt.of e
    have kin := h.kin hLs
    have w1 : I9 (m + 1) = I (m + 1) := kin.2.2.2.2.2.1
    have w5 : I9 (m + 5) = I (m + 5) := kin.2.2.2.2.2.2.2.1
    have em : F9 m = F m := kin.2.2.2.2.1
    refine ⟨1, _, _, _, _, _, _, rfl, by omega, rfl, ⟨kin.1, kin.2.1⟩, Ct.post (fun v2 h2 e2 => ?_) ((Ct.own (ct_X12_undo (F := F9) (I := I9) (w := I9 (m + 1)) kin.2.1 (by rw [em, q3]; omega))).up (by decide))⟩
    obtain ⟨e3, rfl⟩ := e2
    have eW : ∀ j : Int, 0 ≤ j → j < 2752 → wCo (I9 (m + 1)) (fun j => I9 (m + 5) (1903 * (F9 m 7 - 1) + j)) 0 1903 j = u j := fun j j0 j1 => by
      unfold wCo
      by_cases cj : j < 1903
      · rw [if_pos (by omega), u2 j j0 cj, w5, em, q3]; congr 1; omega
      · rw [if_neg (by omega), u3 j (by omega) j1, w1]
    obtain ⟨y, y1, y2, y3⟩ := hL.2.2.2.1 _ u hS15.1 (by rw [eS]; exact u1)
    have hR : w32 (wCo (I9 (m + 1)) (fun j => I9 (m + 5) (1903 * (F9 m 7 - 1) + j)) 0 1903) := fun j => by
      by_cases cj : 0 ≤ j ∧ j < 2752
      · rw [eW j cj.1 cj.2]; exact y3.1.1.1.1 j
      · unfold wCo; rw [if_neg (by omega), w1]; exact hI.1.1.1.1 j
    have hLI := h.to hLs.no1 (F2 := upF (upF F9 m 0 0) m 7 (F9 m 7 - 1)) (I2 := upA I9 (m + 1) (wCo (I9 (m + 1)) (fun j => I9 (m + 5) (1903 * (F9 m 7 - 1) + j)) 0 1903)) ⟨fun b hb => by rw [upF_na _ _ _ _ hb, upF_na _ _ _ _ hb], fun b hb => upA_na _ _ _ (by omega)⟩ (u := u) (by rw [wsU_na (by decide)]; show ws (uSw 0 _ 0) = _; unfold uSw; rw [if_pos rfl, eS]; exact u1) (by rw [upA_at]; exact fun j j0 j1 => eW j j0 j1) (by rw [upA_at]; exact hR) (h.tenp hS15.1) hf (by omega) ⟨by rw [upF_at, em, q3], by rw [upF_nk _ _ _ _ (by decide), upF_nk _ _ _ _ (by decide), em, q4], by rw [upF_nk _ _ _ _ (by decide), upF_nk _ _ _ _ (by decide), em, q5]⟩ ⟨he.1, Int.le_refl _⟩ h.2.2.2.2.2.2.2.2 (by rw [upA_na _ _ _ (by omega)]; exact kin.2.2.2.2.2.2.2.2) ⟨by rw [upF_nk _ _ _ _ (by decide), upF_nk _ _ _ _ (by decide), em], by rw [upA_na _ _ _ (by omega)]; exact kin.2.2.2.2.2.2.1, by rw [wsU_na (by decide)]; show ws (uSw 0 _ 2) = _; unfold uSw; rw [if_neg (by decide), if_neg (by omega)]⟩ ?_
    · exact ⟨_, _, _, e3, rfl, hLI⟩
    · rw [upA_at, upA_na _ _ _ (by omega)]
      intro i hi
      obtain ⟨u', v1, v2, v3⟩ := hUU i (by omega)
      have hne : ((F o 7 + (i : Int)) % 12).toNat + 3 ≠ uSl (F o 7) (F o 8) := by unfold uSl; omega
      refine ⟨u', ?_, by rw [w5]; exact v2, fun j j0 j1 => ?_⟩
      · rw [wsU_na (by omega), wsU_na (by omega)]
        show ws (uSw 0 _ _) = _
        unfold uSw; rw [if_neg (by omega), if_neg hne]; exact v1
      · rw [eW j (by omega) j1, v3 j j0 j1, u3 j j0 j1]

