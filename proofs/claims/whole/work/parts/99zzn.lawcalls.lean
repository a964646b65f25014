/-! the law's own methods: a call that may throw -/
/-- what a call leaves that answers: the answer in the row ou -/
def xOk (ou : Nat) (post : Option Value → xH → Prop) : Option Value → xH → Prop := fun v h1 => v = some (J 0) ∧ ∃ (r : Int) (z1 : Nat) (T1 : Nat → Nat × Int) (F1 : Nat → Nat → Int) (I1 : Nat → Int → Int) (P1 : Nat → Nat → Option Nat) (Y1 : Nat → Int → Option Nat), (-2147483648 ≤ r ∧ r < 2147483648) ∧ post (some (J r)) (z1, T1, F1, I1, P1, Y1) ∧ h1 = (z1, T1, F1, upI I1 ou 0 r, P1, Y1)
def xAns (ou : Nat) (post : Option Value → xH → Prop) : Prop := ∀ (v : Option Value) (h' : xH), post v h' → ∃ (r : Int) (z1 : Nat) (T1 : Nat → Nat × Int) (F1 : Nat → Nat → Int) (I1 : Nat → Int → Int) (P1 : Nat → Nat → Option Nat) (Y1 : Nat → Int → Option Nat), v = some (J r) ∧ (-2147483648 ≤ r ∧ r < 2147483648) ∧ h' = (z1, T1, F1, I1, P1, Y1) ∧ (T1 ou).1 = 16 ∧ (T1 ou).2 = 1
theorem dL_store_0 : decode cL_store 0 = .ok (.aload_n 1, 1) := by decide +kernel
theorem dL_store_1 : decode cL_store 1 = .ok (.iconst 0, 1) := by decide +kernel
theorem dL_store_2 : decode cL_store 2 = .ok (.aload_n 0, 1) := by decide +kernel
theorem dL_store_3 : decode cL_store 3 = .ok (.invokevirtual 7, 3) := by decide +kernel
theorem dL_store_6 : decode cL_store 6 = .ok (.i2l, 1) := by decide +kernel
theorem dL_store_7 : decode cL_store 7 = .ok (.lastore, 1) := by decide +kernel
theorem dL_store_8 : decode cL_store 8 = .ok (.goto 9, 3) := by decide +kernel
theorem dL_store_11 : decode cL_store 11 = .ok (.astore_n 2, 1) := by decide +kernel
theorem dL_store_12 : decode cL_store 12 = .ok (.iconst 1, 1) := by decide +kernel
theorem dL_store_13 : decode cL_store 13 = .ok (.ireturn, 1) := by decide +kernel
theorem dL_store_14 : decode cL_store 14 = .ok (.astore_n 2, 1) := by decide +kernel
theorem dL_store_15 : decode cL_store 15 = .ok (.iconst 2, 1) := by decide +kernel
theorem dL_store_16 : decode cL_store 16 = .ok (.ireturn, 1) := by decide +kernel
theorem dL_store_17 : decode cL_store 17 = .ok (.iconst 0, 1) := by decide +kernel
theorem dL_store_18 : decode cL_store 18 = .ok (.ireturn, 1) := by decide +kernel
set_option maxHeartbeats 4000000 in
set_option maxRecDepth 100000 in
theorem cl_store {E : xE} {z : Nat} {T : Nat → Nat × Int} {F : Nat → Nat → Int} {I : Nat → Int → Int} {P : Nat → Nat → Option Nat} {Y : Nat → Int → Option Nat} {o ou k mc' ms' : Nat} {post : Option Value → xH → Prop} (ct : Ct E k mX11_store mc' ms' [.ref o] (z, T, F, I, P, Y) post) (hm : mc' ≤ 57 ∧ ms' ≤ 2100) (hT : (T o).1 = 12) (hp : xAns ou post) : CtH E (k + 1) mL_store [(0, 8, 11, 13), (0, 8, 14, 15)] 57 2100 [.ref o, .ref ou] (z, T, F, I, P, Y) (xOk ou post) := by
  refine CtH.of [some (.ref o), some (.ref ou), none] kh_L_store rfl (Nat.le_of_ble_eq_true rfl) rfl (fun d hd => ?_)
  generalize hX : xN E _ _ _ = X
  refine xg_aloadn 1 dL_store_0 rfl rfl rfl ?_
  refine xg_iconst 2 dL_store_1 rfl ?_
  refine xg_aloadn 3 dL_store_2 rfl rfl rfl ?_
  refine xg_callVm 6 11 [] _ kv_X11_store ⟨_, _, rfl⟩ kl_RL_7 dL_store_3 rfl hT (by omega) rfl rfl (Nat.le_of_ble_eq_true rfl) (by omega) ⟨by omega, by omega⟩ (ct) rfl (fun v9 h9 e9 => ?_)
  have e8 := e9
  obtain ⟨r9, z9, T9, F9, I9, P9, Y9, rfl, hr9, rfl, hk1, hk2⟩ := hp _ _ e9
  refine xg_i2l 7 dL_store_6 rfl hr9 ?_
  refine xg_last 8 dL_store_7 rfl hk1 (by rw [hk2]; omega) ?_
  refine xg_goto 17 dL_store_8 rfl ?_
  refine xg_iconst 18 dL_store_17 rfl ?_
  subst hX
  exact xg_ireturn dL_store_18 rfl ⟨by omega, by omega⟩ ⟨rfl, r9, z9, T9, F9, I9, P9, Y9, hr9, e8, rfl⟩

set_option maxHeartbeats 4000000 in
set_option maxRecDepth 100000 in
theorem cl_store_1 {E : xE} {z : Nat} {T : Nat → Nat × Int} {F : Nat → Nat → Int} {I : Nat → Int → Int} {P : Nat → Nat → Option Nat} {Y : Nat → Int → Option Nat} {o ou k mc' ms' : Nat} {hx : xH → Prop} (cx : CtX E k mX11_store mc' ms' [.ref o] (z, T, F, I, P, Y) "java/lang/IllegalArgumentException" hx) (hm : mc' ≤ 57 ∧ ms' ≤ 2100) (hT : (T o).1 = 12) (hC : ∀ u : State, E.2.2.2.2 u → va_Nw (.castable "java/lang/IllegalArgumentException" "java/lang/IllegalArgumentException") u) : CtH E (k + 1) mL_store [(0, 8, 11, 13), (0, 8, 14, 15)] 57 2100 [.ref o, .ref ou] (z, T, F, I, P, Y) (fun v h1 => v = some (J 1) ∧ hx h1) := by
  refine CtH.of [some (.ref o), some (.ref ou), none] kh_L_store rfl (Nat.le_of_ble_eq_true rfl) rfl (fun d hd => ?_)
  generalize hX : xN E _ _ _ = X
  refine xg_aloadn 1 dL_store_0 rfl rfl rfl ?_
  refine xg_iconst 2 dL_store_1 rfl ?_
  refine xg_aloadn 3 dL_store_2 rfl rfl rfl ?_
  refine xg_callVX [(0, 8, 11, 13), (0, 8, 14, 15)] [] (⟨0, 8, 11, 13⟩ : ExceptionTableEntry) [(⟨0, 8, 14, 15⟩ : ExceptionTableEntry)] 11 rfl (by decide) kh_L_store.1 rfl (fun z hz => nomatch hz) rfl (by decide) kn_RL_13 hC [] [J 0, .ref ou] kv_X11_store ⟨_, _, rfl⟩ kl_RL_7 dL_store_3 hT (by omega) rfl rfl (Nat.le_of_ble_eq_true rfl) (by omega) ⟨by omega, by omega⟩ cx (fun q9 h9 hx9 => ?_)
  refine xg_astoren 12 _ dL_store_11 rfl rfl rfl (by decide) (Or.inr rfl) ?_
  refine xg_iconst 13 dL_store_12 rfl ?_
  subst hX
  exact xg_ireturn dL_store_13 rfl ⟨by omega, by omega⟩ ⟨rfl, hx9⟩

set_option maxHeartbeats 4000000 in
set_option maxRecDepth 100000 in
theorem cl_store_2 {E : xE} {z : Nat} {T : Nat → Nat × Int} {F : Nat → Nat → Int} {I : Nat → Int → Int} {P : Nat → Nat → Option Nat} {Y : Nat → Int → Option Nat} {o ou k mc' ms' : Nat} {hx : xH → Prop} (cx : CtX E k mX11_store mc' ms' [.ref o] (z, T, F, I, P, Y) "java/lang/UnsupportedOperationException" hx) (hm : mc' ≤ 57 ∧ ms' ≤ 2100) (hT : (T o).1 = 12) (hC : ∀ u : State, E.2.2.2.2 u → va_Nw (.castable "java/lang/UnsupportedOperationException" "java/lang/UnsupportedOperationException") u) (hN : ∀ u : State, E.2.2.2.2 u → va_Nc "java/lang/UnsupportedOperationException" "java/lang/IllegalArgumentException" u) : CtH E (k + 1) mL_store [(0, 8, 11, 13), (0, 8, 14, 15)] 57 2100 [.ref o, .ref ou] (z, T, F, I, P, Y) (fun v h1 => v = some (J 2) ∧ hx h1) := by
  refine CtH.of [some (.ref o), some (.ref ou), none] kh_L_store rfl (Nat.le_of_ble_eq_true rfl) rfl (fun d hd => ?_)
  generalize hX : xN E _ _ _ = X
  refine xg_aloadn 1 dL_store_0 rfl rfl rfl ?_
  refine xg_iconst 2 dL_store_1 rfl ?_
  refine xg_aloadn 3 dL_store_2 rfl rfl rfl ?_
  refine xg_callVX [(0, 8, 11, 13), (0, 8, 14, 15)] [(⟨0, 8, 11, 13⟩ : ExceptionTableEntry)] (⟨0, 8, 14, 15⟩ : ExceptionTableEntry) [] 14 rfl (by decide) kh_L_store.1 rfl (fun z hz => by cases List.mem_singleton.mp hz; exact Or.inr ⟨by decide, _, kn_RL_13, hN⟩) rfl (by decide) kn_RL_15 hC [] [J 0, .ref ou] kv_X11_store ⟨_, _, rfl⟩ kl_RL_7 dL_store_3 hT (by omega) rfl rfl (Nat.le_of_ble_eq_true rfl) (by omega) ⟨by omega, by omega⟩ cx (fun q9 h9 hx9 => ?_)
  refine xg_astoren 15 _ dL_store_14 rfl rfl rfl (by decide) (Or.inr rfl) ?_
  refine xg_iconst 16 dL_store_15 rfl ?_
  subst hX
  exact xg_ireturn dL_store_16 rfl ⟨by omega, by omega⟩ ⟨rfl, hx9⟩

theorem dL_law_0 : decode cL_law 0 = .ok (.aload_n 1, 1) := by decide +kernel
theorem dL_law_1 : decode cL_law 1 = .ok (.iconst 0, 1) := by decide +kernel
theorem dL_law_2 : decode cL_law 2 = .ok (.aload_n 0, 1) := by decide +kernel
theorem dL_law_3 : decode cL_law 3 = .ok (.invokevirtual 17, 3) := by decide +kernel
theorem dL_law_6 : decode cL_law 6 = .ok (.i2l, 1) := by decide +kernel
theorem dL_law_7 : decode cL_law 7 = .ok (.lastore, 1) := by decide +kernel
theorem dL_law_8 : decode cL_law 8 = .ok (.goto 6, 3) := by decide +kernel
theorem dL_law_11 : decode cL_law 11 = .ok (.astore_n 2, 1) := by decide +kernel
theorem dL_law_12 : decode cL_law 12 = .ok (.iconst 1, 1) := by decide +kernel
theorem dL_law_13 : decode cL_law 13 = .ok (.ireturn, 1) := by decide +kernel
theorem dL_law_14 : decode cL_law 14 = .ok (.iconst 0, 1) := by decide +kernel
theorem dL_law_15 : decode cL_law 15 = .ok (.ireturn, 1) := by decide +kernel
set_option maxHeartbeats 4000000 in
set_option maxRecDepth 100000 in
theorem cl_law {E : xE} {z : Nat} {T : Nat → Nat × Int} {F : Nat → Nat → Int} {I : Nat → Int → Int} {P : Nat → Nat → Option Nat} {Y : Nat → Int → Option Nat} {o ou k mc' ms' : Nat} {post : Option Value → xH → Prop} (ct : Ct E k mX11_law mc' ms' [.ref o] (z, T, F, I, P, Y) post) (hm : mc' ≤ 57 ∧ ms' ≤ 2100) (hT : (T o).1 = 12) (hp : xAns ou post) : CtH E (k + 1) mL_law [(0, 8, 11, 13)] 57 2100 [.ref o, .ref ou] (z, T, F, I, P, Y) (xOk ou post) := by
  refine CtH.of [some (.ref o), some (.ref ou), none] kh_L_law rfl (Nat.le_of_ble_eq_true rfl) rfl (fun d hd => ?_)
  generalize hX : xN E _ _ _ = X
  refine xg_aloadn 1 dL_law_0 rfl rfl rfl ?_
  refine xg_iconst 2 dL_law_1 rfl ?_
  refine xg_aloadn 3 dL_law_2 rfl rfl rfl ?_
  refine xg_callVm 6 11 [] _ kv_X11_law ⟨_, _, rfl⟩ kl_RL_17 dL_law_3 rfl hT (by omega) rfl rfl (Nat.le_of_ble_eq_true rfl) (by omega) ⟨by omega, by omega⟩ (ct) rfl (fun v9 h9 e9 => ?_)
  have e8 := e9
  obtain ⟨r9, z9, T9, F9, I9, P9, Y9, rfl, hr9, rfl, hk1, hk2⟩ := hp _ _ e9
  refine xg_i2l 7 dL_law_6 rfl hr9 ?_
  refine xg_last 8 dL_law_7 rfl hk1 (by rw [hk2]; omega) ?_
  refine xg_goto 14 dL_law_8 rfl ?_
  refine xg_iconst 15 dL_law_14 rfl ?_
  subst hX
  exact xg_ireturn dL_law_15 rfl ⟨by omega, by omega⟩ ⟨rfl, r9, z9, T9, F9, I9, P9, Y9, hr9, e8, rfl⟩

set_option maxHeartbeats 4000000 in
set_option maxRecDepth 100000 in
theorem cl_law_1 {E : xE} {z : Nat} {T : Nat → Nat × Int} {F : Nat → Nat → Int} {I : Nat → Int → Int} {P : Nat → Nat → Option Nat} {Y : Nat → Int → Option Nat} {o ou k mc' ms' : Nat} {hx : xH → Prop} (cx : CtX E k mX11_law mc' ms' [.ref o] (z, T, F, I, P, Y) "java/lang/IllegalArgumentException" hx) (hm : mc' ≤ 57 ∧ ms' ≤ 2100) (hT : (T o).1 = 12) (hC : ∀ u : State, E.2.2.2.2 u → va_Nw (.castable "java/lang/IllegalArgumentException" "java/lang/IllegalArgumentException") u) : CtH E (k + 1) mL_law [(0, 8, 11, 13)] 57 2100 [.ref o, .ref ou] (z, T, F, I, P, Y) (fun v h1 => v = some (J 1) ∧ hx h1) := by
  refine CtH.of [some (.ref o), some (.ref ou), none] kh_L_law rfl (Nat.le_of_ble_eq_true rfl) rfl (fun d hd => ?_)
  generalize hX : xN E _ _ _ = X
  refine xg_aloadn 1 dL_law_0 rfl rfl rfl ?_
  refine xg_iconst 2 dL_law_1 rfl ?_
  refine xg_aloadn 3 dL_law_2 rfl rfl rfl ?_
  refine xg_callVX [(0, 8, 11, 13)] [] (⟨0, 8, 11, 13⟩ : ExceptionTableEntry) [] 11 rfl (by decide) kh_L_law.1 rfl (fun z hz => nomatch hz) rfl (by decide) kn_RL_13 hC [] [J 0, .ref ou] kv_X11_law ⟨_, _, rfl⟩ kl_RL_17 dL_law_3 hT (by omega) rfl rfl (Nat.le_of_ble_eq_true rfl) (by omega) ⟨by omega, by omega⟩ cx (fun q9 h9 hx9 => ?_)
  refine xg_astoren 12 _ dL_law_11 rfl rfl rfl (by decide) (Or.inr rfl) ?_
  refine xg_iconst 13 dL_law_12 rfl ?_
  subst hX
  exact xg_ireturn dL_law_13 rfl ⟨by omega, by omega⟩ ⟨rfl, hx9⟩

theorem dL_run_0 : decode cL_run 0 = .ok (.aload_n 3, 1) := by decide +kernel
theorem dL_run_1 : decode cL_run 1 = .ok (.iconst 0, 1) := by decide +kernel
theorem dL_run_2 : decode cL_run 2 = .ok (.aload_n 0, 1) := by decide +kernel
theorem dL_run_3 : decode cL_run 3 = .ok (.iload_n 1, 1) := by decide +kernel
theorem dL_run_4 : decode cL_run 4 = .ok (.iload_n 2, 1) := by decide +kernel
theorem dL_run_5 : decode cL_run 5 = .ok (.invokevirtual 20, 3) := by decide +kernel
theorem dL_run_8 : decode cL_run 8 = .ok (.i2l, 1) := by decide +kernel
theorem dL_run_9 : decode cL_run 9 = .ok (.lastore, 1) := by decide +kernel
theorem dL_run_10 : decode cL_run 10 = .ok (.goto 11, 3) := by decide +kernel
theorem dL_run_13 : decode cL_run 13 = .ok (.astore 4, 2) := by decide +kernel
theorem dL_run_15 : decode cL_run 15 = .ok (.iconst 1, 1) := by decide +kernel
theorem dL_run_16 : decode cL_run 16 = .ok (.ireturn, 1) := by decide +kernel
theorem dL_run_17 : decode cL_run 17 = .ok (.astore 4, 2) := by decide +kernel
theorem dL_run_19 : decode cL_run 19 = .ok (.iconst 2, 1) := by decide +kernel
theorem dL_run_20 : decode cL_run 20 = .ok (.ireturn, 1) := by decide +kernel
theorem dL_run_21 : decode cL_run 21 = .ok (.iconst 0, 1) := by decide +kernel
theorem dL_run_22 : decode cL_run 22 = .ok (.ireturn, 1) := by decide +kernel
set_option maxHeartbeats 4000000 in
set_option maxRecDepth 100000 in
theorem cl_run {E : xE} {z : Nat} {T : Nat → Nat × Int} {F : Nat → Nat → Int} {I : Nat → Int → Int} {P : Nat → Nat → Option Nat} {Y : Nat → Int → Option Nat} {o ou k mc' ms' : Nat} {p0 p1 : Int} {post : Option Value → xH → Prop} (ct : Ct E k mX11_run mc' ms' [.ref o, J p0, J p1] (z, T, F, I, P, Y) post) (hm : mc' ≤ 57 ∧ ms' ≤ 2100) (hT : (T o).1 = 12) (hp : xAns ou post) : CtH E (k + 1) mL_run [(0, 10, 13, 24), (0, 10, 17, 26)] 57 2100 [.ref o, J p0, J p1, .ref ou] (z, T, F, I, P, Y) (xOk ou post) := by
  refine CtH.of [some (.ref o), some (J p0), some (J p1), some (.ref ou), none] kh_L_run rfl (Nat.le_of_ble_eq_true rfl) rfl (fun d hd => ?_)
  generalize hX : xN E _ _ _ = X
  refine xg_aloadn 1 dL_run_0 rfl rfl rfl ?_
  refine xg_iconst 2 dL_run_1 rfl ?_
  refine xg_aloadn 3 dL_run_2 rfl rfl rfl ?_
  refine xg_iloadn 4 dL_run_3 rfl rfl rfl ?_
  refine xg_iloadn 5 dL_run_4 rfl rfl rfl ?_
  refine xg_callVm 8 11 [_, _] _ kv_X11_run ⟨_, _, rfl⟩ kl_RL_20 dL_run_5 rfl hT (by omega) rfl rfl (Nat.le_of_ble_eq_true rfl) (by omega) ⟨by omega, by omega⟩ (ct) rfl (fun v9 h9 e9 => ?_)
  have e8 := e9
  obtain ⟨r9, z9, T9, F9, I9, P9, Y9, rfl, hr9, rfl, hk1, hk2⟩ := hp _ _ e9
  refine xg_i2l 9 dL_run_8 rfl hr9 ?_
  refine xg_last 10 dL_run_9 rfl hk1 (by rw [hk2]; omega) ?_
  refine xg_goto 21 dL_run_10 rfl ?_
  refine xg_iconst 22 dL_run_21 rfl ?_
  subst hX
  exact xg_ireturn dL_run_22 rfl ⟨by omega, by omega⟩ ⟨rfl, r9, z9, T9, F9, I9, P9, Y9, hr9, e8, rfl⟩

set_option maxHeartbeats 4000000 in
set_option maxRecDepth 100000 in
theorem cl_run_1 {E : xE} {z : Nat} {T : Nat → Nat × Int} {F : Nat → Nat → Int} {I : Nat → Int → Int} {P : Nat → Nat → Option Nat} {Y : Nat → Int → Option Nat} {o ou k mc' ms' : Nat} {p0 p1 : Int} {hx : xH → Prop} (cx : CtX E k mX11_run mc' ms' [.ref o, J p0, J p1] (z, T, F, I, P, Y) "java/lang/IndexOutOfBoundsException" hx) (hm : mc' ≤ 57 ∧ ms' ≤ 2100) (hT : (T o).1 = 12) (hC : ∀ u : State, E.2.2.2.2 u → va_Nw (.castable "java/lang/IndexOutOfBoundsException" "java/lang/IndexOutOfBoundsException") u) : CtH E (k + 1) mL_run [(0, 10, 13, 24), (0, 10, 17, 26)] 57 2100 [.ref o, J p0, J p1, .ref ou] (z, T, F, I, P, Y) (fun v h1 => v = some (J 1) ∧ hx h1) := by
  refine CtH.of [some (.ref o), some (J p0), some (J p1), some (.ref ou), none] kh_L_run rfl (Nat.le_of_ble_eq_true rfl) rfl (fun d hd => ?_)
  generalize hX : xN E _ _ _ = X
  refine xg_aloadn 1 dL_run_0 rfl rfl rfl ?_
  refine xg_iconst 2 dL_run_1 rfl ?_
  refine xg_aloadn 3 dL_run_2 rfl rfl rfl ?_
  refine xg_iloadn 4 dL_run_3 rfl rfl rfl ?_
  refine xg_iloadn 5 dL_run_4 rfl rfl rfl ?_
  refine xg_callVX [(0, 10, 13, 24), (0, 10, 17, 26)] [] (⟨0, 10, 13, 24⟩ : ExceptionTableEntry) [(⟨0, 10, 17, 26⟩ : ExceptionTableEntry)] 13 rfl (by decide) kh_L_run.1 rfl (fun z hz => nomatch hz) rfl (by decide) kn_RL_24 hC [J p0, J p1] [J 0, .ref ou] kv_X11_run ⟨_, _, rfl⟩ kl_RL_20 dL_run_5 hT (by omega) rfl rfl (Nat.le_of_ble_eq_true rfl) (by omega) ⟨by omega, by omega⟩ cx (fun q9 h9 hx9 => ?_)
  refine xg_astore 15 _ dL_run_13 rfl rfl (by decide) (Or.inr rfl) ?_
  refine xg_iconst 16 dL_run_15 rfl ?_
  subst hX
  exact xg_ireturn dL_run_16 rfl ⟨by omega, by omega⟩ ⟨rfl, hx9⟩

set_option maxHeartbeats 4000000 in
set_option maxRecDepth 100000 in
theorem cl_run_2 {E : xE} {z : Nat} {T : Nat → Nat × Int} {F : Nat → Nat → Int} {I : Nat → Int → Int} {P : Nat → Nat → Option Nat} {Y : Nat → Int → Option Nat} {o ou k mc' ms' : Nat} {p0 p1 : Int} {hx : xH → Prop} (cx : CtX E k mX11_run mc' ms' [.ref o, J p0, J p1] (z, T, F, I, P, Y) "java/util/NoSuchElementException" hx) (hm : mc' ≤ 57 ∧ ms' ≤ 2100) (hT : (T o).1 = 12) (hC : ∀ u : State, E.2.2.2.2 u → va_Nw (.castable "java/util/NoSuchElementException" "java/util/NoSuchElementException") u) (hN : ∀ u : State, E.2.2.2.2 u → va_Nc "java/util/NoSuchElementException" "java/lang/IndexOutOfBoundsException" u) : CtH E (k + 1) mL_run [(0, 10, 13, 24), (0, 10, 17, 26)] 57 2100 [.ref o, J p0, J p1, .ref ou] (z, T, F, I, P, Y) (fun v h1 => v = some (J 2) ∧ hx h1) := by
  refine CtH.of [some (.ref o), some (J p0), some (J p1), some (.ref ou), none] kh_L_run rfl (Nat.le_of_ble_eq_true rfl) rfl (fun d hd => ?_)
  generalize hX : xN E _ _ _ = X
  refine xg_aloadn 1 dL_run_0 rfl rfl rfl ?_
  refine xg_iconst 2 dL_run_1 rfl ?_
  refine xg_aloadn 3 dL_run_2 rfl rfl rfl ?_
  refine xg_iloadn 4 dL_run_3 rfl rfl rfl ?_
  refine xg_iloadn 5 dL_run_4 rfl rfl rfl ?_
  refine xg_callVX [(0, 10, 13, 24), (0, 10, 17, 26)] [(⟨0, 10, 13, 24⟩ : ExceptionTableEntry)] (⟨0, 10, 17, 26⟩ : ExceptionTableEntry) [] 17 rfl (by decide) kh_L_run.1 rfl (fun z hz => by cases List.mem_singleton.mp hz; exact Or.inr ⟨by decide, _, kn_RL_24, hN⟩) rfl (by decide) kn_RL_26 hC [J p0, J p1] [J 0, .ref ou] kv_X11_run ⟨_, _, rfl⟩ kl_RL_20 dL_run_5 hT (by omega) rfl rfl (Nat.le_of_ble_eq_true rfl) (by omega) ⟨by omega, by omega⟩ cx (fun q9 h9 hx9 => ?_)
  refine xg_astore 19 _ dL_run_17 rfl rfl (by decide) (Or.inr rfl) ?_
  refine xg_iconst 20 dL_run_19 rfl ?_
  subst hX
  exact xg_ireturn dL_run_20 rfl ⟨by omega, by omega⟩ ⟨rfl, hx9⟩

theorem dL_entry_0 : decode cL_entry 0 = .ok (.aload 4, 2) := by decide +kernel
theorem dL_entry_2 : decode cL_entry 2 = .ok (.iconst 0, 1) := by decide +kernel
theorem dL_entry_3 : decode cL_entry 3 = .ok (.aload_n 0, 1) := by decide +kernel
theorem dL_entry_4 : decode cL_entry 4 = .ok (.iload_n 1, 1) := by decide +kernel
theorem dL_entry_5 : decode cL_entry 5 = .ok (.iload_n 2, 1) := by decide +kernel
theorem dL_entry_6 : decode cL_entry 6 = .ok (.iload_n 3, 1) := by decide +kernel
theorem dL_entry_7 : decode cL_entry 7 = .ok (.invokevirtual 28, 3) := by decide +kernel
theorem dL_entry_10 : decode cL_entry 10 = .ok (.i2l, 1) := by decide +kernel
theorem dL_entry_11 : decode cL_entry 11 = .ok (.lastore, 1) := by decide +kernel
theorem dL_entry_12 : decode cL_entry 12 = .ok (.goto 11, 3) := by decide +kernel
theorem dL_entry_15 : decode cL_entry 15 = .ok (.astore 5, 2) := by decide +kernel
theorem dL_entry_17 : decode cL_entry 17 = .ok (.iconst 1, 1) := by decide +kernel
theorem dL_entry_18 : decode cL_entry 18 = .ok (.ireturn, 1) := by decide +kernel
theorem dL_entry_19 : decode cL_entry 19 = .ok (.astore 5, 2) := by decide +kernel
theorem dL_entry_21 : decode cL_entry 21 = .ok (.iconst 2, 1) := by decide +kernel
theorem dL_entry_22 : decode cL_entry 22 = .ok (.ireturn, 1) := by decide +kernel
theorem dL_entry_23 : decode cL_entry 23 = .ok (.iconst 0, 1) := by decide +kernel
theorem dL_entry_24 : decode cL_entry 24 = .ok (.ireturn, 1) := by decide +kernel
set_option maxHeartbeats 4000000 in
set_option maxRecDepth 100000 in
theorem cl_entry {E : xE} {z : Nat} {T : Nat → Nat × Int} {F : Nat → Nat → Int} {I : Nat → Int → Int} {P : Nat → Nat → Option Nat} {Y : Nat → Int → Option Nat} {o ou k mc' ms' : Nat} {p0 p1 p2 : Int} {post : Option Value → xH → Prop} (ct : Ct E k mX11_entry mc' ms' [.ref o, J p0, J p1, J p2] (z, T, F, I, P, Y) post) (hm : mc' ≤ 57 ∧ ms' ≤ 2100) (hT : (T o).1 = 12) (hp : xAns ou post) : CtH E (k + 1) mL_entry [(0, 12, 15, 24), (0, 12, 19, 26)] 57 2100 [.ref o, J p0, J p1, J p2, .ref ou] (z, T, F, I, P, Y) (xOk ou post) := by
  refine CtH.of [some (.ref o), some (J p0), some (J p1), some (J p2), some (.ref ou), none] kh_L_entry rfl (Nat.le_of_ble_eq_true rfl) rfl (fun d hd => ?_)
  generalize hX : xN E _ _ _ = X
  refine xg_aload 2 dL_entry_0 rfl rfl ?_
  refine xg_iconst 3 dL_entry_2 rfl ?_
  refine xg_aloadn 4 dL_entry_3 rfl rfl rfl ?_
  refine xg_iloadn 5 dL_entry_4 rfl rfl rfl ?_
  refine xg_iloadn 6 dL_entry_5 rfl rfl rfl ?_
  refine xg_iloadn 7 dL_entry_6 rfl rfl rfl ?_
  refine xg_callVm 10 11 [_, _, _] _ kv_X11_entry ⟨_, _, rfl⟩ kl_RL_28 dL_entry_7 rfl hT (by omega) rfl rfl (Nat.le_of_ble_eq_true rfl) (by omega) ⟨by omega, by omega⟩ (ct) rfl (fun v9 h9 e9 => ?_)
  have e8 := e9
  obtain ⟨r9, z9, T9, F9, I9, P9, Y9, rfl, hr9, rfl, hk1, hk2⟩ := hp _ _ e9
  refine xg_i2l 11 dL_entry_10 rfl hr9 ?_
  refine xg_last 12 dL_entry_11 rfl hk1 (by rw [hk2]; omega) ?_
  refine xg_goto 23 dL_entry_12 rfl ?_
  refine xg_iconst 24 dL_entry_23 rfl ?_
  subst hX
  exact xg_ireturn dL_entry_24 rfl ⟨by omega, by omega⟩ ⟨rfl, r9, z9, T9, F9, I9, P9, Y9, hr9, e8, rfl⟩

set_option maxHeartbeats 4000000 in
set_option maxRecDepth 100000 in
theorem cl_entry_1 {E : xE} {z : Nat} {T : Nat → Nat × Int} {F : Nat → Nat → Int} {I : Nat → Int → Int} {P : Nat → Nat → Option Nat} {Y : Nat → Int → Option Nat} {o ou k mc' ms' : Nat} {p0 p1 p2 : Int} {hx : xH → Prop} (cx : CtX E k mX11_entry mc' ms' [.ref o, J p0, J p1, J p2] (z, T, F, I, P, Y) "java/lang/IndexOutOfBoundsException" hx) (hm : mc' ≤ 57 ∧ ms' ≤ 2100) (hT : (T o).1 = 12) (hC : ∀ u : State, E.2.2.2.2 u → va_Nw (.castable "java/lang/IndexOutOfBoundsException" "java/lang/IndexOutOfBoundsException") u) : CtH E (k + 1) mL_entry [(0, 12, 15, 24), (0, 12, 19, 26)] 57 2100 [.ref o, J p0, J p1, J p2, .ref ou] (z, T, F, I, P, Y) (fun v h1 => v = some (J 1) ∧ hx h1) := by
  refine CtH.of [some (.ref o), some (J p0), some (J p1), some (J p2), some (.ref ou), none] kh_L_entry rfl (Nat.le_of_ble_eq_true rfl) rfl (fun d hd => ?_)
  generalize hX : xN E _ _ _ = X
  refine xg_aload 2 dL_entry_0 rfl rfl ?_
  refine xg_iconst 3 dL_entry_2 rfl ?_
  refine xg_aloadn 4 dL_entry_3 rfl rfl rfl ?_
  refine xg_iloadn 5 dL_entry_4 rfl rfl rfl ?_
  refine xg_iloadn 6 dL_entry_5 rfl rfl rfl ?_
  refine xg_iloadn 7 dL_entry_6 rfl rfl rfl ?_
  refine xg_callVX [(0, 12, 15, 24), (0, 12, 19, 26)] [] (⟨0, 12, 15, 24⟩ : ExceptionTableEntry) [(⟨0, 12, 19, 26⟩ : ExceptionTableEntry)] 15 rfl (by decide) kh_L_entry.1 rfl (fun z hz => nomatch hz) rfl (by decide) kn_RL_24 hC [J p0, J p1, J p2] [J 0, .ref ou] kv_X11_entry ⟨_, _, rfl⟩ kl_RL_28 dL_entry_7 hT (by omega) rfl rfl (Nat.le_of_ble_eq_true rfl) (by omega) ⟨by omega, by omega⟩ cx (fun q9 h9 hx9 => ?_)
  refine xg_astore 17 _ dL_entry_15 rfl rfl (by decide) (Or.inr rfl) ?_
  refine xg_iconst 18 dL_entry_17 rfl ?_
  subst hX
  exact xg_ireturn dL_entry_18 rfl ⟨by omega, by omega⟩ ⟨rfl, hx9⟩

set_option maxHeartbeats 4000000 in
set_option maxRecDepth 100000 in
theorem cl_entry_2 {E : xE} {z : Nat} {T : Nat → Nat × Int} {F : Nat → Nat → Int} {I : Nat → Int → Int} {P : Nat → Nat → Option Nat} {Y : Nat → Int → Option Nat} {o ou k mc' ms' : Nat} {p0 p1 p2 : Int} {hx : xH → Prop} (cx : CtX E k mX11_entry mc' ms' [.ref o, J p0, J p1, J p2] (z, T, F, I, P, Y) "java/util/NoSuchElementException" hx) (hm : mc' ≤ 57 ∧ ms' ≤ 2100) (hT : (T o).1 = 12) (hC : ∀ u : State, E.2.2.2.2 u → va_Nw (.castable "java/util/NoSuchElementException" "java/util/NoSuchElementException") u) (hN : ∀ u : State, E.2.2.2.2 u → va_Nc "java/util/NoSuchElementException" "java/lang/IndexOutOfBoundsException" u) : CtH E (k + 1) mL_entry [(0, 12, 15, 24), (0, 12, 19, 26)] 57 2100 [.ref o, J p0, J p1, J p2, .ref ou] (z, T, F, I, P, Y) (fun v h1 => v = some (J 2) ∧ hx h1) := by
  refine CtH.of [some (.ref o), some (J p0), some (J p1), some (J p2), some (.ref ou), none] kh_L_entry rfl (Nat.le_of_ble_eq_true rfl) rfl (fun d hd => ?_)
  generalize hX : xN E _ _ _ = X
  refine xg_aload 2 dL_entry_0 rfl rfl ?_
  refine xg_iconst 3 dL_entry_2 rfl ?_
  refine xg_aloadn 4 dL_entry_3 rfl rfl rfl ?_
  refine xg_iloadn 5 dL_entry_4 rfl rfl rfl ?_
  refine xg_iloadn 6 dL_entry_5 rfl rfl rfl ?_
  refine xg_iloadn 7 dL_entry_6 rfl rfl rfl ?_
  refine xg_callVX [(0, 12, 15, 24), (0, 12, 19, 26)] [(⟨0, 12, 15, 24⟩ : ExceptionTableEntry)] (⟨0, 12, 19, 26⟩ : ExceptionTableEntry) [] 19 rfl (by decide) kh_L_entry.1 rfl (fun z hz => by cases List.mem_singleton.mp hz; exact Or.inr ⟨by decide, _, kn_RL_24, hN⟩) rfl (by decide) kn_RL_26 hC [J p0, J p1, J p2] [J 0, .ref ou] kv_X11_entry ⟨_, _, rfl⟩ kl_RL_28 dL_entry_7 hT (by omega) rfl rfl (Nat.le_of_ble_eq_true rfl) (by omega) ⟨by omega, by omega⟩ cx (fun q9 h9 hx9 => ?_)
  refine xg_astore 21 _ dL_entry_19 rfl rfl (by decide) (Or.inr rfl) ?_
  refine xg_iconst 22 dL_entry_21 rfl ?_
  subst hX
  exact xg_ireturn dL_entry_22 rfl ⟨by omega, by omega⟩ ⟨rfl, hx9⟩

theorem dL_level_0 : decode cL_level 0 = .ok (.aload_n 3, 1) := by decide +kernel
theorem dL_level_1 : decode cL_level 1 = .ok (.iconst 0, 1) := by decide +kernel
theorem dL_level_2 : decode cL_level 2 = .ok (.aload_n 0, 1) := by decide +kernel
theorem dL_level_3 : decode cL_level 3 = .ok (.iload_n 1, 1) := by decide +kernel
theorem dL_level_4 : decode cL_level 4 = .ok (.iload_n 2, 1) := by decide +kernel
theorem dL_level_5 : decode cL_level 5 = .ok (.invokevirtual 32, 3) := by decide +kernel
theorem dL_level_8 : decode cL_level 8 = .ok (.i2l, 1) := by decide +kernel
theorem dL_level_9 : decode cL_level 9 = .ok (.lastore, 1) := by decide +kernel
theorem dL_level_10 : decode cL_level 10 = .ok (.goto 11, 3) := by decide +kernel
theorem dL_level_13 : decode cL_level 13 = .ok (.astore 4, 2) := by decide +kernel
theorem dL_level_15 : decode cL_level 15 = .ok (.iconst 1, 1) := by decide +kernel
theorem dL_level_16 : decode cL_level 16 = .ok (.ireturn, 1) := by decide +kernel
theorem dL_level_17 : decode cL_level 17 = .ok (.astore 4, 2) := by decide +kernel
theorem dL_level_19 : decode cL_level 19 = .ok (.iconst 2, 1) := by decide +kernel
theorem dL_level_20 : decode cL_level 20 = .ok (.ireturn, 1) := by decide +kernel
theorem dL_level_21 : decode cL_level 21 = .ok (.iconst 0, 1) := by decide +kernel
theorem dL_level_22 : decode cL_level 22 = .ok (.ireturn, 1) := by decide +kernel
set_option maxHeartbeats 4000000 in
set_option maxRecDepth 100000 in
theorem cl_level {E : xE} {z : Nat} {T : Nat → Nat × Int} {F : Nat → Nat → Int} {I : Nat → Int → Int} {P : Nat → Nat → Option Nat} {Y : Nat → Int → Option Nat} {o ou k mc' ms' : Nat} {p0 p1 : Int} {post : Option Value → xH → Prop} (ct : Ct E k mX11_level mc' ms' [.ref o, J p0, J p1] (z, T, F, I, P, Y) post) (hm : mc' ≤ 57 ∧ ms' ≤ 2100) (hT : (T o).1 = 12) (hp : xAns ou post) : CtH E (k + 1) mL_level [(0, 10, 13, 24), (0, 10, 17, 26)] 57 2100 [.ref o, J p0, J p1, .ref ou] (z, T, F, I, P, Y) (xOk ou post) := by
  refine CtH.of [some (.ref o), some (J p0), some (J p1), some (.ref ou), none] kh_L_level rfl (Nat.le_of_ble_eq_true rfl) rfl (fun d hd => ?_)
  generalize hX : xN E _ _ _ = X
  refine xg_aloadn 1 dL_level_0 rfl rfl rfl ?_
  refine xg_iconst 2 dL_level_1 rfl ?_
  refine xg_aloadn 3 dL_level_2 rfl rfl rfl ?_
  refine xg_iloadn 4 dL_level_3 rfl rfl rfl ?_
  refine xg_iloadn 5 dL_level_4 rfl rfl rfl ?_
  refine xg_callVm 8 11 [_, _] _ kv_X11_level ⟨_, _, rfl⟩ kl_RL_32 dL_level_5 rfl hT (by omega) rfl rfl (Nat.le_of_ble_eq_true rfl) (by omega) ⟨by omega, by omega⟩ (ct) rfl (fun v9 h9 e9 => ?_)
  have e8 := e9
  obtain ⟨r9, z9, T9, F9, I9, P9, Y9, rfl, hr9, rfl, hk1, hk2⟩ := hp _ _ e9
  refine xg_i2l 9 dL_level_8 rfl hr9 ?_
  refine xg_last 10 dL_level_9 rfl hk1 (by rw [hk2]; omega) ?_
  refine xg_goto 21 dL_level_10 rfl ?_
  refine xg_iconst 22 dL_level_21 rfl ?_
  subst hX
  exact xg_ireturn dL_level_22 rfl ⟨by omega, by omega⟩ ⟨rfl, r9, z9, T9, F9, I9, P9, Y9, hr9, e8, rfl⟩

set_option maxHeartbeats 4000000 in
set_option maxRecDepth 100000 in
theorem cl_level_1 {E : xE} {z : Nat} {T : Nat → Nat × Int} {F : Nat → Nat → Int} {I : Nat → Int → Int} {P : Nat → Nat → Option Nat} {Y : Nat → Int → Option Nat} {o ou k mc' ms' : Nat} {p0 p1 : Int} {hx : xH → Prop} (cx : CtX E k mX11_level mc' ms' [.ref o, J p0, J p1] (z, T, F, I, P, Y) "java/lang/IndexOutOfBoundsException" hx) (hm : mc' ≤ 57 ∧ ms' ≤ 2100) (hT : (T o).1 = 12) (hC : ∀ u : State, E.2.2.2.2 u → va_Nw (.castable "java/lang/IndexOutOfBoundsException" "java/lang/IndexOutOfBoundsException") u) : CtH E (k + 1) mL_level [(0, 10, 13, 24), (0, 10, 17, 26)] 57 2100 [.ref o, J p0, J p1, .ref ou] (z, T, F, I, P, Y) (fun v h1 => v = some (J 1) ∧ hx h1) := by
  refine CtH.of [some (.ref o), some (J p0), some (J p1), some (.ref ou), none] kh_L_level rfl (Nat.le_of_ble_eq_true rfl) rfl (fun d hd => ?_)
  generalize hX : xN E _ _ _ = X
  refine xg_aloadn 1 dL_level_0 rfl rfl rfl ?_
  refine xg_iconst 2 dL_level_1 rfl ?_
  refine xg_aloadn 3 dL_level_2 rfl rfl rfl ?_
  refine xg_iloadn 4 dL_level_3 rfl rfl rfl ?_
  refine xg_iloadn 5 dL_level_4 rfl rfl rfl ?_
  refine xg_callVX [(0, 10, 13, 24), (0, 10, 17, 26)] [] (⟨0, 10, 13, 24⟩ : ExceptionTableEntry) [(⟨0, 10, 17, 26⟩ : ExceptionTableEntry)] 13 rfl (by decide) kh_L_level.1 rfl (fun z hz => nomatch hz) rfl (by decide) kn_RL_24 hC [J p0, J p1] [J 0, .ref ou] kv_X11_level ⟨_, _, rfl⟩ kl_RL_32 dL_level_5 hT (by omega) rfl rfl (Nat.le_of_ble_eq_true rfl) (by omega) ⟨by omega, by omega⟩ cx (fun q9 h9 hx9 => ?_)
  refine xg_astore 15 _ dL_level_13 rfl rfl (by decide) (Or.inr rfl) ?_
  refine xg_iconst 16 dL_level_15 rfl ?_
  subst hX
  exact xg_ireturn dL_level_16 rfl ⟨by omega, by omega⟩ ⟨rfl, hx9⟩

set_option maxHeartbeats 4000000 in
set_option maxRecDepth 100000 in
theorem cl_level_2 {E : xE} {z : Nat} {T : Nat → Nat × Int} {F : Nat → Nat → Int} {I : Nat → Int → Int} {P : Nat → Nat → Option Nat} {Y : Nat → Int → Option Nat} {o ou k mc' ms' : Nat} {p0 p1 : Int} {hx : xH → Prop} (cx : CtX E k mX11_level mc' ms' [.ref o, J p0, J p1] (z, T, F, I, P, Y) "java/util/NoSuchElementException" hx) (hm : mc' ≤ 57 ∧ ms' ≤ 2100) (hT : (T o).1 = 12) (hC : ∀ u : State, E.2.2.2.2 u → va_Nw (.castable "java/util/NoSuchElementException" "java/util/NoSuchElementException") u) (hN : ∀ u : State, E.2.2.2.2 u → va_Nc "java/util/NoSuchElementException" "java/lang/IndexOutOfBoundsException" u) : CtH E (k + 1) mL_level [(0, 10, 13, 24), (0, 10, 17, 26)] 57 2100 [.ref o, J p0, J p1, .ref ou] (z, T, F, I, P, Y) (fun v h1 => v = some (J 2) ∧ hx h1) := by
  refine CtH.of [some (.ref o), some (J p0), some (J p1), some (.ref ou), none] kh_L_level rfl (Nat.le_of_ble_eq_true rfl) rfl (fun d hd => ?_)
  generalize hX : xN E _ _ _ = X
  refine xg_aloadn 1 dL_level_0 rfl rfl rfl ?_
  refine xg_iconst 2 dL_level_1 rfl ?_
  refine xg_aloadn 3 dL_level_2 rfl rfl rfl ?_
  refine xg_iloadn 4 dL_level_3 rfl rfl rfl ?_
  refine xg_iloadn 5 dL_level_4 rfl rfl rfl ?_
  refine xg_callVX [(0, 10, 13, 24), (0, 10, 17, 26)] [(⟨0, 10, 13, 24⟩ : ExceptionTableEntry)] (⟨0, 10, 17, 26⟩ : ExceptionTableEntry) [] 17 rfl (by decide) kh_L_level.1 rfl (fun z hz => by cases List.mem_singleton.mp hz; exact Or.inr ⟨by decide, _, kn_RL_24, hN⟩) rfl (by decide) kn_RL_26 hC [J p0, J p1] [J 0, .ref ou] kv_X11_level ⟨_, _, rfl⟩ kl_RL_32 dL_level_5 hT (by omega) rfl rfl (Nat.le_of_ble_eq_true rfl) (by omega) ⟨by omega, by omega⟩ cx (fun q9 h9 hx9 => ?_)
  refine xg_astore 19 _ dL_level_17 rfl rfl (by decide) (Or.inr rfl) ?_
  refine xg_iconst 20 dL_level_19 rfl ?_
  subst hX
  exact xg_ireturn dL_level_20 rfl ⟨by omega, by omega⟩ ⟨rfl, hx9⟩

theorem dL_job_0 : decode cL_job 0 = .ok (.aload_n 2, 1) := by decide +kernel
theorem dL_job_1 : decode cL_job 1 = .ok (.iconst 0, 1) := by decide +kernel
theorem dL_job_2 : decode cL_job 2 = .ok (.aload_n 0, 1) := by decide +kernel
theorem dL_job_3 : decode cL_job 3 = .ok (.iload_n 1, 1) := by decide +kernel
theorem dL_job_4 : decode cL_job 4 = .ok (.invokevirtual 35, 3) := by decide +kernel
theorem dL_job_7 : decode cL_job 7 = .ok (.i2l, 1) := by decide +kernel
theorem dL_job_8 : decode cL_job 8 = .ok (.lastore, 1) := by decide +kernel
theorem dL_job_9 : decode cL_job 9 = .ok (.goto 6, 3) := by decide +kernel
theorem dL_job_12 : decode cL_job 12 = .ok (.astore_n 3, 1) := by decide +kernel
theorem dL_job_13 : decode cL_job 13 = .ok (.iconst 1, 1) := by decide +kernel
theorem dL_job_14 : decode cL_job 14 = .ok (.ireturn, 1) := by decide +kernel
theorem dL_job_15 : decode cL_job 15 = .ok (.iconst 0, 1) := by decide +kernel
theorem dL_job_16 : decode cL_job 16 = .ok (.ireturn, 1) := by decide +kernel
set_option maxHeartbeats 4000000 in
set_option maxRecDepth 100000 in
theorem cl_job {E : xE} {z : Nat} {T : Nat → Nat × Int} {F : Nat → Nat → Int} {I : Nat → Int → Int} {P : Nat → Nat → Option Nat} {Y : Nat → Int → Option Nat} {o ou k mc' ms' : Nat} {p0 : Int} {post : Option Value → xH → Prop} (ct : Ct E k mX11_job mc' ms' [.ref o, J p0] (z, T, F, I, P, Y) post) (hm : mc' ≤ 57 ∧ ms' ≤ 2100) (hT : (T o).1 = 12) (hp : xAns ou post) : CtH E (k + 1) mL_job [(0, 9, 12, 26)] 57 2100 [.ref o, J p0, .ref ou] (z, T, F, I, P, Y) (xOk ou post) := by
  refine CtH.of [some (.ref o), some (J p0), some (.ref ou), none] kh_L_job rfl (Nat.le_of_ble_eq_true rfl) rfl (fun d hd => ?_)
  generalize hX : xN E _ _ _ = X
  refine xg_aloadn 1 dL_job_0 rfl rfl rfl ?_
  refine xg_iconst 2 dL_job_1 rfl ?_
  refine xg_aloadn 3 dL_job_2 rfl rfl rfl ?_
  refine xg_iloadn 4 dL_job_3 rfl rfl rfl ?_
  refine xg_callVm 7 11 [_] _ kv_X11_job ⟨_, _, rfl⟩ kl_RL_35 dL_job_4 rfl hT (by omega) rfl rfl (Nat.le_of_ble_eq_true rfl) (by omega) ⟨by omega, by omega⟩ (ct) rfl (fun v9 h9 e9 => ?_)
  have e8 := e9
  obtain ⟨r9, z9, T9, F9, I9, P9, Y9, rfl, hr9, rfl, hk1, hk2⟩ := hp _ _ e9
  refine xg_i2l 8 dL_job_7 rfl hr9 ?_
  refine xg_last 9 dL_job_8 rfl hk1 (by rw [hk2]; omega) ?_
  refine xg_goto 15 dL_job_9 rfl ?_
  refine xg_iconst 16 dL_job_15 rfl ?_
  subst hX
  exact xg_ireturn dL_job_16 rfl ⟨by omega, by omega⟩ ⟨rfl, r9, z9, T9, F9, I9, P9, Y9, hr9, e8, rfl⟩

set_option maxHeartbeats 4000000 in
set_option maxRecDepth 100000 in
theorem cl_job_1 {E : xE} {z : Nat} {T : Nat → Nat × Int} {F : Nat → Nat → Int} {I : Nat → Int → Int} {P : Nat → Nat → Option Nat} {Y : Nat → Int → Option Nat} {o ou k mc' ms' : Nat} {p0 : Int} {hx : xH → Prop} (cx : CtX E k mX11_job mc' ms' [.ref o, J p0] (z, T, F, I, P, Y) "java/util/NoSuchElementException" hx) (hm : mc' ≤ 57 ∧ ms' ≤ 2100) (hT : (T o).1 = 12) (hC : ∀ u : State, E.2.2.2.2 u → va_Nw (.castable "java/util/NoSuchElementException" "java/util/NoSuchElementException") u) : CtH E (k + 1) mL_job [(0, 9, 12, 26)] 57 2100 [.ref o, J p0, .ref ou] (z, T, F, I, P, Y) (fun v h1 => v = some (J 1) ∧ hx h1) := by
  refine CtH.of [some (.ref o), some (J p0), some (.ref ou), none] kh_L_job rfl (Nat.le_of_ble_eq_true rfl) rfl (fun d hd => ?_)
  generalize hX : xN E _ _ _ = X
  refine xg_aloadn 1 dL_job_0 rfl rfl rfl ?_
  refine xg_iconst 2 dL_job_1 rfl ?_
  refine xg_aloadn 3 dL_job_2 rfl rfl rfl ?_
  refine xg_iloadn 4 dL_job_3 rfl rfl rfl ?_
  refine xg_callVX [(0, 9, 12, 26)] [] (⟨0, 9, 12, 26⟩ : ExceptionTableEntry) [] 12 rfl (by decide) kh_L_job.1 rfl (fun z hz => nomatch hz) rfl (by decide) kn_RL_26 hC [J p0] [J 0, .ref ou] kv_X11_job ⟨_, _, rfl⟩ kl_RL_35 dL_job_4 hT (by omega) rfl rfl (Nat.le_of_ble_eq_true rfl) (by omega) ⟨by omega, by omega⟩ cx (fun q9 h9 hx9 => ?_)
  refine xg_astoren 13 _ dL_job_12 rfl rfl rfl (by decide) (Or.inr rfl) ?_
  refine xg_iconst 14 dL_job_13 rfl ?_
  subst hX
  exact xg_ireturn dL_job_14 rfl ⟨by omega, by omega⟩ ⟨rfl, hx9⟩

theorem dL_ticks_0 : decode cL_ticks 0 = .ok (.aload_n 2, 1) := by decide +kernel
theorem dL_ticks_1 : decode cL_ticks 1 = .ok (.iconst 0, 1) := by decide +kernel
theorem dL_ticks_2 : decode cL_ticks 2 = .ok (.aload_n 0, 1) := by decide +kernel
theorem dL_ticks_3 : decode cL_ticks 3 = .ok (.iload_n 1, 1) := by decide +kernel
theorem dL_ticks_4 : decode cL_ticks 4 = .ok (.invokevirtual 39, 3) := by decide +kernel
theorem dL_ticks_7 : decode cL_ticks 7 = .ok (.i2l, 1) := by decide +kernel
theorem dL_ticks_8 : decode cL_ticks 8 = .ok (.lastore, 1) := by decide +kernel
theorem dL_ticks_9 : decode cL_ticks 9 = .ok (.goto 6, 3) := by decide +kernel
theorem dL_ticks_12 : decode cL_ticks 12 = .ok (.astore_n 3, 1) := by decide +kernel
theorem dL_ticks_13 : decode cL_ticks 13 = .ok (.iconst 1, 1) := by decide +kernel
theorem dL_ticks_14 : decode cL_ticks 14 = .ok (.ireturn, 1) := by decide +kernel
theorem dL_ticks_15 : decode cL_ticks 15 = .ok (.iconst 0, 1) := by decide +kernel
theorem dL_ticks_16 : decode cL_ticks 16 = .ok (.ireturn, 1) := by decide +kernel
set_option maxHeartbeats 4000000 in
set_option maxRecDepth 100000 in
theorem cl_ticks {E : xE} {z : Nat} {T : Nat → Nat × Int} {F : Nat → Nat → Int} {I : Nat → Int → Int} {P : Nat → Nat → Option Nat} {Y : Nat → Int → Option Nat} {o ou k mc' ms' : Nat} {p0 : Int} {post : Option Value → xH → Prop} (ct : Ct E k mX11_ticks mc' ms' [.ref o, J p0] (z, T, F, I, P, Y) post) (hm : mc' ≤ 57 ∧ ms' ≤ 2100) (hT : (T o).1 = 12) (hp : xAns ou post) : CtH E (k + 1) mL_ticks [(0, 9, 12, 13)] 57 2100 [.ref o, J p0, .ref ou] (z, T, F, I, P, Y) (xOk ou post) := by
  refine CtH.of [some (.ref o), some (J p0), some (.ref ou), none] kh_L_ticks rfl (Nat.le_of_ble_eq_true rfl) rfl (fun d hd => ?_)
  generalize hX : xN E _ _ _ = X
  refine xg_aloadn 1 dL_ticks_0 rfl rfl rfl ?_
  refine xg_iconst 2 dL_ticks_1 rfl ?_
  refine xg_aloadn 3 dL_ticks_2 rfl rfl rfl ?_
  refine xg_iloadn 4 dL_ticks_3 rfl rfl rfl ?_
  refine xg_callVm 7 11 [_] _ kv_X11_ticks ⟨_, _, rfl⟩ kl_RL_39 dL_ticks_4 rfl hT (by omega) rfl rfl (Nat.le_of_ble_eq_true rfl) (by omega) ⟨by omega, by omega⟩ (ct) rfl (fun v9 h9 e9 => ?_)
  have e8 := e9
  obtain ⟨r9, z9, T9, F9, I9, P9, Y9, rfl, hr9, rfl, hk1, hk2⟩ := hp _ _ e9
  refine xg_i2l 8 dL_ticks_7 rfl hr9 ?_
  refine xg_last 9 dL_ticks_8 rfl hk1 (by rw [hk2]; omega) ?_
  refine xg_goto 15 dL_ticks_9 rfl ?_
  refine xg_iconst 16 dL_ticks_15 rfl ?_
  subst hX
  exact xg_ireturn dL_ticks_16 rfl ⟨by omega, by omega⟩ ⟨rfl, r9, z9, T9, F9, I9, P9, Y9, hr9, e8, rfl⟩

set_option maxHeartbeats 4000000 in
set_option maxRecDepth 100000 in
theorem cl_ticks_1 {E : xE} {z : Nat} {T : Nat → Nat × Int} {F : Nat → Nat → Int} {I : Nat → Int → Int} {P : Nat → Nat → Option Nat} {Y : Nat → Int → Option Nat} {o ou k mc' ms' : Nat} {p0 : Int} {hx : xH → Prop} (cx : CtX E k mX11_ticks mc' ms' [.ref o, J p0] (z, T, F, I, P, Y) "java/lang/IllegalArgumentException" hx) (hm : mc' ≤ 57 ∧ ms' ≤ 2100) (hT : (T o).1 = 12) (hC : ∀ u : State, E.2.2.2.2 u → va_Nw (.castable "java/lang/IllegalArgumentException" "java/lang/IllegalArgumentException") u) : CtH E (k + 1) mL_ticks [(0, 9, 12, 13)] 57 2100 [.ref o, J p0, .ref ou] (z, T, F, I, P, Y) (fun v h1 => v = some (J 1) ∧ hx h1) := by
  refine CtH.of [some (.ref o), some (J p0), some (.ref ou), none] kh_L_ticks rfl (Nat.le_of_ble_eq_true rfl) rfl (fun d hd => ?_)
  generalize hX : xN E _ _ _ = X
  refine xg_aloadn 1 dL_ticks_0 rfl rfl rfl ?_
  refine xg_iconst 2 dL_ticks_1 rfl ?_
  refine xg_aloadn 3 dL_ticks_2 rfl rfl rfl ?_
  refine xg_iloadn 4 dL_ticks_3 rfl rfl rfl ?_
  refine xg_callVX [(0, 9, 12, 13)] [] (⟨0, 9, 12, 13⟩ : ExceptionTableEntry) [] 12 rfl (by decide) kh_L_ticks.1 rfl (fun z hz => nomatch hz) rfl (by decide) kn_RL_13 hC [J p0] [J 0, .ref ou] kv_X11_ticks ⟨_, _, rfl⟩ kl_RL_39 dL_ticks_4 hT (by omega) rfl rfl (Nat.le_of_ble_eq_true rfl) (by omega) ⟨by omega, by omega⟩ cx (fun q9 h9 hx9 => ?_)
  refine xg_astoren 13 _ dL_ticks_12 rfl rfl rfl (by decide) (Or.inr rfl) ?_
  refine xg_iconst 14 dL_ticks_13 rfl ?_
  subst hX
  exact xg_ireturn dL_ticks_14 rfl ⟨by omega, by omega⟩ ⟨rfl, hx9⟩

theorem dL_put_0 : decode cL_put 0 = .ok (.aload_n 3, 1) := by decide +kernel
theorem dL_put_1 : decode cL_put 1 = .ok (.iconst 0, 1) := by decide +kernel
theorem dL_put_2 : decode cL_put 2 = .ok (.aload_n 0, 1) := by decide +kernel
theorem dL_put_3 : decode cL_put 3 = .ok (.iload_n 1, 1) := by decide +kernel
theorem dL_put_4 : decode cL_put 4 = .ok (.iload_n 2, 1) := by decide +kernel
theorem dL_put_5 : decode cL_put 5 = .ok (.invokevirtual 42, 3) := by decide +kernel
theorem dL_put_8 : decode cL_put 8 = .ok (.i2l, 1) := by decide +kernel
theorem dL_put_9 : decode cL_put 9 = .ok (.lastore, 1) := by decide +kernel
theorem dL_put_10 : decode cL_put 10 = .ok (.goto 11, 3) := by decide +kernel
theorem dL_put_13 : decode cL_put 13 = .ok (.astore 4, 2) := by decide +kernel
theorem dL_put_15 : decode cL_put 15 = .ok (.iconst 1, 1) := by decide +kernel
theorem dL_put_16 : decode cL_put 16 = .ok (.ireturn, 1) := by decide +kernel
theorem dL_put_17 : decode cL_put 17 = .ok (.astore 4, 2) := by decide +kernel
theorem dL_put_19 : decode cL_put 19 = .ok (.iconst 2, 1) := by decide +kernel
theorem dL_put_20 : decode cL_put 20 = .ok (.ireturn, 1) := by decide +kernel
theorem dL_put_21 : decode cL_put 21 = .ok (.iconst 0, 1) := by decide +kernel
theorem dL_put_22 : decode cL_put 22 = .ok (.ireturn, 1) := by decide +kernel
set_option maxHeartbeats 4000000 in
set_option maxRecDepth 100000 in
theorem cl_put {E : xE} {z : Nat} {T : Nat → Nat × Int} {F : Nat → Nat → Int} {I : Nat → Int → Int} {P : Nat → Nat → Option Nat} {Y : Nat → Int → Option Nat} {o ou k mc' ms' : Nat} {p0 p1 : Int} {post : Option Value → xH → Prop} (ct : Ct E k mX11_put mc' ms' [.ref o, J p0, J p1] (z, T, F, I, P, Y) post) (hm : mc' ≤ 57 ∧ ms' ≤ 2100) (hT : (T o).1 = 12) (hp : xAns ou post) : CtH E (k + 1) mL_put [(0, 10, 13, 24), (0, 10, 17, 13)] 57 2100 [.ref o, J p0, J p1, .ref ou] (z, T, F, I, P, Y) (xOk ou post) := by
  refine CtH.of [some (.ref o), some (J p0), some (J p1), some (.ref ou), none] kh_L_put rfl (Nat.le_of_ble_eq_true rfl) rfl (fun d hd => ?_)
  generalize hX : xN E _ _ _ = X
  refine xg_aloadn 1 dL_put_0 rfl rfl rfl ?_
  refine xg_iconst 2 dL_put_1 rfl ?_
  refine xg_aloadn 3 dL_put_2 rfl rfl rfl ?_
  refine xg_iloadn 4 dL_put_3 rfl rfl rfl ?_
  refine xg_iloadn 5 dL_put_4 rfl rfl rfl ?_
  refine xg_callVm 8 11 [_, _] _ kv_X11_put ⟨_, _, rfl⟩ kl_RL_42 dL_put_5 rfl hT (by omega) rfl rfl (Nat.le_of_ble_eq_true rfl) (by omega) ⟨by omega, by omega⟩ (ct) rfl (fun v9 h9 e9 => ?_)
  have e8 := e9
  obtain ⟨r9, z9, T9, F9, I9, P9, Y9, rfl, hr9, rfl, hk1, hk2⟩ := hp _ _ e9
  refine xg_i2l 9 dL_put_8 rfl hr9 ?_
  refine xg_last 10 dL_put_9 rfl hk1 (by rw [hk2]; omega) ?_
  refine xg_goto 21 dL_put_10 rfl ?_
  refine xg_iconst 22 dL_put_21 rfl ?_
  subst hX
  exact xg_ireturn dL_put_22 rfl ⟨by omega, by omega⟩ ⟨rfl, r9, z9, T9, F9, I9, P9, Y9, hr9, e8, rfl⟩

set_option maxHeartbeats 4000000 in
set_option maxRecDepth 100000 in
theorem cl_put_1 {E : xE} {z : Nat} {T : Nat → Nat × Int} {F : Nat → Nat → Int} {I : Nat → Int → Int} {P : Nat → Nat → Option Nat} {Y : Nat → Int → Option Nat} {o ou k mc' ms' : Nat} {p0 p1 : Int} {hx : xH → Prop} (cx : CtX E k mX11_put mc' ms' [.ref o, J p0, J p1] (z, T, F, I, P, Y) "java/lang/IndexOutOfBoundsException" hx) (hm : mc' ≤ 57 ∧ ms' ≤ 2100) (hT : (T o).1 = 12) (hC : ∀ u : State, E.2.2.2.2 u → va_Nw (.castable "java/lang/IndexOutOfBoundsException" "java/lang/IndexOutOfBoundsException") u) : CtH E (k + 1) mL_put [(0, 10, 13, 24), (0, 10, 17, 13)] 57 2100 [.ref o, J p0, J p1, .ref ou] (z, T, F, I, P, Y) (fun v h1 => v = some (J 1) ∧ hx h1) := by
  refine CtH.of [some (.ref o), some (J p0), some (J p1), some (.ref ou), none] kh_L_put rfl (Nat.le_of_ble_eq_true rfl) rfl (fun d hd => ?_)
  generalize hX : xN E _ _ _ = X
  refine xg_aloadn 1 dL_put_0 rfl rfl rfl ?_
  refine xg_iconst 2 dL_put_1 rfl ?_
  refine xg_aloadn 3 dL_put_2 rfl rfl rfl ?_
  refine xg_iloadn 4 dL_put_3 rfl rfl rfl ?_
  refine xg_iloadn 5 dL_put_4 rfl rfl rfl ?_
  refine xg_callVX [(0, 10, 13, 24), (0, 10, 17, 13)] [] (⟨0, 10, 13, 24⟩ : ExceptionTableEntry) [(⟨0, 10, 17, 13⟩ : ExceptionTableEntry)] 13 rfl (by decide) kh_L_put.1 rfl (fun z hz => nomatch hz) rfl (by decide) kn_RL_24 hC [J p0, J p1] [J 0, .ref ou] kv_X11_put ⟨_, _, rfl⟩ kl_RL_42 dL_put_5 hT (by omega) rfl rfl (Nat.le_of_ble_eq_true rfl) (by omega) ⟨by omega, by omega⟩ cx (fun q9 h9 hx9 => ?_)
  refine xg_astore 15 _ dL_put_13 rfl rfl (by decide) (Or.inr rfl) ?_
  refine xg_iconst 16 dL_put_15 rfl ?_
  subst hX
  exact xg_ireturn dL_put_16 rfl ⟨by omega, by omega⟩ ⟨rfl, hx9⟩

set_option maxHeartbeats 4000000 in
set_option maxRecDepth 100000 in
theorem cl_put_2 {E : xE} {z : Nat} {T : Nat → Nat × Int} {F : Nat → Nat → Int} {I : Nat → Int → Int} {P : Nat → Nat → Option Nat} {Y : Nat → Int → Option Nat} {o ou k mc' ms' : Nat} {p0 p1 : Int} {hx : xH → Prop} (cx : CtX E k mX11_put mc' ms' [.ref o, J p0, J p1] (z, T, F, I, P, Y) "java/lang/IllegalArgumentException" hx) (hm : mc' ≤ 57 ∧ ms' ≤ 2100) (hT : (T o).1 = 12) (hC : ∀ u : State, E.2.2.2.2 u → va_Nw (.castable "java/lang/IllegalArgumentException" "java/lang/IllegalArgumentException") u) (hN : ∀ u : State, E.2.2.2.2 u → va_Nc "java/lang/IllegalArgumentException" "java/lang/IndexOutOfBoundsException" u) : CtH E (k + 1) mL_put [(0, 10, 13, 24), (0, 10, 17, 13)] 57 2100 [.ref o, J p0, J p1, .ref ou] (z, T, F, I, P, Y) (fun v h1 => v = some (J 2) ∧ hx h1) := by
  refine CtH.of [some (.ref o), some (J p0), some (J p1), some (.ref ou), none] kh_L_put rfl (Nat.le_of_ble_eq_true rfl) rfl (fun d hd => ?_)
  generalize hX : xN E _ _ _ = X
  refine xg_aloadn 1 dL_put_0 rfl rfl rfl ?_
  refine xg_iconst 2 dL_put_1 rfl ?_
  refine xg_aloadn 3 dL_put_2 rfl rfl rfl ?_
  refine xg_iloadn 4 dL_put_3 rfl rfl rfl ?_
  refine xg_iloadn 5 dL_put_4 rfl rfl rfl ?_
  refine xg_callVX [(0, 10, 13, 24), (0, 10, 17, 13)] [(⟨0, 10, 13, 24⟩ : ExceptionTableEntry)] (⟨0, 10, 17, 13⟩ : ExceptionTableEntry) [] 17 rfl (by decide) kh_L_put.1 rfl (fun z hz => by cases List.mem_singleton.mp hz; exact Or.inr ⟨by decide, _, kn_RL_24, hN⟩) rfl (by decide) kn_RL_13 hC [J p0, J p1] [J 0, .ref ou] kv_X11_put ⟨_, _, rfl⟩ kl_RL_42 dL_put_5 hT (by omega) rfl rfl (Nat.le_of_ble_eq_true rfl) (by omega) ⟨by omega, by omega⟩ cx (fun q9 h9 hx9 => ?_)
  refine xg_astore 19 _ dL_put_17 rfl rfl (by decide) (Or.inr rfl) ?_
  refine xg_iconst 20 dL_put_19 rfl ?_
  subst hX
  exact xg_ireturn dL_put_20 rfl ⟨by omega, by omega⟩ ⟨rfl, hx9⟩

theorem dL_remove_0 : decode cL_remove 0 = .ok (.aload_n 2, 1) := by decide +kernel
theorem dL_remove_1 : decode cL_remove 1 = .ok (.iconst 0, 1) := by decide +kernel
theorem dL_remove_2 : decode cL_remove 2 = .ok (.aload_n 0, 1) := by decide +kernel
theorem dL_remove_3 : decode cL_remove 3 = .ok (.iload_n 1, 1) := by decide +kernel
theorem dL_remove_4 : decode cL_remove 4 = .ok (.invokevirtual 45, 3) := by decide +kernel
theorem dL_remove_7 : decode cL_remove 7 = .ok (.i2l, 1) := by decide +kernel
theorem dL_remove_8 : decode cL_remove 8 = .ok (.lastore, 1) := by decide +kernel
theorem dL_remove_9 : decode cL_remove 9 = .ok (.goto 6, 3) := by decide +kernel
theorem dL_remove_12 : decode cL_remove 12 = .ok (.astore_n 3, 1) := by decide +kernel
theorem dL_remove_13 : decode cL_remove 13 = .ok (.iconst 1, 1) := by decide +kernel
theorem dL_remove_14 : decode cL_remove 14 = .ok (.ireturn, 1) := by decide +kernel
theorem dL_remove_15 : decode cL_remove 15 = .ok (.iconst 0, 1) := by decide +kernel
theorem dL_remove_16 : decode cL_remove 16 = .ok (.ireturn, 1) := by decide +kernel
set_option maxHeartbeats 4000000 in
set_option maxRecDepth 100000 in
theorem cl_remove {E : xE} {z : Nat} {T : Nat → Nat × Int} {F : Nat → Nat → Int} {I : Nat → Int → Int} {P : Nat → Nat → Option Nat} {Y : Nat → Int → Option Nat} {o ou k mc' ms' : Nat} {p0 : Int} {post : Option Value → xH → Prop} (ct : Ct E k mX11_remove mc' ms' [.ref o, J p0] (z, T, F, I, P, Y) post) (hm : mc' ≤ 57 ∧ ms' ≤ 2100) (hT : (T o).1 = 12) (hp : xAns ou post) : CtH E (k + 1) mL_remove [(0, 9, 12, 24)] 57 2100 [.ref o, J p0, .ref ou] (z, T, F, I, P, Y) (xOk ou post) := by
  refine CtH.of [some (.ref o), some (J p0), some (.ref ou), none] kh_L_remove rfl (Nat.le_of_ble_eq_true rfl) rfl (fun d hd => ?_)
  generalize hX : xN E _ _ _ = X
  refine xg_aloadn 1 dL_remove_0 rfl rfl rfl ?_
  refine xg_iconst 2 dL_remove_1 rfl ?_
  refine xg_aloadn 3 dL_remove_2 rfl rfl rfl ?_
  refine xg_iloadn 4 dL_remove_3 rfl rfl rfl ?_
  refine xg_callVm 7 11 [_] _ kv_X11_remove ⟨_, _, rfl⟩ kl_RL_45 dL_remove_4 rfl hT (by omega) rfl rfl (Nat.le_of_ble_eq_true rfl) (by omega) ⟨by omega, by omega⟩ (ct) rfl (fun v9 h9 e9 => ?_)
  have e8 := e9
  obtain ⟨r9, z9, T9, F9, I9, P9, Y9, rfl, hr9, rfl, hk1, hk2⟩ := hp _ _ e9
  refine xg_i2l 8 dL_remove_7 rfl hr9 ?_
  refine xg_last 9 dL_remove_8 rfl hk1 (by rw [hk2]; omega) ?_
  refine xg_goto 15 dL_remove_9 rfl ?_
  refine xg_iconst 16 dL_remove_15 rfl ?_
  subst hX
  exact xg_ireturn dL_remove_16 rfl ⟨by omega, by omega⟩ ⟨rfl, r9, z9, T9, F9, I9, P9, Y9, hr9, e8, rfl⟩

set_option maxHeartbeats 4000000 in
set_option maxRecDepth 100000 in
theorem cl_remove_1 {E : xE} {z : Nat} {T : Nat → Nat × Int} {F : Nat → Nat → Int} {I : Nat → Int → Int} {P : Nat → Nat → Option Nat} {Y : Nat → Int → Option Nat} {o ou k mc' ms' : Nat} {p0 : Int} {hx : xH → Prop} (cx : CtX E k mX11_remove mc' ms' [.ref o, J p0] (z, T, F, I, P, Y) "java/lang/IndexOutOfBoundsException" hx) (hm : mc' ≤ 57 ∧ ms' ≤ 2100) (hT : (T o).1 = 12) (hC : ∀ u : State, E.2.2.2.2 u → va_Nw (.castable "java/lang/IndexOutOfBoundsException" "java/lang/IndexOutOfBoundsException") u) : CtH E (k + 1) mL_remove [(0, 9, 12, 24)] 57 2100 [.ref o, J p0, .ref ou] (z, T, F, I, P, Y) (fun v h1 => v = some (J 1) ∧ hx h1) := by
  refine CtH.of [some (.ref o), some (J p0), some (.ref ou), none] kh_L_remove rfl (Nat.le_of_ble_eq_true rfl) rfl (fun d hd => ?_)
  generalize hX : xN E _ _ _ = X
  refine xg_aloadn 1 dL_remove_0 rfl rfl rfl ?_
  refine xg_iconst 2 dL_remove_1 rfl ?_
  refine xg_aloadn 3 dL_remove_2 rfl rfl rfl ?_
  refine xg_iloadn 4 dL_remove_3 rfl rfl rfl ?_
  refine xg_callVX [(0, 9, 12, 24)] [] (⟨0, 9, 12, 24⟩ : ExceptionTableEntry) [] 12 rfl (by decide) kh_L_remove.1 rfl (fun z hz => nomatch hz) rfl (by decide) kn_RL_24 hC [J p0] [J 0, .ref ou] kv_X11_remove ⟨_, _, rfl⟩ kl_RL_45 dL_remove_4 hT (by omega) rfl rfl (Nat.le_of_ble_eq_true rfl) (by omega) ⟨by omega, by omega⟩ cx (fun q9 h9 hx9 => ?_)
  refine xg_astoren 13 _ dL_remove_12 rfl rfl rfl (by decide) (Or.inr rfl) ?_
  refine xg_iconst 14 dL_remove_13 rfl ?_
  subst hX
  exact xg_ireturn dL_remove_14 rfl ⟨by omega, by omega⟩ ⟨rfl, hx9⟩

theorem dL_work_0 : decode cL_work 0 = .ok (.aload_n 1, 1) := by decide +kernel
theorem dL_work_1 : decode cL_work 1 = .ok (.iconst 0, 1) := by decide +kernel
theorem dL_work_2 : decode cL_work 2 = .ok (.aload_n 0, 1) := by decide +kernel
theorem dL_work_3 : decode cL_work 3 = .ok (.invokevirtual 48, 3) := by decide +kernel
theorem dL_work_6 : decode cL_work 6 = .ok (.i2l, 1) := by decide +kernel
theorem dL_work_7 : decode cL_work 7 = .ok (.lastore, 1) := by decide +kernel
theorem dL_work_8 : decode cL_work 8 = .ok (.goto 6, 3) := by decide +kernel
theorem dL_work_11 : decode cL_work 11 = .ok (.astore_n 2, 1) := by decide +kernel
theorem dL_work_12 : decode cL_work 12 = .ok (.iconst 1, 1) := by decide +kernel
theorem dL_work_13 : decode cL_work 13 = .ok (.ireturn, 1) := by decide +kernel
theorem dL_work_14 : decode cL_work 14 = .ok (.iconst 0, 1) := by decide +kernel
theorem dL_work_15 : decode cL_work 15 = .ok (.ireturn, 1) := by decide +kernel
set_option maxHeartbeats 4000000 in
set_option maxRecDepth 100000 in
theorem cl_work {E : xE} {z : Nat} {T : Nat → Nat × Int} {F : Nat → Nat → Int} {I : Nat → Int → Int} {P : Nat → Nat → Option Nat} {Y : Nat → Int → Option Nat} {o ou k mc' ms' : Nat} {post : Option Value → xH → Prop} (ct : Ct E k mX11_work mc' ms' [.ref o] (z, T, F, I, P, Y) post) (hm : mc' ≤ 57 ∧ ms' ≤ 2100) (hT : (T o).1 = 12) (hp : xAns ou post) : CtH E (k + 1) mL_work [(0, 8, 11, 51)] 57 2100 [.ref o, .ref ou] (z, T, F, I, P, Y) (xOk ou post) := by
  refine CtH.of [some (.ref o), some (.ref ou), none] kh_L_work rfl (Nat.le_of_ble_eq_true rfl) rfl (fun d hd => ?_)
  generalize hX : xN E _ _ _ = X
  refine xg_aloadn 1 dL_work_0 rfl rfl rfl ?_
  refine xg_iconst 2 dL_work_1 rfl ?_
  refine xg_aloadn 3 dL_work_2 rfl rfl rfl ?_
  refine xg_callVm 6 11 [] _ kv_X11_work ⟨_, _, rfl⟩ kl_RL_48 dL_work_3 rfl hT (by omega) rfl rfl (Nat.le_of_ble_eq_true rfl) (by omega) ⟨by omega, by omega⟩ (ct) rfl (fun v9 h9 e9 => ?_)
  have e8 := e9
  obtain ⟨r9, z9, T9, F9, I9, P9, Y9, rfl, hr9, rfl, hk1, hk2⟩ := hp _ _ e9
  refine xg_i2l 7 dL_work_6 rfl hr9 ?_
  refine xg_last 8 dL_work_7 rfl hk1 (by rw [hk2]; omega) ?_
  refine xg_goto 14 dL_work_8 rfl ?_
  refine xg_iconst 15 dL_work_14 rfl ?_
  subst hX
  exact xg_ireturn dL_work_15 rfl ⟨by omega, by omega⟩ ⟨rfl, r9, z9, T9, F9, I9, P9, Y9, hr9, e8, rfl⟩

set_option maxHeartbeats 4000000 in
set_option maxRecDepth 100000 in
theorem cl_work_1 {E : xE} {z : Nat} {T : Nat → Nat × Int} {F : Nat → Nat → Int} {I : Nat → Int → Int} {P : Nat → Nat → Option Nat} {Y : Nat → Int → Option Nat} {o ou k mc' ms' : Nat} {hx : xH → Prop} (cx : CtX E k mX11_work mc' ms' [.ref o] (z, T, F, I, P, Y) "java/lang/IllegalStateException" hx) (hm : mc' ≤ 57 ∧ ms' ≤ 2100) (hT : (T o).1 = 12) (hC : ∀ u : State, E.2.2.2.2 u → va_Nw (.castable "java/lang/IllegalStateException" "java/lang/IllegalStateException") u) : CtH E (k + 1) mL_work [(0, 8, 11, 51)] 57 2100 [.ref o, .ref ou] (z, T, F, I, P, Y) (fun v h1 => v = some (J 1) ∧ hx h1) := by
  refine CtH.of [some (.ref o), some (.ref ou), none] kh_L_work rfl (Nat.le_of_ble_eq_true rfl) rfl (fun d hd => ?_)
  generalize hX : xN E _ _ _ = X
  refine xg_aloadn 1 dL_work_0 rfl rfl rfl ?_
  refine xg_iconst 2 dL_work_1 rfl ?_
  refine xg_aloadn 3 dL_work_2 rfl rfl rfl ?_
  refine xg_callVX [(0, 8, 11, 51)] [] (⟨0, 8, 11, 51⟩ : ExceptionTableEntry) [] 11 rfl (by decide) kh_L_work.1 rfl (fun z hz => nomatch hz) rfl (by decide) kn_RL_51 hC [] [J 0, .ref ou] kv_X11_work ⟨_, _, rfl⟩ kl_RL_48 dL_work_3 hT (by omega) rfl rfl (Nat.le_of_ble_eq_true rfl) (by omega) ⟨by omega, by omega⟩ cx (fun q9 h9 hx9 => ?_)
  refine xg_astoren 12 _ dL_work_11 rfl rfl rfl (by decide) (Or.inr rfl) ?_
  refine xg_iconst 13 dL_work_12 rfl ?_
  subst hX
  exact xg_ireturn dL_work_13 rfl ⟨by omega, by omega⟩ ⟨rfl, hx9⟩

theorem dL_halt_0 : decode cL_halt 0 = .ok (.aload_n 1, 1) := by decide +kernel
theorem dL_halt_1 : decode cL_halt 1 = .ok (.iconst 0, 1) := by decide +kernel
theorem dL_halt_2 : decode cL_halt 2 = .ok (.aload_n 0, 1) := by decide +kernel
theorem dL_halt_3 : decode cL_halt 3 = .ok (.invokevirtual 53, 3) := by decide +kernel
theorem dL_halt_6 : decode cL_halt 6 = .ok (.i2l, 1) := by decide +kernel
theorem dL_halt_7 : decode cL_halt 7 = .ok (.lastore, 1) := by decide +kernel
theorem dL_halt_8 : decode cL_halt 8 = .ok (.goto 6, 3) := by decide +kernel
theorem dL_halt_11 : decode cL_halt 11 = .ok (.astore_n 2, 1) := by decide +kernel
theorem dL_halt_12 : decode cL_halt 12 = .ok (.iconst 1, 1) := by decide +kernel
theorem dL_halt_13 : decode cL_halt 13 = .ok (.ireturn, 1) := by decide +kernel
theorem dL_halt_14 : decode cL_halt 14 = .ok (.iconst 0, 1) := by decide +kernel
theorem dL_halt_15 : decode cL_halt 15 = .ok (.ireturn, 1) := by decide +kernel
set_option maxHeartbeats 4000000 in
set_option maxRecDepth 100000 in
theorem cl_halt {E : xE} {z : Nat} {T : Nat → Nat × Int} {F : Nat → Nat → Int} {I : Nat → Int → Int} {P : Nat → Nat → Option Nat} {Y : Nat → Int → Option Nat} {o ou k mc' ms' : Nat} {post : Option Value → xH → Prop} (ct : Ct E k mX11_halt mc' ms' [.ref o] (z, T, F, I, P, Y) post) (hm : mc' ≤ 57 ∧ ms' ≤ 2100) (hT : (T o).1 = 12) (hp : xAns ou post) : CtH E (k + 1) mL_halt [(0, 8, 11, 51)] 57 2100 [.ref o, .ref ou] (z, T, F, I, P, Y) (xOk ou post) := by
  refine CtH.of [some (.ref o), some (.ref ou), none] kh_L_halt rfl (Nat.le_of_ble_eq_true rfl) rfl (fun d hd => ?_)
  generalize hX : xN E _ _ _ = X
  refine xg_aloadn 1 dL_halt_0 rfl rfl rfl ?_
  refine xg_iconst 2 dL_halt_1 rfl ?_
  refine xg_aloadn 3 dL_halt_2 rfl rfl rfl ?_
  refine xg_callVm 6 11 [] _ kv_X11_halt ⟨_, _, rfl⟩ kl_RL_53 dL_halt_3 rfl hT (by omega) rfl rfl (Nat.le_of_ble_eq_true rfl) (by omega) ⟨by omega, by omega⟩ (ct) rfl (fun v9 h9 e9 => ?_)
  have e8 := e9
  obtain ⟨r9, z9, T9, F9, I9, P9, Y9, rfl, hr9, rfl, hk1, hk2⟩ := hp _ _ e9
  refine xg_i2l 7 dL_halt_6 rfl hr9 ?_
  refine xg_last 8 dL_halt_7 rfl hk1 (by rw [hk2]; omega) ?_
  refine xg_goto 14 dL_halt_8 rfl ?_
  refine xg_iconst 15 dL_halt_14 rfl ?_
  subst hX
  exact xg_ireturn dL_halt_15 rfl ⟨by omega, by omega⟩ ⟨rfl, r9, z9, T9, F9, I9, P9, Y9, hr9, e8, rfl⟩

set_option maxHeartbeats 4000000 in
set_option maxRecDepth 100000 in
theorem cl_halt_1 {E : xE} {z : Nat} {T : Nat → Nat × Int} {F : Nat → Nat → Int} {I : Nat → Int → Int} {P : Nat → Nat → Option Nat} {Y : Nat → Int → Option Nat} {o ou k mc' ms' : Nat} {hx : xH → Prop} (cx : CtX E k mX11_halt mc' ms' [.ref o] (z, T, F, I, P, Y) "java/lang/IllegalStateException" hx) (hm : mc' ≤ 57 ∧ ms' ≤ 2100) (hT : (T o).1 = 12) (hC : ∀ u : State, E.2.2.2.2 u → va_Nw (.castable "java/lang/IllegalStateException" "java/lang/IllegalStateException") u) : CtH E (k + 1) mL_halt [(0, 8, 11, 51)] 57 2100 [.ref o, .ref ou] (z, T, F, I, P, Y) (fun v h1 => v = some (J 1) ∧ hx h1) := by
  refine CtH.of [some (.ref o), some (.ref ou), none] kh_L_halt rfl (Nat.le_of_ble_eq_true rfl) rfl (fun d hd => ?_)
  generalize hX : xN E _ _ _ = X
  refine xg_aloadn 1 dL_halt_0 rfl rfl rfl ?_
  refine xg_iconst 2 dL_halt_1 rfl ?_
  refine xg_aloadn 3 dL_halt_2 rfl rfl rfl ?_
  refine xg_callVX [(0, 8, 11, 51)] [] (⟨0, 8, 11, 51⟩ : ExceptionTableEntry) [] 11 rfl (by decide) kh_L_halt.1 rfl (fun z hz => nomatch hz) rfl (by decide) kn_RL_51 hC [] [J 0, .ref ou] kv_X11_halt ⟨_, _, rfl⟩ kl_RL_53 dL_halt_3 hT (by omega) rfl rfl (Nat.le_of_ble_eq_true rfl) (by omega) ⟨by omega, by omega⟩ cx (fun q9 h9 hx9 => ?_)
  refine xg_astoren 12 _ dL_halt_11 rfl rfl rfl (by decide) (Or.inr rfl) ?_
  refine xg_iconst 13 dL_halt_12 rfl ?_
  subst hX
  exact xg_ireturn dL_halt_13 rfl ⟨by omega, by omega⟩ ⟨rfl, hx9⟩

theorem dL_flush_0 : decode cL_flush 0 = .ok (.aload_n 1, 1) := by decide +kernel
theorem dL_flush_1 : decode cL_flush 1 = .ok (.iconst 0, 1) := by decide +kernel
theorem dL_flush_2 : decode cL_flush 2 = .ok (.aload_n 0, 1) := by decide +kernel
theorem dL_flush_3 : decode cL_flush 3 = .ok (.invokevirtual 56, 3) := by decide +kernel
theorem dL_flush_6 : decode cL_flush 6 = .ok (.i2l, 1) := by decide +kernel
theorem dL_flush_7 : decode cL_flush 7 = .ok (.lastore, 1) := by decide +kernel
theorem dL_flush_8 : decode cL_flush 8 = .ok (.goto 6, 3) := by decide +kernel
theorem dL_flush_11 : decode cL_flush 11 = .ok (.astore_n 2, 1) := by decide +kernel
theorem dL_flush_12 : decode cL_flush 12 = .ok (.iconst 1, 1) := by decide +kernel
theorem dL_flush_13 : decode cL_flush 13 = .ok (.ireturn, 1) := by decide +kernel
theorem dL_flush_14 : decode cL_flush 14 = .ok (.iconst 0, 1) := by decide +kernel
theorem dL_flush_15 : decode cL_flush 15 = .ok (.ireturn, 1) := by decide +kernel
set_option maxHeartbeats 4000000 in
set_option maxRecDepth 100000 in
theorem cl_flush {E : xE} {z : Nat} {T : Nat → Nat × Int} {F : Nat → Nat → Int} {I : Nat → Int → Int} {P : Nat → Nat → Option Nat} {Y : Nat → Int → Option Nat} {o ou k mc' ms' : Nat} {post : Option Value → xH → Prop} (ct : Ct E k mX11_flush mc' ms' [.ref o] (z, T, F, I, P, Y) post) (hm : mc' ≤ 57 ∧ ms' ≤ 2100) (hT : (T o).1 = 12) (hp : xAns ou post) : CtH E (k + 1) mL_flush [(0, 8, 11, 51)] 57 2100 [.ref o, .ref ou] (z, T, F, I, P, Y) (xOk ou post) := by
  refine CtH.of [some (.ref o), some (.ref ou), none] kh_L_flush rfl (Nat.le_of_ble_eq_true rfl) rfl (fun d hd => ?_)
  generalize hX : xN E _ _ _ = X
  refine xg_aloadn 1 dL_flush_0 rfl rfl rfl ?_
  refine xg_iconst 2 dL_flush_1 rfl ?_
  refine xg_aloadn 3 dL_flush_2 rfl rfl rfl ?_
  refine xg_callVm 6 11 [] _ kv_X11_flush ⟨_, _, rfl⟩ kl_RL_56 dL_flush_3 rfl hT (by omega) rfl rfl (Nat.le_of_ble_eq_true rfl) (by omega) ⟨by omega, by omega⟩ (ct) rfl (fun v9 h9 e9 => ?_)
  have e8 := e9
  obtain ⟨r9, z9, T9, F9, I9, P9, Y9, rfl, hr9, rfl, hk1, hk2⟩ := hp _ _ e9
  refine xg_i2l 7 dL_flush_6 rfl hr9 ?_
  refine xg_last 8 dL_flush_7 rfl hk1 (by rw [hk2]; omega) ?_
  refine xg_goto 14 dL_flush_8 rfl ?_
  refine xg_iconst 15 dL_flush_14 rfl ?_
  subst hX
  exact xg_ireturn dL_flush_15 rfl ⟨by omega, by omega⟩ ⟨rfl, r9, z9, T9, F9, I9, P9, Y9, hr9, e8, rfl⟩

set_option maxHeartbeats 4000000 in
set_option maxRecDepth 100000 in
theorem cl_flush_1 {E : xE} {z : Nat} {T : Nat → Nat × Int} {F : Nat → Nat → Int} {I : Nat → Int → Int} {P : Nat → Nat → Option Nat} {Y : Nat → Int → Option Nat} {o ou k mc' ms' : Nat} {hx : xH → Prop} (cx : CtX E k mX11_flush mc' ms' [.ref o] (z, T, F, I, P, Y) "java/lang/IllegalStateException" hx) (hm : mc' ≤ 57 ∧ ms' ≤ 2100) (hT : (T o).1 = 12) (hC : ∀ u : State, E.2.2.2.2 u → va_Nw (.castable "java/lang/IllegalStateException" "java/lang/IllegalStateException") u) : CtH E (k + 1) mL_flush [(0, 8, 11, 51)] 57 2100 [.ref o, .ref ou] (z, T, F, I, P, Y) (fun v h1 => v = some (J 1) ∧ hx h1) := by
  refine CtH.of [some (.ref o), some (.ref ou), none] kh_L_flush rfl (Nat.le_of_ble_eq_true rfl) rfl (fun d hd => ?_)
  generalize hX : xN E _ _ _ = X
  refine xg_aloadn 1 dL_flush_0 rfl rfl rfl ?_
  refine xg_iconst 2 dL_flush_1 rfl ?_
  refine xg_aloadn 3 dL_flush_2 rfl rfl rfl ?_
  refine xg_callVX [(0, 8, 11, 51)] [] (⟨0, 8, 11, 51⟩ : ExceptionTableEntry) [] 11 rfl (by decide) kh_L_flush.1 rfl (fun z hz => nomatch hz) rfl (by decide) kn_RL_51 hC [] [J 0, .ref ou] kv_X11_flush ⟨_, _, rfl⟩ kl_RL_56 dL_flush_3 hT (by omega) rfl rfl (Nat.le_of_ble_eq_true rfl) (by omega) ⟨by omega, by omega⟩ cx (fun q9 h9 hx9 => ?_)
  refine xg_astoren 12 _ dL_flush_11 rfl rfl rfl (by decide) (Or.inr rfl) ?_
  refine xg_iconst 13 dL_flush_12 rfl ?_
  subst hX
  exact xg_ireturn dL_flush_13 rfl ⟨by omega, by omega⟩ ⟨rfl, hx9⟩

theorem dL_tune_0 : decode cL_tune 0 = .ok (.aload_n 3, 1) := by decide +kernel
theorem dL_tune_1 : decode cL_tune 1 = .ok (.iconst 0, 1) := by decide +kernel
theorem dL_tune_2 : decode cL_tune 2 = .ok (.aload_n 0, 1) := by decide +kernel
theorem dL_tune_3 : decode cL_tune 3 = .ok (.iload_n 1, 1) := by decide +kernel
theorem dL_tune_4 : decode cL_tune 4 = .ok (.iload_n 2, 1) := by decide +kernel
theorem dL_tune_5 : decode cL_tune 5 = .ok (.invokevirtual 59, 3) := by decide +kernel
theorem dL_tune_8 : decode cL_tune 8 = .ok (.i2l, 1) := by decide +kernel
theorem dL_tune_9 : decode cL_tune 9 = .ok (.lastore, 1) := by decide +kernel
theorem dL_tune_10 : decode cL_tune 10 = .ok (.goto 11, 3) := by decide +kernel
theorem dL_tune_13 : decode cL_tune 13 = .ok (.astore 4, 2) := by decide +kernel
theorem dL_tune_15 : decode cL_tune 15 = .ok (.iconst 1, 1) := by decide +kernel
theorem dL_tune_16 : decode cL_tune 16 = .ok (.ireturn, 1) := by decide +kernel
theorem dL_tune_17 : decode cL_tune 17 = .ok (.astore 4, 2) := by decide +kernel
theorem dL_tune_19 : decode cL_tune 19 = .ok (.iconst 2, 1) := by decide +kernel
theorem dL_tune_20 : decode cL_tune 20 = .ok (.ireturn, 1) := by decide +kernel
theorem dL_tune_21 : decode cL_tune 21 = .ok (.iconst 0, 1) := by decide +kernel
theorem dL_tune_22 : decode cL_tune 22 = .ok (.ireturn, 1) := by decide +kernel
set_option maxHeartbeats 4000000 in
set_option maxRecDepth 100000 in
theorem cl_tune {E : xE} {z : Nat} {T : Nat → Nat × Int} {F : Nat → Nat → Int} {I : Nat → Int → Int} {P : Nat → Nat → Option Nat} {Y : Nat → Int → Option Nat} {o ou k mc' ms' : Nat} {p0 p1 : Int} {post : Option Value → xH → Prop} (ct : Ct E k mX11_tune mc' ms' [.ref o, J p0, J p1] (z, T, F, I, P, Y) post) (hm : mc' ≤ 57 ∧ ms' ≤ 2100) (hT : (T o).1 = 12) (hp : xAns ou post) : CtH E (k + 1) mL_tune [(0, 10, 13, 26), (0, 10, 17, 13)] 57 2100 [.ref o, J p0, J p1, .ref ou] (z, T, F, I, P, Y) (xOk ou post) := by
  refine CtH.of [some (.ref o), some (J p0), some (J p1), some (.ref ou), none] kh_L_tune rfl (Nat.le_of_ble_eq_true rfl) rfl (fun d hd => ?_)
  generalize hX : xN E _ _ _ = X
  refine xg_aloadn 1 dL_tune_0 rfl rfl rfl ?_
  refine xg_iconst 2 dL_tune_1 rfl ?_
  refine xg_aloadn 3 dL_tune_2 rfl rfl rfl ?_
  refine xg_iloadn 4 dL_tune_3 rfl rfl rfl ?_
  refine xg_iloadn 5 dL_tune_4 rfl rfl rfl ?_
  refine xg_callVm 8 11 [_, _] _ kv_X11_tune ⟨_, _, rfl⟩ kl_RL_59 dL_tune_5 rfl hT (by omega) rfl rfl (Nat.le_of_ble_eq_true rfl) (by omega) ⟨by omega, by omega⟩ (ct) rfl (fun v9 h9 e9 => ?_)
  have e8 := e9
  obtain ⟨r9, z9, T9, F9, I9, P9, Y9, rfl, hr9, rfl, hk1, hk2⟩ := hp _ _ e9
  refine xg_i2l 9 dL_tune_8 rfl hr9 ?_
  refine xg_last 10 dL_tune_9 rfl hk1 (by rw [hk2]; omega) ?_
  refine xg_goto 21 dL_tune_10 rfl ?_
  refine xg_iconst 22 dL_tune_21 rfl ?_
  subst hX
  exact xg_ireturn dL_tune_22 rfl ⟨by omega, by omega⟩ ⟨rfl, r9, z9, T9, F9, I9, P9, Y9, hr9, e8, rfl⟩

set_option maxHeartbeats 4000000 in
set_option maxRecDepth 100000 in
theorem cl_tune_1 {E : xE} {z : Nat} {T : Nat → Nat × Int} {F : Nat → Nat → Int} {I : Nat → Int → Int} {P : Nat → Nat → Option Nat} {Y : Nat → Int → Option Nat} {o ou k mc' ms' : Nat} {p0 p1 : Int} {hx : xH → Prop} (cx : CtX E k mX11_tune mc' ms' [.ref o, J p0, J p1] (z, T, F, I, P, Y) "java/util/NoSuchElementException" hx) (hm : mc' ≤ 57 ∧ ms' ≤ 2100) (hT : (T o).1 = 12) (hC : ∀ u : State, E.2.2.2.2 u → va_Nw (.castable "java/util/NoSuchElementException" "java/util/NoSuchElementException") u) : CtH E (k + 1) mL_tune [(0, 10, 13, 26), (0, 10, 17, 13)] 57 2100 [.ref o, J p0, J p1, .ref ou] (z, T, F, I, P, Y) (fun v h1 => v = some (J 1) ∧ hx h1) := by
  refine CtH.of [some (.ref o), some (J p0), some (J p1), some (.ref ou), none] kh_L_tune rfl (Nat.le_of_ble_eq_true rfl) rfl (fun d hd => ?_)
  generalize hX : xN E _ _ _ = X
  refine xg_aloadn 1 dL_tune_0 rfl rfl rfl ?_
  refine xg_iconst 2 dL_tune_1 rfl ?_
  refine xg_aloadn 3 dL_tune_2 rfl rfl rfl ?_
  refine xg_iloadn 4 dL_tune_3 rfl rfl rfl ?_
  refine xg_iloadn 5 dL_tune_4 rfl rfl rfl ?_
  refine xg_callVX [(0, 10, 13, 26), (0, 10, 17, 13)] [] (⟨0, 10, 13, 26⟩ : ExceptionTableEntry) [(⟨0, 10, 17, 13⟩ : ExceptionTableEntry)] 13 rfl (by decide) kh_L_tune.1 rfl (fun z hz => nomatch hz) rfl (by decide) kn_RL_26 hC [J p0, J p1] [J 0, .ref ou] kv_X11_tune ⟨_, _, rfl⟩ kl_RL_59 dL_tune_5 hT (by omega) rfl rfl (Nat.le_of_ble_eq_true rfl) (by omega) ⟨by omega, by omega⟩ cx (fun q9 h9 hx9 => ?_)
  refine xg_astore 15 _ dL_tune_13 rfl rfl (by decide) (Or.inr rfl) ?_
  refine xg_iconst 16 dL_tune_15 rfl ?_
  subst hX
  exact xg_ireturn dL_tune_16 rfl ⟨by omega, by omega⟩ ⟨rfl, hx9⟩

set_option maxHeartbeats 4000000 in
set_option maxRecDepth 100000 in
theorem cl_tune_2 {E : xE} {z : Nat} {T : Nat → Nat × Int} {F : Nat → Nat → Int} {I : Nat → Int → Int} {P : Nat → Nat → Option Nat} {Y : Nat → Int → Option Nat} {o ou k mc' ms' : Nat} {p0 p1 : Int} {hx : xH → Prop} (cx : CtX E k mX11_tune mc' ms' [.ref o, J p0, J p1] (z, T, F, I, P, Y) "java/lang/IllegalArgumentException" hx) (hm : mc' ≤ 57 ∧ ms' ≤ 2100) (hT : (T o).1 = 12) (hC : ∀ u : State, E.2.2.2.2 u → va_Nw (.castable "java/lang/IllegalArgumentException" "java/lang/IllegalArgumentException") u) (hN : ∀ u : State, E.2.2.2.2 u → va_Nc "java/lang/IllegalArgumentException" "java/util/NoSuchElementException" u) : CtH E (k + 1) mL_tune [(0, 10, 13, 26), (0, 10, 17, 13)] 57 2100 [.ref o, J p0, J p1, .ref ou] (z, T, F, I, P, Y) (fun v h1 => v = some (J 2) ∧ hx h1) := by
  refine CtH.of [some (.ref o), some (J p0), some (J p1), some (.ref ou), none] kh_L_tune rfl (Nat.le_of_ble_eq_true rfl) rfl (fun d hd => ?_)
  generalize hX : xN E _ _ _ = X
  refine xg_aloadn 1 dL_tune_0 rfl rfl rfl ?_
  refine xg_iconst 2 dL_tune_1 rfl ?_
  refine xg_aloadn 3 dL_tune_2 rfl rfl rfl ?_
  refine xg_iloadn 4 dL_tune_3 rfl rfl rfl ?_
  refine xg_iloadn 5 dL_tune_4 rfl rfl rfl ?_
  refine xg_callVX [(0, 10, 13, 26), (0, 10, 17, 13)] [(⟨0, 10, 13, 26⟩ : ExceptionTableEntry)] (⟨0, 10, 17, 13⟩ : ExceptionTableEntry) [] 17 rfl (by decide) kh_L_tune.1 rfl (fun z hz => by cases List.mem_singleton.mp hz; exact Or.inr ⟨by decide, _, kn_RL_26, hN⟩) rfl (by decide) kn_RL_13 hC [J p0, J p1] [J 0, .ref ou] kv_X11_tune ⟨_, _, rfl⟩ kl_RL_59 dL_tune_5 hT (by omega) rfl rfl (Nat.le_of_ble_eq_true rfl) (by omega) ⟨by omega, by omega⟩ cx (fun q9 h9 hx9 => ?_)
  refine xg_astore 19 _ dL_tune_17 rfl rfl (by decide) (Or.inr rfl) ?_
  refine xg_iconst 20 dL_tune_19 rfl ?_
  subst hX
  exact xg_ireturn dL_tune_20 rfl ⟨by omega, by omega⟩ ⟨rfl, hx9⟩

theorem dL_get_0 : decode cL_get 0 = .ok (.aload_n 2, 1) := by decide +kernel
theorem dL_get_1 : decode cL_get 1 = .ok (.iconst 0, 1) := by decide +kernel
theorem dL_get_2 : decode cL_get 2 = .ok (.aload_n 0, 1) := by decide +kernel
theorem dL_get_3 : decode cL_get 3 = .ok (.iload_n 1, 1) := by decide +kernel
theorem dL_get_4 : decode cL_get 4 = .ok (.invokevirtual 62, 3) := by decide +kernel
theorem dL_get_7 : decode cL_get 7 = .ok (.i2l, 1) := by decide +kernel
theorem dL_get_8 : decode cL_get 8 = .ok (.lastore, 1) := by decide +kernel
theorem dL_get_9 : decode cL_get 9 = .ok (.goto 6, 3) := by decide +kernel
theorem dL_get_12 : decode cL_get 12 = .ok (.astore_n 3, 1) := by decide +kernel
theorem dL_get_13 : decode cL_get 13 = .ok (.iconst 1, 1) := by decide +kernel
theorem dL_get_14 : decode cL_get 14 = .ok (.ireturn, 1) := by decide +kernel
theorem dL_get_15 : decode cL_get 15 = .ok (.iconst 0, 1) := by decide +kernel
theorem dL_get_16 : decode cL_get 16 = .ok (.ireturn, 1) := by decide +kernel
set_option maxHeartbeats 4000000 in
set_option maxRecDepth 100000 in
theorem cl_get {E : xE} {z : Nat} {T : Nat → Nat × Int} {F : Nat → Nat → Int} {I : Nat → Int → Int} {P : Nat → Nat → Option Nat} {Y : Nat → Int → Option Nat} {o ou k mc' ms' : Nat} {p0 : Int} {post : Option Value → xH → Prop} (ct : Ct E k mX11_get mc' ms' [.ref o, J p0] (z, T, F, I, P, Y) post) (hm : mc' ≤ 57 ∧ ms' ≤ 2100) (hT : (T o).1 = 12) (hp : xAns ou post) : CtH E (k + 1) mL_get [(0, 9, 12, 24)] 57 2100 [.ref o, J p0, .ref ou] (z, T, F, I, P, Y) (xOk ou post) := by
  refine CtH.of [some (.ref o), some (J p0), some (.ref ou), none] kh_L_get rfl (Nat.le_of_ble_eq_true rfl) rfl (fun d hd => ?_)
  generalize hX : xN E _ _ _ = X
  refine xg_aloadn 1 dL_get_0 rfl rfl rfl ?_
  refine xg_iconst 2 dL_get_1 rfl ?_
  refine xg_aloadn 3 dL_get_2 rfl rfl rfl ?_
  refine xg_iloadn 4 dL_get_3 rfl rfl rfl ?_
  refine xg_callVm 7 11 [_] _ kv_X11_get ⟨_, _, rfl⟩ kl_RL_62 dL_get_4 rfl hT (by omega) rfl rfl (Nat.le_of_ble_eq_true rfl) (by omega) ⟨by omega, by omega⟩ (ct) rfl (fun v9 h9 e9 => ?_)
  have e8 := e9
  obtain ⟨r9, z9, T9, F9, I9, P9, Y9, rfl, hr9, rfl, hk1, hk2⟩ := hp _ _ e9
  refine xg_i2l 8 dL_get_7 rfl hr9 ?_
  refine xg_last 9 dL_get_8 rfl hk1 (by rw [hk2]; omega) ?_
  refine xg_goto 15 dL_get_9 rfl ?_
  refine xg_iconst 16 dL_get_15 rfl ?_
  subst hX
  exact xg_ireturn dL_get_16 rfl ⟨by omega, by omega⟩ ⟨rfl, r9, z9, T9, F9, I9, P9, Y9, hr9, e8, rfl⟩

set_option maxHeartbeats 4000000 in
set_option maxRecDepth 100000 in
theorem cl_get_1 {E : xE} {z : Nat} {T : Nat → Nat × Int} {F : Nat → Nat → Int} {I : Nat → Int → Int} {P : Nat → Nat → Option Nat} {Y : Nat → Int → Option Nat} {o ou k mc' ms' : Nat} {p0 : Int} {hx : xH → Prop} (cx : CtX E k mX11_get mc' ms' [.ref o, J p0] (z, T, F, I, P, Y) "java/lang/IndexOutOfBoundsException" hx) (hm : mc' ≤ 57 ∧ ms' ≤ 2100) (hT : (T o).1 = 12) (hC : ∀ u : State, E.2.2.2.2 u → va_Nw (.castable "java/lang/IndexOutOfBoundsException" "java/lang/IndexOutOfBoundsException") u) : CtH E (k + 1) mL_get [(0, 9, 12, 24)] 57 2100 [.ref o, J p0, .ref ou] (z, T, F, I, P, Y) (fun v h1 => v = some (J 1) ∧ hx h1) := by
  refine CtH.of [some (.ref o), some (J p0), some (.ref ou), none] kh_L_get rfl (Nat.le_of_ble_eq_true rfl) rfl (fun d hd => ?_)
  generalize hX : xN E _ _ _ = X
  refine xg_aloadn 1 dL_get_0 rfl rfl rfl ?_
  refine xg_iconst 2 dL_get_1 rfl ?_
  refine xg_aloadn 3 dL_get_2 rfl rfl rfl ?_
  refine xg_iloadn 4 dL_get_3 rfl rfl rfl ?_
  refine xg_callVX [(0, 9, 12, 24)] [] (⟨0, 9, 12, 24⟩ : ExceptionTableEntry) [] 12 rfl (by decide) kh_L_get.1 rfl (fun z hz => nomatch hz) rfl (by decide) kn_RL_24 hC [J p0] [J 0, .ref ou] kv_X11_get ⟨_, _, rfl⟩ kl_RL_62 dL_get_4 hT (by omega) rfl rfl (Nat.le_of_ble_eq_true rfl) (by omega) ⟨by omega, by omega⟩ cx (fun q9 h9 hx9 => ?_)
  refine xg_astoren 13 _ dL_get_12 rfl rfl rfl (by decide) (Or.inr rfl) ?_
  refine xg_iconst 14 dL_get_13 rfl ?_
  subst hX
  exact xg_ireturn dL_get_14 rfl ⟨by omega, by omega⟩ ⟨rfl, hx9⟩

theorem dL_looks_0 : decode cL_looks 0 = .ok (.aload_n 2, 1) := by decide +kernel
theorem dL_looks_1 : decode cL_looks 1 = .ok (.iconst 0, 1) := by decide +kernel
theorem dL_looks_2 : decode cL_looks 2 = .ok (.aload_n 0, 1) := by decide +kernel
theorem dL_looks_3 : decode cL_looks 3 = .ok (.iload_n 1, 1) := by decide +kernel
theorem dL_looks_4 : decode cL_looks 4 = .ok (.invokevirtual 65, 3) := by decide +kernel
theorem dL_looks_7 : decode cL_looks 7 = .ok (.i2l, 1) := by decide +kernel
theorem dL_looks_8 : decode cL_looks 8 = .ok (.lastore, 1) := by decide +kernel
theorem dL_looks_9 : decode cL_looks 9 = .ok (.goto 6, 3) := by decide +kernel
theorem dL_looks_12 : decode cL_looks 12 = .ok (.astore_n 3, 1) := by decide +kernel
theorem dL_looks_13 : decode cL_looks 13 = .ok (.iconst 1, 1) := by decide +kernel
theorem dL_looks_14 : decode cL_looks 14 = .ok (.ireturn, 1) := by decide +kernel
theorem dL_looks_15 : decode cL_looks 15 = .ok (.iconst 0, 1) := by decide +kernel
theorem dL_looks_16 : decode cL_looks 16 = .ok (.ireturn, 1) := by decide +kernel
set_option maxHeartbeats 4000000 in
set_option maxRecDepth 100000 in
theorem cl_looks {E : xE} {z : Nat} {T : Nat → Nat × Int} {F : Nat → Nat → Int} {I : Nat → Int → Int} {P : Nat → Nat → Option Nat} {Y : Nat → Int → Option Nat} {o ou k mc' ms' : Nat} {p0 : Int} {post : Option Value → xH → Prop} (ct : Ct E k mX11_looks mc' ms' [.ref o, J p0] (z, T, F, I, P, Y) post) (hm : mc' ≤ 57 ∧ ms' ≤ 2100) (hT : (T o).1 = 12) (hp : xAns ou post) : CtH E (k + 1) mL_looks [(0, 9, 12, 24)] 57 2100 [.ref o, J p0, .ref ou] (z, T, F, I, P, Y) (xOk ou post) := by
  refine CtH.of [some (.ref o), some (J p0), some (.ref ou), none] kh_L_looks rfl (Nat.le_of_ble_eq_true rfl) rfl (fun d hd => ?_)
  generalize hX : xN E _ _ _ = X
  refine xg_aloadn 1 dL_looks_0 rfl rfl rfl ?_
  refine xg_iconst 2 dL_looks_1 rfl ?_
  refine xg_aloadn 3 dL_looks_2 rfl rfl rfl ?_
  refine xg_iloadn 4 dL_looks_3 rfl rfl rfl ?_
  refine xg_callVm 7 11 [_] _ kv_X11_looks ⟨_, _, rfl⟩ kl_RL_65 dL_looks_4 rfl hT (by omega) rfl rfl (Nat.le_of_ble_eq_true rfl) (by omega) ⟨by omega, by omega⟩ (ct) rfl (fun v9 h9 e9 => ?_)
  have e8 := e9
  obtain ⟨r9, z9, T9, F9, I9, P9, Y9, rfl, hr9, rfl, hk1, hk2⟩ := hp _ _ e9
  refine xg_i2l 8 dL_looks_7 rfl hr9 ?_
  refine xg_last 9 dL_looks_8 rfl hk1 (by rw [hk2]; omega) ?_
  refine xg_goto 15 dL_looks_9 rfl ?_
  refine xg_iconst 16 dL_looks_15 rfl ?_
  subst hX
  exact xg_ireturn dL_looks_16 rfl ⟨by omega, by omega⟩ ⟨rfl, r9, z9, T9, F9, I9, P9, Y9, hr9, e8, rfl⟩

set_option maxHeartbeats 4000000 in
set_option maxRecDepth 100000 in
theorem cl_looks_1 {E : xE} {z : Nat} {T : Nat → Nat × Int} {F : Nat → Nat → Int} {I : Nat → Int → Int} {P : Nat → Nat → Option Nat} {Y : Nat → Int → Option Nat} {o ou k mc' ms' : Nat} {p0 : Int} {hx : xH → Prop} (cx : CtX E k mX11_looks mc' ms' [.ref o, J p0] (z, T, F, I, P, Y) "java/lang/IndexOutOfBoundsException" hx) (hm : mc' ≤ 57 ∧ ms' ≤ 2100) (hT : (T o).1 = 12) (hC : ∀ u : State, E.2.2.2.2 u → va_Nw (.castable "java/lang/IndexOutOfBoundsException" "java/lang/IndexOutOfBoundsException") u) : CtH E (k + 1) mL_looks [(0, 9, 12, 24)] 57 2100 [.ref o, J p0, .ref ou] (z, T, F, I, P, Y) (fun v h1 => v = some (J 1) ∧ hx h1) := by
  refine CtH.of [some (.ref o), some (J p0), some (.ref ou), none] kh_L_looks rfl (Nat.le_of_ble_eq_true rfl) rfl (fun d hd => ?_)
  generalize hX : xN E _ _ _ = X
  refine xg_aloadn 1 dL_looks_0 rfl rfl rfl ?_
  refine xg_iconst 2 dL_looks_1 rfl ?_
  refine xg_aloadn 3 dL_looks_2 rfl rfl rfl ?_
  refine xg_iloadn 4 dL_looks_3 rfl rfl rfl ?_
  refine xg_callVX [(0, 9, 12, 24)] [] (⟨0, 9, 12, 24⟩ : ExceptionTableEntry) [] 12 rfl (by decide) kh_L_looks.1 rfl (fun z hz => nomatch hz) rfl (by decide) kn_RL_24 hC [J p0] [J 0, .ref ou] kv_X11_looks ⟨_, _, rfl⟩ kl_RL_65 dL_looks_4 hT (by omega) rfl rfl (Nat.le_of_ble_eq_true rfl) (by omega) ⟨by omega, by omega⟩ cx (fun q9 h9 hx9 => ?_)
  refine xg_astoren 13 _ dL_looks_12 rfl rfl rfl (by decide) (Or.inr rfl) ?_
  refine xg_iconst 14 dL_looks_13 rfl ?_
  subst hX
  exact xg_ireturn dL_looks_14 rfl ⟨by omega, by omega⟩ ⟨rfl, hx9⟩

theorem dL_total_0 : decode cL_total 0 = .ok (.aload_n 3, 1) := by decide +kernel
theorem dL_total_1 : decode cL_total 1 = .ok (.iconst 0, 1) := by decide +kernel
theorem dL_total_2 : decode cL_total 2 = .ok (.aload_n 0, 1) := by decide +kernel
theorem dL_total_3 : decode cL_total 3 = .ok (.iload_n 1, 1) := by decide +kernel
theorem dL_total_4 : decode cL_total 4 = .ok (.iload_n 2, 1) := by decide +kernel
theorem dL_total_5 : decode cL_total 5 = .ok (.invokevirtual 68, 3) := by decide +kernel
theorem dL_total_8 : decode cL_total 8 = .ok (.i2l, 1) := by decide +kernel
theorem dL_total_9 : decode cL_total 9 = .ok (.lastore, 1) := by decide +kernel
theorem dL_total_10 : decode cL_total 10 = .ok (.goto 11, 3) := by decide +kernel
theorem dL_total_13 : decode cL_total 13 = .ok (.astore 4, 2) := by decide +kernel
theorem dL_total_15 : decode cL_total 15 = .ok (.iconst 1, 1) := by decide +kernel
theorem dL_total_16 : decode cL_total 16 = .ok (.ireturn, 1) := by decide +kernel
theorem dL_total_17 : decode cL_total 17 = .ok (.astore 4, 2) := by decide +kernel
theorem dL_total_19 : decode cL_total 19 = .ok (.iconst 2, 1) := by decide +kernel
theorem dL_total_20 : decode cL_total 20 = .ok (.ireturn, 1) := by decide +kernel
theorem dL_total_21 : decode cL_total 21 = .ok (.iconst 0, 1) := by decide +kernel
theorem dL_total_22 : decode cL_total 22 = .ok (.ireturn, 1) := by decide +kernel
set_option maxHeartbeats 4000000 in
set_option maxRecDepth 100000 in
theorem cl_total {E : xE} {z : Nat} {T : Nat → Nat × Int} {F : Nat → Nat → Int} {I : Nat → Int → Int} {P : Nat → Nat → Option Nat} {Y : Nat → Int → Option Nat} {o ou k mc' ms' : Nat} {p0 p1 : Int} {post : Option Value → xH → Prop} (ct : Ct E k mX11_total mc' ms' [.ref o, J p0, J p1] (z, T, F, I, P, Y) post) (hm : mc' ≤ 57 ∧ ms' ≤ 2100) (hT : (T o).1 = 12) (hp : xAns ou post) : CtH E (k + 1) mL_total [(0, 10, 13, 24), (0, 10, 17, 13)] 57 2100 [.ref o, J p0, J p1, .ref ou] (z, T, F, I, P, Y) (xOk ou post) := by
  refine CtH.of [some (.ref o), some (J p0), some (J p1), some (.ref ou), none] kh_L_total rfl (Nat.le_of_ble_eq_true rfl) rfl (fun d hd => ?_)
  generalize hX : xN E _ _ _ = X
  refine xg_aloadn 1 dL_total_0 rfl rfl rfl ?_
  refine xg_iconst 2 dL_total_1 rfl ?_
  refine xg_aloadn 3 dL_total_2 rfl rfl rfl ?_
  refine xg_iloadn 4 dL_total_3 rfl rfl rfl ?_
  refine xg_iloadn 5 dL_total_4 rfl rfl rfl ?_
  refine xg_callVm 8 11 [_, _] _ kv_X11_total ⟨_, _, rfl⟩ kl_RL_68 dL_total_5 rfl hT (by omega) rfl rfl (Nat.le_of_ble_eq_true rfl) (by omega) ⟨by omega, by omega⟩ (ct) rfl (fun v9 h9 e9 => ?_)
  have e8 := e9
  obtain ⟨r9, z9, T9, F9, I9, P9, Y9, rfl, hr9, rfl, hk1, hk2⟩ := hp _ _ e9
  refine xg_i2l 9 dL_total_8 rfl hr9 ?_
  refine xg_last 10 dL_total_9 rfl hk1 (by rw [hk2]; omega) ?_
  refine xg_goto 21 dL_total_10 rfl ?_
  refine xg_iconst 22 dL_total_21 rfl ?_
  subst hX
  exact xg_ireturn dL_total_22 rfl ⟨by omega, by omega⟩ ⟨rfl, r9, z9, T9, F9, I9, P9, Y9, hr9, e8, rfl⟩

set_option maxHeartbeats 4000000 in
set_option maxRecDepth 100000 in
theorem cl_total_1 {E : xE} {z : Nat} {T : Nat → Nat × Int} {F : Nat → Nat → Int} {I : Nat → Int → Int} {P : Nat → Nat → Option Nat} {Y : Nat → Int → Option Nat} {o ou k mc' ms' : Nat} {p0 p1 : Int} {hx : xH → Prop} (cx : CtX E k mX11_total mc' ms' [.ref o, J p0, J p1] (z, T, F, I, P, Y) "java/lang/IndexOutOfBoundsException" hx) (hm : mc' ≤ 57 ∧ ms' ≤ 2100) (hT : (T o).1 = 12) (hC : ∀ u : State, E.2.2.2.2 u → va_Nw (.castable "java/lang/IndexOutOfBoundsException" "java/lang/IndexOutOfBoundsException") u) : CtH E (k + 1) mL_total [(0, 10, 13, 24), (0, 10, 17, 13)] 57 2100 [.ref o, J p0, J p1, .ref ou] (z, T, F, I, P, Y) (fun v h1 => v = some (J 1) ∧ hx h1) := by
  refine CtH.of [some (.ref o), some (J p0), some (J p1), some (.ref ou), none] kh_L_total rfl (Nat.le_of_ble_eq_true rfl) rfl (fun d hd => ?_)
  generalize hX : xN E _ _ _ = X
  refine xg_aloadn 1 dL_total_0 rfl rfl rfl ?_
  refine xg_iconst 2 dL_total_1 rfl ?_
  refine xg_aloadn 3 dL_total_2 rfl rfl rfl ?_
  refine xg_iloadn 4 dL_total_3 rfl rfl rfl ?_
  refine xg_iloadn 5 dL_total_4 rfl rfl rfl ?_
  refine xg_callVX [(0, 10, 13, 24), (0, 10, 17, 13)] [] (⟨0, 10, 13, 24⟩ : ExceptionTableEntry) [(⟨0, 10, 17, 13⟩ : ExceptionTableEntry)] 13 rfl (by decide) kh_L_total.1 rfl (fun z hz => nomatch hz) rfl (by decide) kn_RL_24 hC [J p0, J p1] [J 0, .ref ou] kv_X11_total ⟨_, _, rfl⟩ kl_RL_68 dL_total_5 hT (by omega) rfl rfl (Nat.le_of_ble_eq_true rfl) (by omega) ⟨by omega, by omega⟩ cx (fun q9 h9 hx9 => ?_)
  refine xg_astore 15 _ dL_total_13 rfl rfl (by decide) (Or.inr rfl) ?_
  refine xg_iconst 16 dL_total_15 rfl ?_
  subst hX
  exact xg_ireturn dL_total_16 rfl ⟨by omega, by omega⟩ ⟨rfl, hx9⟩

set_option maxHeartbeats 4000000 in
set_option maxRecDepth 100000 in
theorem cl_total_2 {E : xE} {z : Nat} {T : Nat → Nat × Int} {F : Nat → Nat → Int} {I : Nat → Int → Int} {P : Nat → Nat → Option Nat} {Y : Nat → Int → Option Nat} {o ou k mc' ms' : Nat} {p0 p1 : Int} {hx : xH → Prop} (cx : CtX E k mX11_total mc' ms' [.ref o, J p0, J p1] (z, T, F, I, P, Y) "java/lang/IllegalArgumentException" hx) (hm : mc' ≤ 57 ∧ ms' ≤ 2100) (hT : (T o).1 = 12) (hC : ∀ u : State, E.2.2.2.2 u → va_Nw (.castable "java/lang/IllegalArgumentException" "java/lang/IllegalArgumentException") u) (hN : ∀ u : State, E.2.2.2.2 u → va_Nc "java/lang/IllegalArgumentException" "java/lang/IndexOutOfBoundsException" u) : CtH E (k + 1) mL_total [(0, 10, 13, 24), (0, 10, 17, 13)] 57 2100 [.ref o, J p0, J p1, .ref ou] (z, T, F, I, P, Y) (fun v h1 => v = some (J 2) ∧ hx h1) := by
  refine CtH.of [some (.ref o), some (J p0), some (J p1), some (.ref ou), none] kh_L_total rfl (Nat.le_of_ble_eq_true rfl) rfl (fun d hd => ?_)
  generalize hX : xN E _ _ _ = X
  refine xg_aloadn 1 dL_total_0 rfl rfl rfl ?_
  refine xg_iconst 2 dL_total_1 rfl ?_
  refine xg_aloadn 3 dL_total_2 rfl rfl rfl ?_
  refine xg_iloadn 4 dL_total_3 rfl rfl rfl ?_
  refine xg_iloadn 5 dL_total_4 rfl rfl rfl ?_
  refine xg_callVX [(0, 10, 13, 24), (0, 10, 17, 13)] [(⟨0, 10, 13, 24⟩ : ExceptionTableEntry)] (⟨0, 10, 17, 13⟩ : ExceptionTableEntry) [] 17 rfl (by decide) kh_L_total.1 rfl (fun z hz => by cases List.mem_singleton.mp hz; exact Or.inr ⟨by decide, _, kn_RL_24, hN⟩) rfl (by decide) kn_RL_13 hC [J p0, J p1] [J 0, .ref ou] kv_X11_total ⟨_, _, rfl⟩ kl_RL_68 dL_total_5 hT (by omega) rfl rfl (Nat.le_of_ble_eq_true rfl) (by omega) ⟨by omega, by omega⟩ cx (fun q9 h9 hx9 => ?_)
  refine xg_astore 19 _ dL_total_17 rfl rfl (by decide) (Or.inr rfl) ?_
  refine xg_iconst 20 dL_total_19 rfl ?_
  subst hX
  exact xg_ireturn dL_total_20 rfl ⟨by omega, by omega⟩ ⟨rfl, hx9⟩

theorem dL_may_0 : decode cL_may 0 = .ok (.aload_n 1, 1) := by decide +kernel
theorem dL_may_1 : decode cL_may 1 = .ok (.iconst 0, 1) := by decide +kernel
theorem dL_may_2 : decode cL_may 2 = .ok (.aload_n 0, 1) := by decide +kernel
theorem dL_may_3 : decode cL_may 3 = .ok (.invokevirtual 71, 3) := by decide +kernel
theorem dL_may_6 : decode cL_may 6 = .ok (.i2l, 1) := by decide +kernel
theorem dL_may_7 : decode cL_may 7 = .ok (.lastore, 1) := by decide +kernel
theorem dL_may_8 : decode cL_may 8 = .ok (.goto 6, 3) := by decide +kernel
theorem dL_may_11 : decode cL_may 11 = .ok (.astore_n 2, 1) := by decide +kernel
theorem dL_may_12 : decode cL_may 12 = .ok (.iconst 1, 1) := by decide +kernel
theorem dL_may_13 : decode cL_may 13 = .ok (.ireturn, 1) := by decide +kernel
theorem dL_may_14 : decode cL_may 14 = .ok (.iconst 0, 1) := by decide +kernel
theorem dL_may_15 : decode cL_may 15 = .ok (.ireturn, 1) := by decide +kernel
set_option maxHeartbeats 4000000 in
set_option maxRecDepth 100000 in
theorem cl_may {E : xE} {z : Nat} {T : Nat → Nat × Int} {F : Nat → Nat → Int} {I : Nat → Int → Int} {P : Nat → Nat → Option Nat} {Y : Nat → Int → Option Nat} {o ou k mc' ms' : Nat} {post : Option Value → xH → Prop} (ct : Ct E k mX11_may mc' ms' [.ref o] (z, T, F, I, P, Y) post) (hm : mc' ≤ 57 ∧ ms' ≤ 2100) (hT : (T o).1 = 12) (hp : xAns ou post) : CtH E (k + 1) mL_may [(0, 8, 11, 13)] 57 2100 [.ref o, .ref ou] (z, T, F, I, P, Y) (xOk ou post) := by
  refine CtH.of [some (.ref o), some (.ref ou), none] kh_L_may rfl (Nat.le_of_ble_eq_true rfl) rfl (fun d hd => ?_)
  generalize hX : xN E _ _ _ = X
  refine xg_aloadn 1 dL_may_0 rfl rfl rfl ?_
  refine xg_iconst 2 dL_may_1 rfl ?_
  refine xg_aloadn 3 dL_may_2 rfl rfl rfl ?_
  refine xg_callVm 6 11 [] _ kv_X11_may ⟨_, _, rfl⟩ kl_RL_71 dL_may_3 rfl hT (by omega) rfl rfl (Nat.le_of_ble_eq_true rfl) (by omega) ⟨by omega, by omega⟩ (ct) rfl (fun v9 h9 e9 => ?_)
  have e8 := e9
  obtain ⟨r9, z9, T9, F9, I9, P9, Y9, rfl, hr9, rfl, hk1, hk2⟩ := hp _ _ e9
  refine xg_i2l 7 dL_may_6 rfl hr9 ?_
  refine xg_last 8 dL_may_7 rfl hk1 (by rw [hk2]; omega) ?_
  refine xg_goto 14 dL_may_8 rfl ?_
  refine xg_iconst 15 dL_may_14 rfl ?_
  subst hX
  exact xg_ireturn dL_may_15 rfl ⟨by omega, by omega⟩ ⟨rfl, r9, z9, T9, F9, I9, P9, Y9, hr9, e8, rfl⟩

set_option maxHeartbeats 4000000 in
set_option maxRecDepth 100000 in
theorem cl_may_1 {E : xE} {z : Nat} {T : Nat → Nat × Int} {F : Nat → Nat → Int} {I : Nat → Int → Int} {P : Nat → Nat → Option Nat} {Y : Nat → Int → Option Nat} {o ou k mc' ms' : Nat} {hx : xH → Prop} (cx : CtX E k mX11_may mc' ms' [.ref o] (z, T, F, I, P, Y) "java/lang/IllegalArgumentException" hx) (hm : mc' ≤ 57 ∧ ms' ≤ 2100) (hT : (T o).1 = 12) (hC : ∀ u : State, E.2.2.2.2 u → va_Nw (.castable "java/lang/IllegalArgumentException" "java/lang/IllegalArgumentException") u) : CtH E (k + 1) mL_may [(0, 8, 11, 13)] 57 2100 [.ref o, .ref ou] (z, T, F, I, P, Y) (fun v h1 => v = some (J 1) ∧ hx h1) := by
  refine CtH.of [some (.ref o), some (.ref ou), none] kh_L_may rfl (Nat.le_of_ble_eq_true rfl) rfl (fun d hd => ?_)
  generalize hX : xN E _ _ _ = X
  refine xg_aloadn 1 dL_may_0 rfl rfl rfl ?_
  refine xg_iconst 2 dL_may_1 rfl ?_
  refine xg_aloadn 3 dL_may_2 rfl rfl rfl ?_
  refine xg_callVX [(0, 8, 11, 13)] [] (⟨0, 8, 11, 13⟩ : ExceptionTableEntry) [] 11 rfl (by decide) kh_L_may.1 rfl (fun z hz => nomatch hz) rfl (by decide) kn_RL_13 hC [] [J 0, .ref ou] kv_X11_may ⟨_, _, rfl⟩ kl_RL_71 dL_may_3 hT (by omega) rfl rfl (Nat.le_of_ble_eq_true rfl) (by omega) ⟨by omega, by omega⟩ cx (fun q9 h9 hx9 => ?_)
  refine xg_astoren 12 _ dL_may_11 rfl rfl rfl (by decide) (Or.inr rfl) ?_
  refine xg_iconst 13 dL_may_12 rfl ?_
  subst hX
  exact xg_ireturn dL_may_13 rfl ⟨by omega, by omega⟩ ⟨rfl, hx9⟩

theorem dL_likely_0 : decode cL_likely 0 = .ok (.aload_n 1, 1) := by decide +kernel
theorem dL_likely_1 : decode cL_likely 1 = .ok (.iconst 0, 1) := by decide +kernel
theorem dL_likely_2 : decode cL_likely 2 = .ok (.aload_n 0, 1) := by decide +kernel
theorem dL_likely_3 : decode cL_likely 3 = .ok (.invokevirtual 74, 3) := by decide +kernel
theorem dL_likely_6 : decode cL_likely 6 = .ok (.i2l, 1) := by decide +kernel
theorem dL_likely_7 : decode cL_likely 7 = .ok (.lastore, 1) := by decide +kernel
theorem dL_likely_8 : decode cL_likely 8 = .ok (.goto 6, 3) := by decide +kernel
theorem dL_likely_11 : decode cL_likely 11 = .ok (.astore_n 2, 1) := by decide +kernel
theorem dL_likely_12 : decode cL_likely 12 = .ok (.iconst 1, 1) := by decide +kernel
theorem dL_likely_13 : decode cL_likely 13 = .ok (.ireturn, 1) := by decide +kernel
theorem dL_likely_14 : decode cL_likely 14 = .ok (.iconst 0, 1) := by decide +kernel
theorem dL_likely_15 : decode cL_likely 15 = .ok (.ireturn, 1) := by decide +kernel
set_option maxHeartbeats 4000000 in
set_option maxRecDepth 100000 in
theorem cl_likely {E : xE} {z : Nat} {T : Nat → Nat × Int} {F : Nat → Nat → Int} {I : Nat → Int → Int} {P : Nat → Nat → Option Nat} {Y : Nat → Int → Option Nat} {o ou k mc' ms' : Nat} {post : Option Value → xH → Prop} (ct : Ct E k mX11_likely mc' ms' [.ref o] (z, T, F, I, P, Y) post) (hm : mc' ≤ 57 ∧ ms' ≤ 2100) (hT : (T o).1 = 12) (hp : xAns ou post) : CtH E (k + 1) mL_likely [(0, 8, 11, 13)] 57 2100 [.ref o, .ref ou] (z, T, F, I, P, Y) (xOk ou post) := by
  refine CtH.of [some (.ref o), some (.ref ou), none] kh_L_likely rfl (Nat.le_of_ble_eq_true rfl) rfl (fun d hd => ?_)
  generalize hX : xN E _ _ _ = X
  refine xg_aloadn 1 dL_likely_0 rfl rfl rfl ?_
  refine xg_iconst 2 dL_likely_1 rfl ?_
  refine xg_aloadn 3 dL_likely_2 rfl rfl rfl ?_
  refine xg_callVm 6 11 [] _ kv_X11_likely ⟨_, _, rfl⟩ kl_RL_74 dL_likely_3 rfl hT (by omega) rfl rfl (Nat.le_of_ble_eq_true rfl) (by omega) ⟨by omega, by omega⟩ (ct) rfl (fun v9 h9 e9 => ?_)
  have e8 := e9
  obtain ⟨r9, z9, T9, F9, I9, P9, Y9, rfl, hr9, rfl, hk1, hk2⟩ := hp _ _ e9
  refine xg_i2l 7 dL_likely_6 rfl hr9 ?_
  refine xg_last 8 dL_likely_7 rfl hk1 (by rw [hk2]; omega) ?_
  refine xg_goto 14 dL_likely_8 rfl ?_
  refine xg_iconst 15 dL_likely_14 rfl ?_
  subst hX
  exact xg_ireturn dL_likely_15 rfl ⟨by omega, by omega⟩ ⟨rfl, r9, z9, T9, F9, I9, P9, Y9, hr9, e8, rfl⟩

set_option maxHeartbeats 4000000 in
set_option maxRecDepth 100000 in
theorem cl_likely_1 {E : xE} {z : Nat} {T : Nat → Nat × Int} {F : Nat → Nat → Int} {I : Nat → Int → Int} {P : Nat → Nat → Option Nat} {Y : Nat → Int → Option Nat} {o ou k mc' ms' : Nat} {hx : xH → Prop} (cx : CtX E k mX11_likely mc' ms' [.ref o] (z, T, F, I, P, Y) "java/lang/IllegalArgumentException" hx) (hm : mc' ≤ 57 ∧ ms' ≤ 2100) (hT : (T o).1 = 12) (hC : ∀ u : State, E.2.2.2.2 u → va_Nw (.castable "java/lang/IllegalArgumentException" "java/lang/IllegalArgumentException") u) : CtH E (k + 1) mL_likely [(0, 8, 11, 13)] 57 2100 [.ref o, .ref ou] (z, T, F, I, P, Y) (fun v h1 => v = some (J 1) ∧ hx h1) := by
  refine CtH.of [some (.ref o), some (.ref ou), none] kh_L_likely rfl (Nat.le_of_ble_eq_true rfl) rfl (fun d hd => ?_)
  generalize hX : xN E _ _ _ = X
  refine xg_aloadn 1 dL_likely_0 rfl rfl rfl ?_
  refine xg_iconst 2 dL_likely_1 rfl ?_
  refine xg_aloadn 3 dL_likely_2 rfl rfl rfl ?_
  refine xg_callVX [(0, 8, 11, 13)] [] (⟨0, 8, 11, 13⟩ : ExceptionTableEntry) [] 11 rfl (by decide) kh_L_likely.1 rfl (fun z hz => nomatch hz) rfl (by decide) kn_RL_13 hC [] [J 0, .ref ou] kv_X11_likely ⟨_, _, rfl⟩ kl_RL_74 dL_likely_3 hT (by omega) rfl rfl (Nat.le_of_ble_eq_true rfl) (by omega) ⟨by omega, by omega⟩ cx (fun q9 h9 hx9 => ?_)
  refine xg_astoren 12 _ dL_likely_11 rfl rfl rfl (by decide) (Or.inr rfl) ?_
  refine xg_iconst 13 dL_likely_12 rfl ?_
  subst hX
  exact xg_ireturn dL_likely_13 rfl ⟨by omega, by omega⟩ ⟨rfl, hx9⟩

theorem dL_look_0 : decode cL_look 0 = .ok (.aload_n 1, 1) := by decide +kernel
theorem dL_look_1 : decode cL_look 1 = .ok (.iconst 0, 1) := by decide +kernel
theorem dL_look_2 : decode cL_look 2 = .ok (.aload_n 0, 1) := by decide +kernel
theorem dL_look_3 : decode cL_look 3 = .ok (.invokevirtual 77, 3) := by decide +kernel
theorem dL_look_6 : decode cL_look 6 = .ok (.i2l, 1) := by decide +kernel
theorem dL_look_7 : decode cL_look 7 = .ok (.lastore, 1) := by decide +kernel
theorem dL_look_8 : decode cL_look 8 = .ok (.goto 6, 3) := by decide +kernel
theorem dL_look_11 : decode cL_look 11 = .ok (.astore_n 2, 1) := by decide +kernel
theorem dL_look_12 : decode cL_look 12 = .ok (.iconst 1, 1) := by decide +kernel
theorem dL_look_13 : decode cL_look 13 = .ok (.ireturn, 1) := by decide +kernel
theorem dL_look_14 : decode cL_look 14 = .ok (.iconst 0, 1) := by decide +kernel
theorem dL_look_15 : decode cL_look 15 = .ok (.ireturn, 1) := by decide +kernel
set_option maxHeartbeats 4000000 in
set_option maxRecDepth 100000 in
theorem cl_look {E : xE} {z : Nat} {T : Nat → Nat × Int} {F : Nat → Nat → Int} {I : Nat → Int → Int} {P : Nat → Nat → Option Nat} {Y : Nat → Int → Option Nat} {o ou k mc' ms' : Nat} {post : Option Value → xH → Prop} (ct : Ct E k mX11_look mc' ms' [.ref o] (z, T, F, I, P, Y) post) (hm : mc' ≤ 57 ∧ ms' ≤ 2100) (hT : (T o).1 = 12) (hp : xAns ou post) : CtH E (k + 1) mL_look [(0, 8, 11, 13)] 57 2100 [.ref o, .ref ou] (z, T, F, I, P, Y) (xOk ou post) := by
  refine CtH.of [some (.ref o), some (.ref ou), none] kh_L_look rfl (Nat.le_of_ble_eq_true rfl) rfl (fun d hd => ?_)
  generalize hX : xN E _ _ _ = X
  refine xg_aloadn 1 dL_look_0 rfl rfl rfl ?_
  refine xg_iconst 2 dL_look_1 rfl ?_
  refine xg_aloadn 3 dL_look_2 rfl rfl rfl ?_
  refine xg_callVm 6 11 [] _ kv_X11_look ⟨_, _, rfl⟩ kl_RL_77 dL_look_3 rfl hT (by omega) rfl rfl (Nat.le_of_ble_eq_true rfl) (by omega) ⟨by omega, by omega⟩ (ct) rfl (fun v9 h9 e9 => ?_)
  have e8 := e9
  obtain ⟨r9, z9, T9, F9, I9, P9, Y9, rfl, hr9, rfl, hk1, hk2⟩ := hp _ _ e9
  refine xg_i2l 7 dL_look_6 rfl hr9 ?_
  refine xg_last 8 dL_look_7 rfl hk1 (by rw [hk2]; omega) ?_
  refine xg_goto 14 dL_look_8 rfl ?_
  refine xg_iconst 15 dL_look_14 rfl ?_
  subst hX
  exact xg_ireturn dL_look_15 rfl ⟨by omega, by omega⟩ ⟨rfl, r9, z9, T9, F9, I9, P9, Y9, hr9, e8, rfl⟩

set_option maxHeartbeats 4000000 in
set_option maxRecDepth 100000 in
theorem cl_look_1 {E : xE} {z : Nat} {T : Nat → Nat × Int} {F : Nat → Nat → Int} {I : Nat → Int → Int} {P : Nat → Nat → Option Nat} {Y : Nat → Int → Option Nat} {o ou k mc' ms' : Nat} {hx : xH → Prop} (cx : CtX E k mX11_look mc' ms' [.ref o] (z, T, F, I, P, Y) "java/lang/IllegalArgumentException" hx) (hm : mc' ≤ 57 ∧ ms' ≤ 2100) (hT : (T o).1 = 12) (hC : ∀ u : State, E.2.2.2.2 u → va_Nw (.castable "java/lang/IllegalArgumentException" "java/lang/IllegalArgumentException") u) : CtH E (k + 1) mL_look [(0, 8, 11, 13)] 57 2100 [.ref o, .ref ou] (z, T, F, I, P, Y) (fun v h1 => v = some (J 1) ∧ hx h1) := by
  refine CtH.of [some (.ref o), some (.ref ou), none] kh_L_look rfl (Nat.le_of_ble_eq_true rfl) rfl (fun d hd => ?_)
  generalize hX : xN E _ _ _ = X
  refine xg_aloadn 1 dL_look_0 rfl rfl rfl ?_
  refine xg_iconst 2 dL_look_1 rfl ?_
  refine xg_aloadn 3 dL_look_2 rfl rfl rfl ?_
  refine xg_callVX [(0, 8, 11, 13)] [] (⟨0, 8, 11, 13⟩ : ExceptionTableEntry) [] 11 rfl (by decide) kh_L_look.1 rfl (fun z hz => nomatch hz) rfl (by decide) kn_RL_13 hC [] [J 0, .ref ou] kv_X11_look ⟨_, _, rfl⟩ kl_RL_77 dL_look_3 hT (by omega) rfl rfl (Nat.le_of_ble_eq_true rfl) (by omega) ⟨by omega, by omega⟩ cx (fun q9 h9 hx9 => ?_)
  refine xg_astoren 12 _ dL_look_11 rfl rfl rfl (by decide) (Or.inr rfl) ?_
  refine xg_iconst 13 dL_look_12 rfl ?_
  subst hX
  exact xg_ireturn dL_look_13 rfl ⟨by omega, by omega⟩ ⟨rfl, hx9⟩

theorem dL_pairs_0 : decode cL_pairs 0 = .ok (.aload_n 2, 1) := by decide +kernel
theorem dL_pairs_1 : decode cL_pairs 1 = .ok (.iconst 0, 1) := by decide +kernel
theorem dL_pairs_2 : decode cL_pairs 2 = .ok (.aload_n 0, 1) := by decide +kernel
theorem dL_pairs_3 : decode cL_pairs 3 = .ok (.iload_n 1, 1) := by decide +kernel
theorem dL_pairs_4 : decode cL_pairs 4 = .ok (.invokevirtual 80, 3) := by decide +kernel
theorem dL_pairs_7 : decode cL_pairs 7 = .ok (.i2l, 1) := by decide +kernel
theorem dL_pairs_8 : decode cL_pairs 8 = .ok (.lastore, 1) := by decide +kernel
theorem dL_pairs_9 : decode cL_pairs 9 = .ok (.goto 6, 3) := by decide +kernel
theorem dL_pairs_12 : decode cL_pairs 12 = .ok (.astore_n 3, 1) := by decide +kernel
theorem dL_pairs_13 : decode cL_pairs 13 = .ok (.iconst 1, 1) := by decide +kernel
theorem dL_pairs_14 : decode cL_pairs 14 = .ok (.ireturn, 1) := by decide +kernel
theorem dL_pairs_15 : decode cL_pairs 15 = .ok (.iconst 0, 1) := by decide +kernel
theorem dL_pairs_16 : decode cL_pairs 16 = .ok (.ireturn, 1) := by decide +kernel
set_option maxHeartbeats 4000000 in
set_option maxRecDepth 100000 in
theorem cl_pairs {E : xE} {z : Nat} {T : Nat → Nat × Int} {F : Nat → Nat → Int} {I : Nat → Int → Int} {P : Nat → Nat → Option Nat} {Y : Nat → Int → Option Nat} {o ou k mc' ms' : Nat} {p0 : Int} {post : Option Value → xH → Prop} (ct : Ct E k mX11_pairs mc' ms' [.ref o, J p0] (z, T, F, I, P, Y) post) (hm : mc' ≤ 57 ∧ ms' ≤ 2100) (hT : (T o).1 = 12) (hp : xAns ou post) : CtH E (k + 1) mL_pairs [(0, 9, 12, 24)] 57 2100 [.ref o, J p0, .ref ou] (z, T, F, I, P, Y) (xOk ou post) := by
  refine CtH.of [some (.ref o), some (J p0), some (.ref ou), none] kh_L_pairs rfl (Nat.le_of_ble_eq_true rfl) rfl (fun d hd => ?_)
  generalize hX : xN E _ _ _ = X
  refine xg_aloadn 1 dL_pairs_0 rfl rfl rfl ?_
  refine xg_iconst 2 dL_pairs_1 rfl ?_
  refine xg_aloadn 3 dL_pairs_2 rfl rfl rfl ?_
  refine xg_iloadn 4 dL_pairs_3 rfl rfl rfl ?_
  refine xg_callVm 7 11 [_] _ kv_X11_pairs ⟨_, _, rfl⟩ kl_RL_80 dL_pairs_4 rfl hT (by omega) rfl rfl (Nat.le_of_ble_eq_true rfl) (by omega) ⟨by omega, by omega⟩ (ct) rfl (fun v9 h9 e9 => ?_)
  have e8 := e9
  obtain ⟨r9, z9, T9, F9, I9, P9, Y9, rfl, hr9, rfl, hk1, hk2⟩ := hp _ _ e9
  refine xg_i2l 8 dL_pairs_7 rfl hr9 ?_
  refine xg_last 9 dL_pairs_8 rfl hk1 (by rw [hk2]; omega) ?_
  refine xg_goto 15 dL_pairs_9 rfl ?_
  refine xg_iconst 16 dL_pairs_15 rfl ?_
  subst hX
  exact xg_ireturn dL_pairs_16 rfl ⟨by omega, by omega⟩ ⟨rfl, r9, z9, T9, F9, I9, P9, Y9, hr9, e8, rfl⟩

set_option maxHeartbeats 4000000 in
set_option maxRecDepth 100000 in
theorem cl_pairs_1 {E : xE} {z : Nat} {T : Nat → Nat × Int} {F : Nat → Nat → Int} {I : Nat → Int → Int} {P : Nat → Nat → Option Nat} {Y : Nat → Int → Option Nat} {o ou k mc' ms' : Nat} {p0 : Int} {hx : xH → Prop} (cx : CtX E k mX11_pairs mc' ms' [.ref o, J p0] (z, T, F, I, P, Y) "java/lang/IndexOutOfBoundsException" hx) (hm : mc' ≤ 57 ∧ ms' ≤ 2100) (hT : (T o).1 = 12) (hC : ∀ u : State, E.2.2.2.2 u → va_Nw (.castable "java/lang/IndexOutOfBoundsException" "java/lang/IndexOutOfBoundsException") u) : CtH E (k + 1) mL_pairs [(0, 9, 12, 24)] 57 2100 [.ref o, J p0, .ref ou] (z, T, F, I, P, Y) (fun v h1 => v = some (J 1) ∧ hx h1) := by
  refine CtH.of [some (.ref o), some (J p0), some (.ref ou), none] kh_L_pairs rfl (Nat.le_of_ble_eq_true rfl) rfl (fun d hd => ?_)
  generalize hX : xN E _ _ _ = X
  refine xg_aloadn 1 dL_pairs_0 rfl rfl rfl ?_
  refine xg_iconst 2 dL_pairs_1 rfl ?_
  refine xg_aloadn 3 dL_pairs_2 rfl rfl rfl ?_
  refine xg_iloadn 4 dL_pairs_3 rfl rfl rfl ?_
  refine xg_callVX [(0, 9, 12, 24)] [] (⟨0, 9, 12, 24⟩ : ExceptionTableEntry) [] 12 rfl (by decide) kh_L_pairs.1 rfl (fun z hz => nomatch hz) rfl (by decide) kn_RL_24 hC [J p0] [J 0, .ref ou] kv_X11_pairs ⟨_, _, rfl⟩ kl_RL_80 dL_pairs_4 hT (by omega) rfl rfl (Nat.le_of_ble_eq_true rfl) (by omega) ⟨by omega, by omega⟩ cx (fun q9 h9 hx9 => ?_)
  refine xg_astoren 13 _ dL_pairs_12 rfl rfl rfl (by decide) (Or.inr rfl) ?_
  refine xg_iconst 14 dL_pairs_13 rfl ?_
  subst hX
  exact xg_ireturn dL_pairs_14 rfl ⟨by omega, by omega⟩ ⟨rfl, hx9⟩

theorem dL_odds_0 : decode cL_odds 0 = .ok (.aload_n 2, 1) := by decide +kernel
theorem dL_odds_1 : decode cL_odds 1 = .ok (.iconst 0, 1) := by decide +kernel
theorem dL_odds_2 : decode cL_odds 2 = .ok (.aload_n 0, 1) := by decide +kernel
theorem dL_odds_3 : decode cL_odds 3 = .ok (.iload_n 1, 1) := by decide +kernel
theorem dL_odds_4 : decode cL_odds 4 = .ok (.invokevirtual 83, 3) := by decide +kernel
theorem dL_odds_7 : decode cL_odds 7 = .ok (.i2l, 1) := by decide +kernel
theorem dL_odds_8 : decode cL_odds 8 = .ok (.lastore, 1) := by decide +kernel
theorem dL_odds_9 : decode cL_odds 9 = .ok (.goto 6, 3) := by decide +kernel
theorem dL_odds_12 : decode cL_odds 12 = .ok (.astore_n 3, 1) := by decide +kernel
theorem dL_odds_13 : decode cL_odds 13 = .ok (.iconst 1, 1) := by decide +kernel
theorem dL_odds_14 : decode cL_odds 14 = .ok (.ireturn, 1) := by decide +kernel
theorem dL_odds_15 : decode cL_odds 15 = .ok (.iconst 0, 1) := by decide +kernel
theorem dL_odds_16 : decode cL_odds 16 = .ok (.ireturn, 1) := by decide +kernel
set_option maxHeartbeats 4000000 in
set_option maxRecDepth 100000 in
theorem cl_odds {E : xE} {z : Nat} {T : Nat → Nat × Int} {F : Nat → Nat → Int} {I : Nat → Int → Int} {P : Nat → Nat → Option Nat} {Y : Nat → Int → Option Nat} {o ou k mc' ms' : Nat} {p0 : Int} {post : Option Value → xH → Prop} (ct : Ct E k mX11_odds mc' ms' [.ref o, J p0] (z, T, F, I, P, Y) post) (hm : mc' ≤ 57 ∧ ms' ≤ 2100) (hT : (T o).1 = 12) (hp : xAns ou post) : CtH E (k + 1) mL_odds [(0, 9, 12, 13)] 57 2100 [.ref o, J p0, .ref ou] (z, T, F, I, P, Y) (xOk ou post) := by
  refine CtH.of [some (.ref o), some (J p0), some (.ref ou), none] kh_L_odds rfl (Nat.le_of_ble_eq_true rfl) rfl (fun d hd => ?_)
  generalize hX : xN E _ _ _ = X
  refine xg_aloadn 1 dL_odds_0 rfl rfl rfl ?_
  refine xg_iconst 2 dL_odds_1 rfl ?_
  refine xg_aloadn 3 dL_odds_2 rfl rfl rfl ?_
  refine xg_iloadn 4 dL_odds_3 rfl rfl rfl ?_
  refine xg_callVm 7 11 [_] _ kv_X11_odds ⟨_, _, rfl⟩ kl_RL_83 dL_odds_4 rfl hT (by omega) rfl rfl (Nat.le_of_ble_eq_true rfl) (by omega) ⟨by omega, by omega⟩ (ct) rfl (fun v9 h9 e9 => ?_)
  have e8 := e9
  obtain ⟨r9, z9, T9, F9, I9, P9, Y9, rfl, hr9, rfl, hk1, hk2⟩ := hp _ _ e9
  refine xg_i2l 8 dL_odds_7 rfl hr9 ?_
  refine xg_last 9 dL_odds_8 rfl hk1 (by rw [hk2]; omega) ?_
  refine xg_goto 15 dL_odds_9 rfl ?_
  refine xg_iconst 16 dL_odds_15 rfl ?_
  subst hX
  exact xg_ireturn dL_odds_16 rfl ⟨by omega, by omega⟩ ⟨rfl, r9, z9, T9, F9, I9, P9, Y9, hr9, e8, rfl⟩

set_option maxHeartbeats 4000000 in
set_option maxRecDepth 100000 in
theorem cl_odds_1 {E : xE} {z : Nat} {T : Nat → Nat × Int} {F : Nat → Nat → Int} {I : Nat → Int → Int} {P : Nat → Nat → Option Nat} {Y : Nat → Int → Option Nat} {o ou k mc' ms' : Nat} {p0 : Int} {hx : xH → Prop} (cx : CtX E k mX11_odds mc' ms' [.ref o, J p0] (z, T, F, I, P, Y) "java/lang/IllegalArgumentException" hx) (hm : mc' ≤ 57 ∧ ms' ≤ 2100) (hT : (T o).1 = 12) (hC : ∀ u : State, E.2.2.2.2 u → va_Nw (.castable "java/lang/IllegalArgumentException" "java/lang/IllegalArgumentException") u) : CtH E (k + 1) mL_odds [(0, 9, 12, 13)] 57 2100 [.ref o, J p0, .ref ou] (z, T, F, I, P, Y) (fun v h1 => v = some (J 1) ∧ hx h1) := by
  refine CtH.of [some (.ref o), some (J p0), some (.ref ou), none] kh_L_odds rfl (Nat.le_of_ble_eq_true rfl) rfl (fun d hd => ?_)
  generalize hX : xN E _ _ _ = X
  refine xg_aloadn 1 dL_odds_0 rfl rfl rfl ?_
  refine xg_iconst 2 dL_odds_1 rfl ?_
  refine xg_aloadn 3 dL_odds_2 rfl rfl rfl ?_
  refine xg_iloadn 4 dL_odds_3 rfl rfl rfl ?_
  refine xg_callVX [(0, 9, 12, 13)] [] (⟨0, 9, 12, 13⟩ : ExceptionTableEntry) [] 12 rfl (by decide) kh_L_odds.1 rfl (fun z hz => nomatch hz) rfl (by decide) kn_RL_13 hC [J p0] [J 0, .ref ou] kv_X11_odds ⟨_, _, rfl⟩ kl_RL_83 dL_odds_4 hT (by omega) rfl rfl (Nat.le_of_ble_eq_true rfl) (by omega) ⟨by omega, by omega⟩ cx (fun q9 h9 hx9 => ?_)
  refine xg_astoren 13 _ dL_odds_12 rfl rfl rfl (by decide) (Or.inr rfl) ?_
  refine xg_iconst 14 dL_odds_13 rfl ?_
  subst hX
  exact xg_ireturn dL_odds_14 rfl ⟨by omega, by omega⟩ ⟨rfl, hx9⟩

theorem dL_most_0 : decode cL_most 0 = .ok (.aload_n 2, 1) := by decide +kernel
theorem dL_most_1 : decode cL_most 1 = .ok (.iconst 0, 1) := by decide +kernel
theorem dL_most_2 : decode cL_most 2 = .ok (.aload_n 0, 1) := by decide +kernel
theorem dL_most_3 : decode cL_most 3 = .ok (.iload_n 1, 1) := by decide +kernel
theorem dL_most_4 : decode cL_most 4 = .ok (.invokevirtual 86, 3) := by decide +kernel
theorem dL_most_7 : decode cL_most 7 = .ok (.i2l, 1) := by decide +kernel
theorem dL_most_8 : decode cL_most 8 = .ok (.lastore, 1) := by decide +kernel
theorem dL_most_9 : decode cL_most 9 = .ok (.goto 6, 3) := by decide +kernel
theorem dL_most_12 : decode cL_most 12 = .ok (.astore_n 3, 1) := by decide +kernel
theorem dL_most_13 : decode cL_most 13 = .ok (.iconst 1, 1) := by decide +kernel
theorem dL_most_14 : decode cL_most 14 = .ok (.ireturn, 1) := by decide +kernel
theorem dL_most_15 : decode cL_most 15 = .ok (.iconst 0, 1) := by decide +kernel
theorem dL_most_16 : decode cL_most 16 = .ok (.ireturn, 1) := by decide +kernel
set_option maxHeartbeats 4000000 in
set_option maxRecDepth 100000 in
theorem cl_most {E : xE} {z : Nat} {T : Nat → Nat × Int} {F : Nat → Nat → Int} {I : Nat → Int → Int} {P : Nat → Nat → Option Nat} {Y : Nat → Int → Option Nat} {o ou k mc' ms' : Nat} {p0 : Int} {post : Option Value → xH → Prop} (ct : Ct E k mX11_most mc' ms' [.ref o, J p0] (z, T, F, I, P, Y) post) (hm : mc' ≤ 57 ∧ ms' ≤ 2100) (hT : (T o).1 = 12) (hp : xAns ou post) : CtH E (k + 1) mL_most [(0, 9, 12, 26)] 57 2100 [.ref o, J p0, .ref ou] (z, T, F, I, P, Y) (xOk ou post) := by
  refine CtH.of [some (.ref o), some (J p0), some (.ref ou), none] kh_L_most rfl (Nat.le_of_ble_eq_true rfl) rfl (fun d hd => ?_)
  generalize hX : xN E _ _ _ = X
  refine xg_aloadn 1 dL_most_0 rfl rfl rfl ?_
  refine xg_iconst 2 dL_most_1 rfl ?_
  refine xg_aloadn 3 dL_most_2 rfl rfl rfl ?_
  refine xg_iloadn 4 dL_most_3 rfl rfl rfl ?_
  refine xg_callVm 7 11 [_] _ kv_X11_most ⟨_, _, rfl⟩ kl_RL_86 dL_most_4 rfl hT (by omega) rfl rfl (Nat.le_of_ble_eq_true rfl) (by omega) ⟨by omega, by omega⟩ (ct) rfl (fun v9 h9 e9 => ?_)
  have e8 := e9
  obtain ⟨r9, z9, T9, F9, I9, P9, Y9, rfl, hr9, rfl, hk1, hk2⟩ := hp _ _ e9
  refine xg_i2l 8 dL_most_7 rfl hr9 ?_
  refine xg_last 9 dL_most_8 rfl hk1 (by rw [hk2]; omega) ?_
  refine xg_goto 15 dL_most_9 rfl ?_
  refine xg_iconst 16 dL_most_15 rfl ?_
  subst hX
  exact xg_ireturn dL_most_16 rfl ⟨by omega, by omega⟩ ⟨rfl, r9, z9, T9, F9, I9, P9, Y9, hr9, e8, rfl⟩

set_option maxHeartbeats 4000000 in
set_option maxRecDepth 100000 in
theorem cl_most_1 {E : xE} {z : Nat} {T : Nat → Nat × Int} {F : Nat → Nat → Int} {I : Nat → Int → Int} {P : Nat → Nat → Option Nat} {Y : Nat → Int → Option Nat} {o ou k mc' ms' : Nat} {p0 : Int} {hx : xH → Prop} (cx : CtX E k mX11_most mc' ms' [.ref o, J p0] (z, T, F, I, P, Y) "java/util/NoSuchElementException" hx) (hm : mc' ≤ 57 ∧ ms' ≤ 2100) (hT : (T o).1 = 12) (hC : ∀ u : State, E.2.2.2.2 u → va_Nw (.castable "java/util/NoSuchElementException" "java/util/NoSuchElementException") u) : CtH E (k + 1) mL_most [(0, 9, 12, 26)] 57 2100 [.ref o, J p0, .ref ou] (z, T, F, I, P, Y) (fun v h1 => v = some (J 1) ∧ hx h1) := by
  refine CtH.of [some (.ref o), some (J p0), some (.ref ou), none] kh_L_most rfl (Nat.le_of_ble_eq_true rfl) rfl (fun d hd => ?_)
  generalize hX : xN E _ _ _ = X
  refine xg_aloadn 1 dL_most_0 rfl rfl rfl ?_
  refine xg_iconst 2 dL_most_1 rfl ?_
  refine xg_aloadn 3 dL_most_2 rfl rfl rfl ?_
  refine xg_iloadn 4 dL_most_3 rfl rfl rfl ?_
  refine xg_callVX [(0, 9, 12, 26)] [] (⟨0, 9, 12, 26⟩ : ExceptionTableEntry) [] 12 rfl (by decide) kh_L_most.1 rfl (fun z hz => nomatch hz) rfl (by decide) kn_RL_26 hC [J p0] [J 0, .ref ou] kv_X11_most ⟨_, _, rfl⟩ kl_RL_86 dL_most_4 hT (by omega) rfl rfl (Nat.le_of_ble_eq_true rfl) (by omega) ⟨by omega, by omega⟩ cx (fun q9 h9 hx9 => ?_)
  refine xg_astoren 13 _ dL_most_12 rfl rfl rfl (by decide) (Or.inr rfl) ?_
  refine xg_iconst 14 dL_most_13 rfl ?_
  subst hX
  exact xg_ireturn dL_most_14 rfl ⟨by omega, by omega⟩ ⟨rfl, hx9⟩

theorem dL_ahead_0 : decode cL_ahead 0 = .ok (.aload_n 3, 1) := by decide +kernel
theorem dL_ahead_1 : decode cL_ahead 1 = .ok (.iconst 0, 1) := by decide +kernel
theorem dL_ahead_2 : decode cL_ahead 2 = .ok (.aload_n 0, 1) := by decide +kernel
theorem dL_ahead_3 : decode cL_ahead 3 = .ok (.iload_n 1, 1) := by decide +kernel
theorem dL_ahead_4 : decode cL_ahead 4 = .ok (.iload_n 2, 1) := by decide +kernel
theorem dL_ahead_5 : decode cL_ahead 5 = .ok (.invokevirtual 89, 3) := by decide +kernel
theorem dL_ahead_8 : decode cL_ahead 8 = .ok (.i2l, 1) := by decide +kernel
theorem dL_ahead_9 : decode cL_ahead 9 = .ok (.lastore, 1) := by decide +kernel
theorem dL_ahead_10 : decode cL_ahead 10 = .ok (.goto 7, 3) := by decide +kernel
theorem dL_ahead_13 : decode cL_ahead 13 = .ok (.astore 4, 2) := by decide +kernel
theorem dL_ahead_15 : decode cL_ahead 15 = .ok (.iconst 1, 1) := by decide +kernel
theorem dL_ahead_16 : decode cL_ahead 16 = .ok (.ireturn, 1) := by decide +kernel
theorem dL_ahead_17 : decode cL_ahead 17 = .ok (.iconst 0, 1) := by decide +kernel
theorem dL_ahead_18 : decode cL_ahead 18 = .ok (.ireturn, 1) := by decide +kernel
set_option maxHeartbeats 4000000 in
set_option maxRecDepth 100000 in
theorem cl_ahead {E : xE} {z : Nat} {T : Nat → Nat × Int} {F : Nat → Nat → Int} {I : Nat → Int → Int} {P : Nat → Nat → Option Nat} {Y : Nat → Int → Option Nat} {o ou k mc' ms' : Nat} {p0 p1 : Int} {post : Option Value → xH → Prop} (ct : Ct E k mX11_ahead mc' ms' [.ref o, J p0, J p1] (z, T, F, I, P, Y) post) (hm : mc' ≤ 57 ∧ ms' ≤ 2100) (hT : (T o).1 = 12) (hp : xAns ou post) : CtH E (k + 1) mL_ahead [(0, 10, 13, 13)] 57 2100 [.ref o, J p0, J p1, .ref ou] (z, T, F, I, P, Y) (xOk ou post) := by
  refine CtH.of [some (.ref o), some (J p0), some (J p1), some (.ref ou), none] kh_L_ahead rfl (Nat.le_of_ble_eq_true rfl) rfl (fun d hd => ?_)
  generalize hX : xN E _ _ _ = X
  refine xg_aloadn 1 dL_ahead_0 rfl rfl rfl ?_
  refine xg_iconst 2 dL_ahead_1 rfl ?_
  refine xg_aloadn 3 dL_ahead_2 rfl rfl rfl ?_
  refine xg_iloadn 4 dL_ahead_3 rfl rfl rfl ?_
  refine xg_iloadn 5 dL_ahead_4 rfl rfl rfl ?_
  refine xg_callVm 8 11 [_, _] _ kv_X11_ahead ⟨_, _, rfl⟩ kl_RL_89 dL_ahead_5 rfl hT (by omega) rfl rfl (Nat.le_of_ble_eq_true rfl) (by omega) ⟨by omega, by omega⟩ (ct) rfl (fun v9 h9 e9 => ?_)
  have e8 := e9
  obtain ⟨r9, z9, T9, F9, I9, P9, Y9, rfl, hr9, rfl, hk1, hk2⟩ := hp _ _ e9
  refine xg_i2l 9 dL_ahead_8 rfl hr9 ?_
  refine xg_last 10 dL_ahead_9 rfl hk1 (by rw [hk2]; omega) ?_
  refine xg_goto 17 dL_ahead_10 rfl ?_
  refine xg_iconst 18 dL_ahead_17 rfl ?_
  subst hX
  exact xg_ireturn dL_ahead_18 rfl ⟨by omega, by omega⟩ ⟨rfl, r9, z9, T9, F9, I9, P9, Y9, hr9, e8, rfl⟩

set_option maxHeartbeats 4000000 in
set_option maxRecDepth 100000 in
theorem cl_ahead_1 {E : xE} {z : Nat} {T : Nat → Nat × Int} {F : Nat → Nat → Int} {I : Nat → Int → Int} {P : Nat → Nat → Option Nat} {Y : Nat → Int → Option Nat} {o ou k mc' ms' : Nat} {p0 p1 : Int} {hx : xH → Prop} (cx : CtX E k mX11_ahead mc' ms' [.ref o, J p0, J p1] (z, T, F, I, P, Y) "java/lang/IllegalArgumentException" hx) (hm : mc' ≤ 57 ∧ ms' ≤ 2100) (hT : (T o).1 = 12) (hC : ∀ u : State, E.2.2.2.2 u → va_Nw (.castable "java/lang/IllegalArgumentException" "java/lang/IllegalArgumentException") u) : CtH E (k + 1) mL_ahead [(0, 10, 13, 13)] 57 2100 [.ref o, J p0, J p1, .ref ou] (z, T, F, I, P, Y) (fun v h1 => v = some (J 1) ∧ hx h1) := by
  refine CtH.of [some (.ref o), some (J p0), some (J p1), some (.ref ou), none] kh_L_ahead rfl (Nat.le_of_ble_eq_true rfl) rfl (fun d hd => ?_)
  generalize hX : xN E _ _ _ = X
  refine xg_aloadn 1 dL_ahead_0 rfl rfl rfl ?_
  refine xg_iconst 2 dL_ahead_1 rfl ?_
  refine xg_aloadn 3 dL_ahead_2 rfl rfl rfl ?_
  refine xg_iloadn 4 dL_ahead_3 rfl rfl rfl ?_
  refine xg_iloadn 5 dL_ahead_4 rfl rfl rfl ?_
  refine xg_callVX [(0, 10, 13, 13)] [] (⟨0, 10, 13, 13⟩ : ExceptionTableEntry) [] 13 rfl (by decide) kh_L_ahead.1 rfl (fun z hz => nomatch hz) rfl (by decide) kn_RL_13 hC [J p0, J p1] [J 0, .ref ou] kv_X11_ahead ⟨_, _, rfl⟩ kl_RL_89 dL_ahead_5 hT (by omega) rfl rfl (Nat.le_of_ble_eq_true rfl) (by omega) ⟨by omega, by omega⟩ cx (fun q9 h9 hx9 => ?_)
  refine xg_astore 15 _ dL_ahead_13 rfl rfl (by decide) (Or.inr rfl) ?_
  refine xg_iconst 16 dL_ahead_15 rfl ?_
  subst hX
  exact xg_ireturn dL_ahead_16 rfl ⟨by omega, by omega⟩ ⟨rfl, hx9⟩

theorem dL_trial_0 : decode cL_trial 0 = .ok (.aload_n 3, 1) := by decide +kernel
theorem dL_trial_1 : decode cL_trial 1 = .ok (.iconst 0, 1) := by decide +kernel
theorem dL_trial_2 : decode cL_trial 2 = .ok (.aload_n 0, 1) := by decide +kernel
theorem dL_trial_3 : decode cL_trial 3 = .ok (.iload_n 1, 1) := by decide +kernel
theorem dL_trial_4 : decode cL_trial 4 = .ok (.iload_n 2, 1) := by decide +kernel
theorem dL_trial_5 : decode cL_trial 5 = .ok (.invokevirtual 93, 3) := by decide +kernel
theorem dL_trial_8 : decode cL_trial 8 = .ok (.i2l, 1) := by decide +kernel
theorem dL_trial_9 : decode cL_trial 9 = .ok (.lastore, 1) := by decide +kernel
theorem dL_trial_10 : decode cL_trial 10 = .ok (.goto 7, 3) := by decide +kernel
theorem dL_trial_13 : decode cL_trial 13 = .ok (.astore 4, 2) := by decide +kernel
theorem dL_trial_15 : decode cL_trial 15 = .ok (.iconst 1, 1) := by decide +kernel
theorem dL_trial_16 : decode cL_trial 16 = .ok (.ireturn, 1) := by decide +kernel
theorem dL_trial_17 : decode cL_trial 17 = .ok (.iconst 0, 1) := by decide +kernel
theorem dL_trial_18 : decode cL_trial 18 = .ok (.ireturn, 1) := by decide +kernel
set_option maxHeartbeats 4000000 in
set_option maxRecDepth 100000 in
theorem cl_trial {E : xE} {z : Nat} {T : Nat → Nat × Int} {F : Nat → Nat → Int} {I : Nat → Int → Int} {P : Nat → Nat → Option Nat} {Y : Nat → Int → Option Nat} {o ou k mc' ms' : Nat} {p0 p1 : Int} {post : Option Value → xH → Prop} (ct : Ct E k mX11_trial mc' ms' [.ref o, J p0, J p1] (z, T, F, I, P, Y) post) (hm : mc' ≤ 57 ∧ ms' ≤ 2100) (hT : (T o).1 = 12) (hp : xAns ou post) : CtH E (k + 1) mL_trial [(0, 10, 13, 13)] 57 2100 [.ref o, J p0, J p1, .ref ou] (z, T, F, I, P, Y) (xOk ou post) := by
  refine CtH.of [some (.ref o), some (J p0), some (J p1), some (.ref ou), none] kh_L_trial rfl (Nat.le_of_ble_eq_true rfl) rfl (fun d hd => ?_)
  generalize hX : xN E _ _ _ = X
  refine xg_aloadn 1 dL_trial_0 rfl rfl rfl ?_
  refine xg_iconst 2 dL_trial_1 rfl ?_
  refine xg_aloadn 3 dL_trial_2 rfl rfl rfl ?_
  refine xg_iloadn 4 dL_trial_3 rfl rfl rfl ?_
  refine xg_iloadn 5 dL_trial_4 rfl rfl rfl ?_
  refine xg_callVm 8 11 [_, _] _ kv_X11_trial ⟨_, _, rfl⟩ kl_RL_93 dL_trial_5 rfl hT (by omega) rfl rfl (Nat.le_of_ble_eq_true rfl) (by omega) ⟨by omega, by omega⟩ (ct) rfl (fun v9 h9 e9 => ?_)
  have e8 := e9
  obtain ⟨r9, z9, T9, F9, I9, P9, Y9, rfl, hr9, rfl, hk1, hk2⟩ := hp _ _ e9
  refine xg_i2l 9 dL_trial_8 rfl hr9 ?_
  refine xg_last 10 dL_trial_9 rfl hk1 (by rw [hk2]; omega) ?_
  refine xg_goto 17 dL_trial_10 rfl ?_
  refine xg_iconst 18 dL_trial_17 rfl ?_
  subst hX
  exact xg_ireturn dL_trial_18 rfl ⟨by omega, by omega⟩ ⟨rfl, r9, z9, T9, F9, I9, P9, Y9, hr9, e8, rfl⟩

set_option maxHeartbeats 4000000 in
set_option maxRecDepth 100000 in
theorem cl_trial_1 {E : xE} {z : Nat} {T : Nat → Nat × Int} {F : Nat → Nat → Int} {I : Nat → Int → Int} {P : Nat → Nat → Option Nat} {Y : Nat → Int → Option Nat} {o ou k mc' ms' : Nat} {p0 p1 : Int} {hx : xH → Prop} (cx : CtX E k mX11_trial mc' ms' [.ref o, J p0, J p1] (z, T, F, I, P, Y) "java/lang/IllegalArgumentException" hx) (hm : mc' ≤ 57 ∧ ms' ≤ 2100) (hT : (T o).1 = 12) (hC : ∀ u : State, E.2.2.2.2 u → va_Nw (.castable "java/lang/IllegalArgumentException" "java/lang/IllegalArgumentException") u) : CtH E (k + 1) mL_trial [(0, 10, 13, 13)] 57 2100 [.ref o, J p0, J p1, .ref ou] (z, T, F, I, P, Y) (fun v h1 => v = some (J 1) ∧ hx h1) := by
  refine CtH.of [some (.ref o), some (J p0), some (J p1), some (.ref ou), none] kh_L_trial rfl (Nat.le_of_ble_eq_true rfl) rfl (fun d hd => ?_)
  generalize hX : xN E _ _ _ = X
  refine xg_aloadn 1 dL_trial_0 rfl rfl rfl ?_
  refine xg_iconst 2 dL_trial_1 rfl ?_
  refine xg_aloadn 3 dL_trial_2 rfl rfl rfl ?_
  refine xg_iloadn 4 dL_trial_3 rfl rfl rfl ?_
  refine xg_iloadn 5 dL_trial_4 rfl rfl rfl ?_
  refine xg_callVX [(0, 10, 13, 13)] [] (⟨0, 10, 13, 13⟩ : ExceptionTableEntry) [] 13 rfl (by decide) kh_L_trial.1 rfl (fun z hz => nomatch hz) rfl (by decide) kn_RL_13 hC [J p0, J p1] [J 0, .ref ou] kv_X11_trial ⟨_, _, rfl⟩ kl_RL_93 dL_trial_5 hT (by omega) rfl rfl (Nat.le_of_ble_eq_true rfl) (by omega) ⟨by omega, by omega⟩ cx (fun q9 h9 hx9 => ?_)
  refine xg_astore 15 _ dL_trial_13 rfl rfl (by decide) (Or.inr rfl) ?_
  refine xg_iconst 16 dL_trial_15 rfl ?_
  subst hX
  exact xg_ireturn dL_trial_16 rfl ⟨by omega, by omega⟩ ⟨rfl, hx9⟩

theorem dL_span_0 : decode cL_span 0 = .ok (.aload_n 3, 1) := by decide +kernel
theorem dL_span_1 : decode cL_span 1 = .ok (.iconst 0, 1) := by decide +kernel
theorem dL_span_2 : decode cL_span 2 = .ok (.aload_n 0, 1) := by decide +kernel
theorem dL_span_3 : decode cL_span 3 = .ok (.iload_n 1, 1) := by decide +kernel
theorem dL_span_4 : decode cL_span 4 = .ok (.iload_n 2, 1) := by decide +kernel
theorem dL_span_5 : decode cL_span 5 = .ok (.invokevirtual 96, 3) := by decide +kernel
theorem dL_span_8 : decode cL_span 8 = .ok (.i2l, 1) := by decide +kernel
theorem dL_span_9 : decode cL_span 9 = .ok (.lastore, 1) := by decide +kernel
theorem dL_span_10 : decode cL_span 10 = .ok (.goto 7, 3) := by decide +kernel
theorem dL_span_13 : decode cL_span 13 = .ok (.astore 4, 2) := by decide +kernel
theorem dL_span_15 : decode cL_span 15 = .ok (.iconst 1, 1) := by decide +kernel
theorem dL_span_16 : decode cL_span 16 = .ok (.ireturn, 1) := by decide +kernel
theorem dL_span_17 : decode cL_span 17 = .ok (.iconst 0, 1) := by decide +kernel
theorem dL_span_18 : decode cL_span 18 = .ok (.ireturn, 1) := by decide +kernel
set_option maxHeartbeats 4000000 in
set_option maxRecDepth 100000 in
theorem cl_span {E : xE} {z : Nat} {T : Nat → Nat × Int} {F : Nat → Nat → Int} {I : Nat → Int → Int} {P : Nat → Nat → Option Nat} {Y : Nat → Int → Option Nat} {o ou k mc' ms' : Nat} {p0 p1 : Int} {post : Option Value → xH → Prop} (ct : Ct E k mX11_span mc' ms' [.ref o, J p0, J p1] (z, T, F, I, P, Y) post) (hm : mc' ≤ 57 ∧ ms' ≤ 2100) (hT : (T o).1 = 12) (hp : xAns ou post) : CtH E (k + 1) mL_span [(0, 10, 13, 13)] 57 2100 [.ref o, J p0, J p1, .ref ou] (z, T, F, I, P, Y) (xOk ou post) := by
  refine CtH.of [some (.ref o), some (J p0), some (J p1), some (.ref ou), none] kh_L_span rfl (Nat.le_of_ble_eq_true rfl) rfl (fun d hd => ?_)
  generalize hX : xN E _ _ _ = X
  refine xg_aloadn 1 dL_span_0 rfl rfl rfl ?_
  refine xg_iconst 2 dL_span_1 rfl ?_
  refine xg_aloadn 3 dL_span_2 rfl rfl rfl ?_
  refine xg_iloadn 4 dL_span_3 rfl rfl rfl ?_
  refine xg_iloadn 5 dL_span_4 rfl rfl rfl ?_
  refine xg_callVm 8 11 [_, _] _ kv_X11_span ⟨_, _, rfl⟩ kl_RL_96 dL_span_5 rfl hT (by omega) rfl rfl (Nat.le_of_ble_eq_true rfl) (by omega) ⟨by omega, by omega⟩ (ct) rfl (fun v9 h9 e9 => ?_)
  have e8 := e9
  obtain ⟨r9, z9, T9, F9, I9, P9, Y9, rfl, hr9, rfl, hk1, hk2⟩ := hp _ _ e9
  refine xg_i2l 9 dL_span_8 rfl hr9 ?_
  refine xg_last 10 dL_span_9 rfl hk1 (by rw [hk2]; omega) ?_
  refine xg_goto 17 dL_span_10 rfl ?_
  refine xg_iconst 18 dL_span_17 rfl ?_
  subst hX
  exact xg_ireturn dL_span_18 rfl ⟨by omega, by omega⟩ ⟨rfl, r9, z9, T9, F9, I9, P9, Y9, hr9, e8, rfl⟩

set_option maxHeartbeats 4000000 in
set_option maxRecDepth 100000 in
theorem cl_span_1 {E : xE} {z : Nat} {T : Nat → Nat × Int} {F : Nat → Nat → Int} {I : Nat → Int → Int} {P : Nat → Nat → Option Nat} {Y : Nat → Int → Option Nat} {o ou k mc' ms' : Nat} {p0 p1 : Int} {hx : xH → Prop} (cx : CtX E k mX11_span mc' ms' [.ref o, J p0, J p1] (z, T, F, I, P, Y) "java/lang/IllegalArgumentException" hx) (hm : mc' ≤ 57 ∧ ms' ≤ 2100) (hT : (T o).1 = 12) (hC : ∀ u : State, E.2.2.2.2 u → va_Nw (.castable "java/lang/IllegalArgumentException" "java/lang/IllegalArgumentException") u) : CtH E (k + 1) mL_span [(0, 10, 13, 13)] 57 2100 [.ref o, J p0, J p1, .ref ou] (z, T, F, I, P, Y) (fun v h1 => v = some (J 1) ∧ hx h1) := by
  refine CtH.of [some (.ref o), some (J p0), some (J p1), some (.ref ou), none] kh_L_span rfl (Nat.le_of_ble_eq_true rfl) rfl (fun d hd => ?_)
  generalize hX : xN E _ _ _ = X
  refine xg_aloadn 1 dL_span_0 rfl rfl rfl ?_
  refine xg_iconst 2 dL_span_1 rfl ?_
  refine xg_aloadn 3 dL_span_2 rfl rfl rfl ?_
  refine xg_iloadn 4 dL_span_3 rfl rfl rfl ?_
  refine xg_iloadn 5 dL_span_4 rfl rfl rfl ?_
  refine xg_callVX [(0, 10, 13, 13)] [] (⟨0, 10, 13, 13⟩ : ExceptionTableEntry) [] 13 rfl (by decide) kh_L_span.1 rfl (fun z hz => nomatch hz) rfl (by decide) kn_RL_13 hC [J p0, J p1] [J 0, .ref ou] kv_X11_span ⟨_, _, rfl⟩ kl_RL_96 dL_span_5 hT (by omega) rfl rfl (Nat.le_of_ble_eq_true rfl) (by omega) ⟨by omega, by omega⟩ cx (fun q9 h9 hx9 => ?_)
  refine xg_astore 15 _ dL_span_13 rfl rfl (by decide) (Or.inr rfl) ?_
  refine xg_iconst 16 dL_span_15 rfl ?_
  subst hX
  exact xg_ireturn dL_span_16 rfl ⟨by omega, by omega⟩ ⟨rfl, hx9⟩

theorem dL_led_0 : decode cL_led 0 = .ok (.aload_n 3, 1) := by decide +kernel
theorem dL_led_1 : decode cL_led 1 = .ok (.iconst 0, 1) := by decide +kernel
theorem dL_led_2 : decode cL_led 2 = .ok (.aload_n 0, 1) := by decide +kernel
theorem dL_led_3 : decode cL_led 3 = .ok (.iload_n 1, 1) := by decide +kernel
theorem dL_led_4 : decode cL_led 4 = .ok (.iload_n 2, 1) := by decide +kernel
theorem dL_led_5 : decode cL_led 5 = .ok (.invokevirtual 99, 3) := by decide +kernel
theorem dL_led_8 : decode cL_led 8 = .ok (.i2l, 1) := by decide +kernel
theorem dL_led_9 : decode cL_led 9 = .ok (.lastore, 1) := by decide +kernel
theorem dL_led_10 : decode cL_led 10 = .ok (.goto 7, 3) := by decide +kernel
theorem dL_led_13 : decode cL_led 13 = .ok (.astore 4, 2) := by decide +kernel
theorem dL_led_15 : decode cL_led 15 = .ok (.iconst 1, 1) := by decide +kernel
theorem dL_led_16 : decode cL_led 16 = .ok (.ireturn, 1) := by decide +kernel
theorem dL_led_17 : decode cL_led 17 = .ok (.iconst 0, 1) := by decide +kernel
theorem dL_led_18 : decode cL_led 18 = .ok (.ireturn, 1) := by decide +kernel
set_option maxHeartbeats 4000000 in
set_option maxRecDepth 100000 in
theorem cl_led {E : xE} {z : Nat} {T : Nat → Nat × Int} {F : Nat → Nat → Int} {I : Nat → Int → Int} {P : Nat → Nat → Option Nat} {Y : Nat → Int → Option Nat} {o ou k mc' ms' : Nat} {p0 p1 : Int} {post : Option Value → xH → Prop} (ct : Ct E k mX11_led mc' ms' [.ref o, J p0, J p1] (z, T, F, I, P, Y) post) (hm : mc' ≤ 57 ∧ ms' ≤ 2100) (hT : (T o).1 = 12) (hp : xAns ou post) : CtH E (k + 1) mL_led [(0, 10, 13, 26)] 57 2100 [.ref o, J p0, J p1, .ref ou] (z, T, F, I, P, Y) (xOk ou post) := by
  refine CtH.of [some (.ref o), some (J p0), some (J p1), some (.ref ou), none] kh_L_led rfl (Nat.le_of_ble_eq_true rfl) rfl (fun d hd => ?_)
  generalize hX : xN E _ _ _ = X
  refine xg_aloadn 1 dL_led_0 rfl rfl rfl ?_
  refine xg_iconst 2 dL_led_1 rfl ?_
  refine xg_aloadn 3 dL_led_2 rfl rfl rfl ?_
  refine xg_iloadn 4 dL_led_3 rfl rfl rfl ?_
  refine xg_iloadn 5 dL_led_4 rfl rfl rfl ?_
  refine xg_callVm 8 11 [_, _] _ kv_X11_led ⟨_, _, rfl⟩ kl_RL_99 dL_led_5 rfl hT (by omega) rfl rfl (Nat.le_of_ble_eq_true rfl) (by omega) ⟨by omega, by omega⟩ (ct) rfl (fun v9 h9 e9 => ?_)
  have e8 := e9
  obtain ⟨r9, z9, T9, F9, I9, P9, Y9, rfl, hr9, rfl, hk1, hk2⟩ := hp _ _ e9
  refine xg_i2l 9 dL_led_8 rfl hr9 ?_
  refine xg_last 10 dL_led_9 rfl hk1 (by rw [hk2]; omega) ?_
  refine xg_goto 17 dL_led_10 rfl ?_
  refine xg_iconst 18 dL_led_17 rfl ?_
  subst hX
  exact xg_ireturn dL_led_18 rfl ⟨by omega, by omega⟩ ⟨rfl, r9, z9, T9, F9, I9, P9, Y9, hr9, e8, rfl⟩

set_option maxHeartbeats 4000000 in
set_option maxRecDepth 100000 in
theorem cl_led_1 {E : xE} {z : Nat} {T : Nat → Nat × Int} {F : Nat → Nat → Int} {I : Nat → Int → Int} {P : Nat → Nat → Option Nat} {Y : Nat → Int → Option Nat} {o ou k mc' ms' : Nat} {p0 p1 : Int} {hx : xH → Prop} (cx : CtX E k mX11_led mc' ms' [.ref o, J p0, J p1] (z, T, F, I, P, Y) "java/util/NoSuchElementException" hx) (hm : mc' ≤ 57 ∧ ms' ≤ 2100) (hT : (T o).1 = 12) (hC : ∀ u : State, E.2.2.2.2 u → va_Nw (.castable "java/util/NoSuchElementException" "java/util/NoSuchElementException") u) : CtH E (k + 1) mL_led [(0, 10, 13, 26)] 57 2100 [.ref o, J p0, J p1, .ref ou] (z, T, F, I, P, Y) (fun v h1 => v = some (J 1) ∧ hx h1) := by
  refine CtH.of [some (.ref o), some (J p0), some (J p1), some (.ref ou), none] kh_L_led rfl (Nat.le_of_ble_eq_true rfl) rfl (fun d hd => ?_)
  generalize hX : xN E _ _ _ = X
  refine xg_aloadn 1 dL_led_0 rfl rfl rfl ?_
  refine xg_iconst 2 dL_led_1 rfl ?_
  refine xg_aloadn 3 dL_led_2 rfl rfl rfl ?_
  refine xg_iloadn 4 dL_led_3 rfl rfl rfl ?_
  refine xg_iloadn 5 dL_led_4 rfl rfl rfl ?_
  refine xg_callVX [(0, 10, 13, 26)] [] (⟨0, 10, 13, 26⟩ : ExceptionTableEntry) [] 13 rfl (by decide) kh_L_led.1 rfl (fun z hz => nomatch hz) rfl (by decide) kn_RL_26 hC [J p0, J p1] [J 0, .ref ou] kv_X11_led ⟨_, _, rfl⟩ kl_RL_99 dL_led_5 hT (by omega) rfl rfl (Nat.le_of_ble_eq_true rfl) (by omega) ⟨by omega, by omega⟩ cx (fun q9 h9 hx9 => ?_)
  refine xg_astore 15 _ dL_led_13 rfl rfl (by decide) (Or.inr rfl) ?_
  refine xg_iconst 16 dL_led_15 rfl ?_
  subst hX
  exact xg_ireturn dL_led_16 rfl ⟨by omega, by omega⟩ ⟨rfl, hx9⟩

theorem dL_log_0 : decode cL_log 0 = .ok (.aload_n 3, 1) := by decide +kernel
theorem dL_log_1 : decode cL_log 1 = .ok (.iconst 0, 1) := by decide +kernel
theorem dL_log_2 : decode cL_log 2 = .ok (.aload_n 0, 1) := by decide +kernel
theorem dL_log_3 : decode cL_log 3 = .ok (.iload_n 1, 1) := by decide +kernel
theorem dL_log_4 : decode cL_log 4 = .ok (.iload_n 2, 1) := by decide +kernel
theorem dL_log_5 : decode cL_log 5 = .ok (.invokevirtual 102, 3) := by decide +kernel
theorem dL_log_8 : decode cL_log 8 = .ok (.i2l, 1) := by decide +kernel
theorem dL_log_9 : decode cL_log 9 = .ok (.lastore, 1) := by decide +kernel
theorem dL_log_10 : decode cL_log 10 = .ok (.goto 7, 3) := by decide +kernel
theorem dL_log_13 : decode cL_log 13 = .ok (.astore 4, 2) := by decide +kernel
theorem dL_log_15 : decode cL_log 15 = .ok (.iconst 1, 1) := by decide +kernel
theorem dL_log_16 : decode cL_log 16 = .ok (.ireturn, 1) := by decide +kernel
theorem dL_log_17 : decode cL_log 17 = .ok (.iconst 0, 1) := by decide +kernel
theorem dL_log_18 : decode cL_log 18 = .ok (.ireturn, 1) := by decide +kernel
set_option maxHeartbeats 4000000 in
set_option maxRecDepth 100000 in
theorem cl_log {E : xE} {z : Nat} {T : Nat → Nat × Int} {F : Nat → Nat → Int} {I : Nat → Int → Int} {P : Nat → Nat → Option Nat} {Y : Nat → Int → Option Nat} {o ou k mc' ms' : Nat} {p0 p1 : Int} {post : Option Value → xH → Prop} (ct : Ct E k mX11_log mc' ms' [.ref o, J p0, J p1] (z, T, F, I, P, Y) post) (hm : mc' ≤ 57 ∧ ms' ≤ 2100) (hT : (T o).1 = 12) (hp : xAns ou post) : CtH E (k + 1) mL_log [(0, 10, 13, 26)] 57 2100 [.ref o, J p0, J p1, .ref ou] (z, T, F, I, P, Y) (xOk ou post) := by
  refine CtH.of [some (.ref o), some (J p0), some (J p1), some (.ref ou), none] kh_L_log rfl (Nat.le_of_ble_eq_true rfl) rfl (fun d hd => ?_)
  generalize hX : xN E _ _ _ = X
  refine xg_aloadn 1 dL_log_0 rfl rfl rfl ?_
  refine xg_iconst 2 dL_log_1 rfl ?_
  refine xg_aloadn 3 dL_log_2 rfl rfl rfl ?_
  refine xg_iloadn 4 dL_log_3 rfl rfl rfl ?_
  refine xg_iloadn 5 dL_log_4 rfl rfl rfl ?_
  refine xg_callVm 8 11 [_, _] _ kv_X11_log ⟨_, _, rfl⟩ kl_RL_102 dL_log_5 rfl hT (by omega) rfl rfl (Nat.le_of_ble_eq_true rfl) (by omega) ⟨by omega, by omega⟩ (ct) rfl (fun v9 h9 e9 => ?_)
  have e8 := e9
  obtain ⟨r9, z9, T9, F9, I9, P9, Y9, rfl, hr9, rfl, hk1, hk2⟩ := hp _ _ e9
  refine xg_i2l 9 dL_log_8 rfl hr9 ?_
  refine xg_last 10 dL_log_9 rfl hk1 (by rw [hk2]; omega) ?_
  refine xg_goto 17 dL_log_10 rfl ?_
  refine xg_iconst 18 dL_log_17 rfl ?_
  subst hX
  exact xg_ireturn dL_log_18 rfl ⟨by omega, by omega⟩ ⟨rfl, r9, z9, T9, F9, I9, P9, Y9, hr9, e8, rfl⟩

set_option maxHeartbeats 4000000 in
set_option maxRecDepth 100000 in
theorem cl_log_1 {E : xE} {z : Nat} {T : Nat → Nat × Int} {F : Nat → Nat → Int} {I : Nat → Int → Int} {P : Nat → Nat → Option Nat} {Y : Nat → Int → Option Nat} {o ou k mc' ms' : Nat} {p0 p1 : Int} {hx : xH → Prop} (cx : CtX E k mX11_log mc' ms' [.ref o, J p0, J p1] (z, T, F, I, P, Y) "java/util/NoSuchElementException" hx) (hm : mc' ≤ 57 ∧ ms' ≤ 2100) (hT : (T o).1 = 12) (hC : ∀ u : State, E.2.2.2.2 u → va_Nw (.castable "java/util/NoSuchElementException" "java/util/NoSuchElementException") u) : CtH E (k + 1) mL_log [(0, 10, 13, 26)] 57 2100 [.ref o, J p0, J p1, .ref ou] (z, T, F, I, P, Y) (fun v h1 => v = some (J 1) ∧ hx h1) := by
  refine CtH.of [some (.ref o), some (J p0), some (J p1), some (.ref ou), none] kh_L_log rfl (Nat.le_of_ble_eq_true rfl) rfl (fun d hd => ?_)
  generalize hX : xN E _ _ _ = X
  refine xg_aloadn 1 dL_log_0 rfl rfl rfl ?_
  refine xg_iconst 2 dL_log_1 rfl ?_
  refine xg_aloadn 3 dL_log_2 rfl rfl rfl ?_
  refine xg_iloadn 4 dL_log_3 rfl rfl rfl ?_
  refine xg_iloadn 5 dL_log_4 rfl rfl rfl ?_
  refine xg_callVX [(0, 10, 13, 26)] [] (⟨0, 10, 13, 26⟩ : ExceptionTableEntry) [] 13 rfl (by decide) kh_L_log.1 rfl (fun z hz => nomatch hz) rfl (by decide) kn_RL_26 hC [J p0, J p1] [J 0, .ref ou] kv_X11_log ⟨_, _, rfl⟩ kl_RL_102 dL_log_5 hT (by omega) rfl rfl (Nat.le_of_ble_eq_true rfl) (by omega) ⟨by omega, by omega⟩ cx (fun q9 h9 hx9 => ?_)
  refine xg_astore 15 _ dL_log_13 rfl rfl (by decide) (Or.inr rfl) ?_
  refine xg_iconst 16 dL_log_15 rfl ?_
  subst hX
  exact xg_ireturn dL_log_16 rfl ⟨by omega, by omega⟩ ⟨rfl, hx9⟩

