/-! words of throws, of the law's own methods -/
theorem at0_IAE : ∀ w ∈ (vx_at0 RX11 94 "java/lang/IllegalArgumentException" ["java/lang/RuntimeException", "java/lang/Exception"]).filter goodWord, w ∈ lw_tbl := by decide +kernel
theorem at1_IAE : ∀ w ∈ (vx_at0 RX11 94 "java/lang/IllegalArgumentException" ["java/lang/RuntimeException", "java/lang/Exception"]).filter (fun w => !goodWord w), w ∈ [Cond.castable "java/lang/IllegalArgumentException" "java/lang/IllegalArgumentException", .declares (Bundle.init0 "java/lang/RuntimeException"), .declares (Bundle.init0 "java/lang/Exception"), .declares (Bundle.init0 Bundle.tN)] := by decide +kernel
theorem at_IAE : ∀ w ∈ vx_at0 RX11 94 "java/lang/IllegalArgumentException" ["java/lang/RuntimeException", "java/lang/Exception"], w ∈ xT ∨ w ∈ [Cond.castable "java/lang/IllegalArgumentException" "java/lang/IllegalArgumentException", .declares (Bundle.init0 "java/lang/RuntimeException"), .declares (Bundle.init0 "java/lang/Exception"), .declares (Bundle.init0 Bundle.tN)] := fun w hw => by
  by_cases g : goodWord w = true
  · exact Or.inl (List.mem_filter.mpr ⟨at0_IAE w (List.mem_filter.mpr ⟨hw, g⟩), g⟩)
  · refine Or.inr (at1_IAE w (List.mem_filter.mpr ⟨hw, ?_⟩))
    show (!goodWord w) = true
    cases hg : goodWord w
    · rfl
    · exact absurd hg g
theorem kini_IAE : Cond.initialized "java/lang/IllegalArgumentException" ∈ xT := xT_t 22 (by decide +kernel) rfl
theorem kfit_IAE : Bundle.fit "java/lang/IllegalArgumentException" = true := by decide +kernel
theorem at0_UOE : ∀ w ∈ (vx_at0 RX11 100 "java/lang/UnsupportedOperationException" ["java/lang/RuntimeException", "java/lang/Exception"]).filter goodWord, w ∈ lw_tbl := by decide +kernel
theorem at1_UOE : ∀ w ∈ (vx_at0 RX11 100 "java/lang/UnsupportedOperationException" ["java/lang/RuntimeException", "java/lang/Exception"]).filter (fun w => !goodWord w), w ∈ [Cond.castable "java/lang/UnsupportedOperationException" "java/lang/UnsupportedOperationException", .declares (Bundle.init0 "java/lang/RuntimeException"), .declares (Bundle.init0 "java/lang/Exception"), .declares (Bundle.init0 Bundle.tN)] := by decide +kernel
theorem at_UOE : ∀ w ∈ vx_at0 RX11 100 "java/lang/UnsupportedOperationException" ["java/lang/RuntimeException", "java/lang/Exception"], w ∈ xT ∨ w ∈ [Cond.castable "java/lang/UnsupportedOperationException" "java/lang/UnsupportedOperationException", .declares (Bundle.init0 "java/lang/RuntimeException"), .declares (Bundle.init0 "java/lang/Exception"), .declares (Bundle.init0 Bundle.tN)] := fun w hw => by
  by_cases g : goodWord w = true
  · exact Or.inl (List.mem_filter.mpr ⟨at0_UOE w (List.mem_filter.mpr ⟨hw, g⟩), g⟩)
  · refine Or.inr (at1_UOE w (List.mem_filter.mpr ⟨hw, ?_⟩))
    show (!goodWord w) = true
    cases hg : goodWord w
    · rfl
    · exact absurd hg g
theorem kini_UOE : Cond.initialized "java/lang/UnsupportedOperationException" ∈ xT := xT_t 23 (by decide +kernel) rfl
theorem kfit_UOE : Bundle.fit "java/lang/UnsupportedOperationException" = true := by decide +kernel
theorem at0_IOB : ∀ w ∈ (vx_at0 RX11 127 "java/lang/IndexOutOfBoundsException" ["java/lang/RuntimeException", "java/lang/Exception"]).filter goodWord, w ∈ lw_tbl := by decide +kernel
theorem at1_IOB : ∀ w ∈ (vx_at0 RX11 127 "java/lang/IndexOutOfBoundsException" ["java/lang/RuntimeException", "java/lang/Exception"]).filter (fun w => !goodWord w), w ∈ [Cond.castable "java/lang/IndexOutOfBoundsException" "java/lang/IndexOutOfBoundsException", .declares (Bundle.init0 "java/lang/RuntimeException"), .declares (Bundle.init0 "java/lang/Exception"), .declares (Bundle.init0 Bundle.tN)] := by decide +kernel
theorem at_IOB : ∀ w ∈ vx_at0 RX11 127 "java/lang/IndexOutOfBoundsException" ["java/lang/RuntimeException", "java/lang/Exception"], w ∈ xT ∨ w ∈ [Cond.castable "java/lang/IndexOutOfBoundsException" "java/lang/IndexOutOfBoundsException", .declares (Bundle.init0 "java/lang/RuntimeException"), .declares (Bundle.init0 "java/lang/Exception"), .declares (Bundle.init0 Bundle.tN)] := fun w hw => by
  by_cases g : goodWord w = true
  · exact Or.inl (List.mem_filter.mpr ⟨at0_IOB w (List.mem_filter.mpr ⟨hw, g⟩), g⟩)
  · refine Or.inr (at1_IOB w (List.mem_filter.mpr ⟨hw, ?_⟩))
    show (!goodWord w) = true
    cases hg : goodWord w
    · rfl
    · exact absurd hg g
theorem kini_IOB : Cond.initialized "java/lang/IndexOutOfBoundsException" ∈ xT := xT_t 26 (by decide +kernel) rfl
theorem kfit_IOB : Bundle.fit "java/lang/IndexOutOfBoundsException" = true := by decide +kernel
theorem at0_NSE : ∀ w ∈ (vx_at0 RX11 157 "java/util/NoSuchElementException" ["java/lang/RuntimeException", "java/lang/Exception"]).filter goodWord, w ∈ lw_tbl := by decide +kernel
theorem at1_NSE : ∀ w ∈ (vx_at0 RX11 157 "java/util/NoSuchElementException" ["java/lang/RuntimeException", "java/lang/Exception"]).filter (fun w => !goodWord w), w ∈ [Cond.castable "java/util/NoSuchElementException" "java/util/NoSuchElementException", .declares (Bundle.init0 "java/lang/RuntimeException"), .declares (Bundle.init0 "java/lang/Exception"), .declares (Bundle.init0 Bundle.tN)] := by decide +kernel
theorem at_NSE : ∀ w ∈ vx_at0 RX11 157 "java/util/NoSuchElementException" ["java/lang/RuntimeException", "java/lang/Exception"], w ∈ xT ∨ w ∈ [Cond.castable "java/util/NoSuchElementException" "java/util/NoSuchElementException", .declares (Bundle.init0 "java/lang/RuntimeException"), .declares (Bundle.init0 "java/lang/Exception"), .declares (Bundle.init0 Bundle.tN)] := fun w hw => by
  by_cases g : goodWord w = true
  · exact Or.inl (List.mem_filter.mpr ⟨at0_NSE w (List.mem_filter.mpr ⟨hw, g⟩), g⟩)
  · refine Or.inr (at1_NSE w (List.mem_filter.mpr ⟨hw, ?_⟩))
    show (!goodWord w) = true
    cases hg : goodWord w
    · rfl
    · exact absurd hg g
theorem kini_NSE : Cond.initialized "java/util/NoSuchElementException" ∈ xT := xT_t 27 (by decide +kernel) rfl
theorem kfit_NSE : Bundle.fit "java/util/NoSuchElementException" = true := by decide +kernel
theorem at0_ISE : ∀ w ∈ (vx_at0 RX11 233 "java/lang/IllegalStateException" ["java/lang/RuntimeException", "java/lang/Exception"]).filter goodWord, w ∈ lw_tbl := by decide +kernel
theorem at1_ISE : ∀ w ∈ (vx_at0 RX11 233 "java/lang/IllegalStateException" ["java/lang/RuntimeException", "java/lang/Exception"]).filter (fun w => !goodWord w), w ∈ [Cond.castable "java/lang/IllegalStateException" "java/lang/IllegalStateException", .declares (Bundle.init0 "java/lang/RuntimeException"), .declares (Bundle.init0 "java/lang/Exception"), .declares (Bundle.init0 Bundle.tN)] := by decide +kernel
theorem at_ISE : ∀ w ∈ vx_at0 RX11 233 "java/lang/IllegalStateException" ["java/lang/RuntimeException", "java/lang/Exception"], w ∈ xT ∨ w ∈ [Cond.castable "java/lang/IllegalStateException" "java/lang/IllegalStateException", .declares (Bundle.init0 "java/lang/RuntimeException"), .declares (Bundle.init0 "java/lang/Exception"), .declares (Bundle.init0 Bundle.tN)] := fun w hw => by
  by_cases g : goodWord w = true
  · exact Or.inl (List.mem_filter.mpr ⟨at0_ISE w (List.mem_filter.mpr ⟨hw, g⟩), g⟩)
  · refine Or.inr (at1_ISE w (List.mem_filter.mpr ⟨hw, ?_⟩))
    show (!goodWord w) = true
    cases hg : goodWord w
    · rfl
    · exact absurd hg g
theorem kini_ISE : Cond.initialized "java/lang/IllegalStateException" ∈ xT := xT_t 28 (by decide +kernel) rfl
theorem kfit_ISE : Bundle.fit "java/lang/IllegalStateException" = true := by decide +kernel
abbrev mL_store : xM := (yL_store, cL_store, 3, (some .int), 2)
theorem kh_L_store : xMh mL_store [(0, 8, 11, 13), (0, 8, 14, 15)] := ⟨xT_t 644 (by decide +kernel) rfl, xT_t 0 (by decide +kernel) rfl, ⟨by decide +kernel, by decide +kernel, by decide +kernel⟩, by decide +kernel, by decide +kernel, xT_t 643 (by decide +kernel) rfl⟩
abbrev mL_law : xM := (yL_law, cL_law, 3, (some .int), 2)
theorem kh_L_law : xMh mL_law [(0, 8, 11, 13)] := ⟨xT_t 952 (by decide +kernel) rfl, xT_t 0 (by decide +kernel) rfl, ⟨by decide +kernel, by decide +kernel, by decide +kernel⟩, by decide +kernel, by decide +kernel, xT_t 951 (by decide +kernel) rfl⟩
abbrev mL_run : xM := (yL_run, cL_run, 5, (some .int), 4)
theorem kh_L_run : xMh mL_run [(0, 10, 13, 24), (0, 10, 17, 26)] := ⟨xT_t 1032 (by decide +kernel) rfl, xT_t 0 (by decide +kernel) rfl, ⟨by decide +kernel, by decide +kernel, by decide +kernel⟩, by decide +kernel, by decide +kernel, xT_t 1031 (by decide +kernel) rfl⟩
abbrev mL_entry : xM := (yL_entry, cL_entry, 6, (some .int), 5)
theorem kh_L_entry : xMh mL_entry [(0, 12, 15, 24), (0, 12, 19, 26)] := ⟨xT_t 1076 (by decide +kernel) rfl, xT_t 0 (by decide +kernel) rfl, ⟨by decide +kernel, by decide +kernel, by decide +kernel⟩, by decide +kernel, by decide +kernel, xT_t 1075 (by decide +kernel) rfl⟩
abbrev mL_level : xM := (yL_level, cL_level, 5, (some .int), 4)
theorem kh_L_level : xMh mL_level [(0, 10, 13, 24), (0, 10, 17, 26)] := ⟨xT_t 1093 (by decide +kernel) rfl, xT_t 0 (by decide +kernel) rfl, ⟨by decide +kernel, by decide +kernel, by decide +kernel⟩, by decide +kernel, by decide +kernel, xT_t 1092 (by decide +kernel) rfl⟩
abbrev mL_job : xM := (yL_job, cL_job, 4, (some .int), 3)
theorem kh_L_job : xMh mL_job [(0, 9, 12, 26)] := ⟨xT_t 1104 (by decide +kernel) rfl, xT_t 0 (by decide +kernel) rfl, ⟨by decide +kernel, by decide +kernel, by decide +kernel⟩, by decide +kernel, by decide +kernel, xT_t 1103 (by decide +kernel) rfl⟩
abbrev mL_ticks : xM := (yL_ticks, cL_ticks, 4, (some .int), 3)
theorem kh_L_ticks : xMh mL_ticks [(0, 9, 12, 13)] := ⟨xT_t 1115 (by decide +kernel) rfl, xT_t 0 (by decide +kernel) rfl, ⟨by decide +kernel, by decide +kernel, by decide +kernel⟩, by decide +kernel, by decide +kernel, xT_t 1114 (by decide +kernel) rfl⟩
abbrev mL_put : xM := (yL_put, cL_put, 5, (some .int), 4)
theorem kh_L_put : xMh mL_put [(0, 10, 13, 24), (0, 10, 17, 13)] := ⟨xT_t 1132 (by decide +kernel) rfl, xT_t 0 (by decide +kernel) rfl, ⟨by decide +kernel, by decide +kernel, by decide +kernel⟩, by decide +kernel, by decide +kernel, xT_t 1131 (by decide +kernel) rfl⟩
abbrev mL_remove : xM := (yL_remove, cL_remove, 4, (some .int), 3)
theorem kh_L_remove : xMh mL_remove [(0, 9, 12, 24)] := ⟨xT_t 1143 (by decide +kernel) rfl, xT_t 0 (by decide +kernel) rfl, ⟨by decide +kernel, by decide +kernel, by decide +kernel⟩, by decide +kernel, by decide +kernel, xT_t 1142 (by decide +kernel) rfl⟩
abbrev mL_work : xM := (yL_work, cL_work, 3, (some .int), 2)
theorem kh_L_work : xMh mL_work [(0, 8, 11, 51)] := ⟨xT_t 1150 (by decide +kernel) rfl, xT_t 0 (by decide +kernel) rfl, ⟨by decide +kernel, by decide +kernel, by decide +kernel⟩, by decide +kernel, by decide +kernel, xT_t 1149 (by decide +kernel) rfl⟩
abbrev mL_halt : xM := (yL_halt, cL_halt, 3, (some .int), 2)
theorem kh_L_halt : xMh mL_halt [(0, 8, 11, 51)] := ⟨xT_t 1175 (by decide +kernel) rfl, xT_t 0 (by decide +kernel) rfl, ⟨by decide +kernel, by decide +kernel, by decide +kernel⟩, by decide +kernel, by decide +kernel, xT_t 1174 (by decide +kernel) rfl⟩
abbrev mL_flush : xM := (yL_flush, cL_flush, 3, (some .int), 2)
theorem kh_L_flush : xMh mL_flush [(0, 8, 11, 51)] := ⟨xT_t 1183 (by decide +kernel) rfl, xT_t 0 (by decide +kernel) rfl, ⟨by decide +kernel, by decide +kernel, by decide +kernel⟩, by decide +kernel, by decide +kernel, xT_t 1182 (by decide +kernel) rfl⟩
abbrev mL_tune : xM := (yL_tune, cL_tune, 5, (some .int), 4)
theorem kh_L_tune : xMh mL_tune [(0, 10, 13, 26), (0, 10, 17, 13)] := ⟨xT_t 1192 (by decide +kernel) rfl, xT_t 0 (by decide +kernel) rfl, ⟨by decide +kernel, by decide +kernel, by decide +kernel⟩, by decide +kernel, by decide +kernel, xT_t 1191 (by decide +kernel) rfl⟩
abbrev mL_get : xM := (yL_get, cL_get, 4, (some .int), 3)
theorem kh_L_get : xMh mL_get [(0, 9, 12, 24)] := ⟨xT_t 1204 (by decide +kernel) rfl, xT_t 0 (by decide +kernel) rfl, ⟨by decide +kernel, by decide +kernel, by decide +kernel⟩, by decide +kernel, by decide +kernel, xT_t 1203 (by decide +kernel) rfl⟩
abbrev mL_looks : xM := (yL_looks, cL_looks, 4, (some .int), 3)
theorem kh_L_looks : xMh mL_looks [(0, 9, 12, 24)] := ⟨xT_t 1211 (by decide +kernel) rfl, xT_t 0 (by decide +kernel) rfl, ⟨by decide +kernel, by decide +kernel, by decide +kernel⟩, by decide +kernel, by decide +kernel, xT_t 1210 (by decide +kernel) rfl⟩
abbrev mL_total : xM := (yL_total, cL_total, 5, (some .int), 4)
theorem kh_L_total : xMh mL_total [(0, 10, 13, 24), (0, 10, 17, 13)] := ⟨xT_t 1218 (by decide +kernel) rfl, xT_t 0 (by decide +kernel) rfl, ⟨by decide +kernel, by decide +kernel, by decide +kernel⟩, by decide +kernel, by decide +kernel, xT_t 1217 (by decide +kernel) rfl⟩
abbrev mL_may : xM := (yL_may, cL_may, 3, (some .int), 2)
theorem kh_L_may : xMh mL_may [(0, 8, 11, 13)] := ⟨xT_t 1225 (by decide +kernel) rfl, xT_t 0 (by decide +kernel) rfl, ⟨by decide +kernel, by decide +kernel, by decide +kernel⟩, by decide +kernel, by decide +kernel, xT_t 1224 (by decide +kernel) rfl⟩
abbrev mL_likely : xM := (yL_likely, cL_likely, 3, (some .int), 2)
theorem kh_L_likely : xMh mL_likely [(0, 8, 11, 13)] := ⟨xT_t 1244 (by decide +kernel) rfl, xT_t 0 (by decide +kernel) rfl, ⟨by decide +kernel, by decide +kernel, by decide +kernel⟩, by decide +kernel, by decide +kernel, xT_t 1243 (by decide +kernel) rfl⟩
abbrev mL_look : xM := (yL_look, cL_look, 3, (some .int), 2)
theorem kh_L_look : xMh mL_look [(0, 8, 11, 13)] := ⟨xT_t 1251 (by decide +kernel) rfl, xT_t 0 (by decide +kernel) rfl, ⟨by decide +kernel, by decide +kernel, by decide +kernel⟩, by decide +kernel, by decide +kernel, xT_t 1250 (by decide +kernel) rfl⟩
abbrev mL_pairs : xM := (yL_pairs, cL_pairs, 4, (some .int), 3)
theorem kh_L_pairs : xMh mL_pairs [(0, 9, 12, 24)] := ⟨xT_t 1268 (by decide +kernel) rfl, xT_t 0 (by decide +kernel) rfl, ⟨by decide +kernel, by decide +kernel, by decide +kernel⟩, by decide +kernel, by decide +kernel, xT_t 1267 (by decide +kernel) rfl⟩
abbrev mL_odds : xM := (yL_odds, cL_odds, 4, (some .int), 3)
theorem kh_L_odds : xMh mL_odds [(0, 9, 12, 13)] := ⟨xT_t 1295 (by decide +kernel) rfl, xT_t 0 (by decide +kernel) rfl, ⟨by decide +kernel, by decide +kernel, by decide +kernel⟩, by decide +kernel, by decide +kernel, xT_t 1294 (by decide +kernel) rfl⟩
abbrev mL_most : xM := (yL_most, cL_most, 4, (some .int), 3)
theorem kh_L_most : xMh mL_most [(0, 9, 12, 26)] := ⟨xT_t 1304 (by decide +kernel) rfl, xT_t 0 (by decide +kernel) rfl, ⟨by decide +kernel, by decide +kernel, by decide +kernel⟩, by decide +kernel, by decide +kernel, xT_t 1303 (by decide +kernel) rfl⟩
abbrev mL_ahead : xM := (yL_ahead, cL_ahead, 5, (some .int), 4)
theorem kh_L_ahead : xMh mL_ahead [(0, 10, 13, 13)] := ⟨xT_t 1311 (by decide +kernel) rfl, xT_t 0 (by decide +kernel) rfl, ⟨by decide +kernel, by decide +kernel, by decide +kernel⟩, by decide +kernel, by decide +kernel, xT_t 1310 (by decide +kernel) rfl⟩
abbrev mL_trial : xM := (yL_trial, cL_trial, 5, (some .int), 4)
theorem kh_L_trial : xMh mL_trial [(0, 10, 13, 13)] := ⟨xT_t 1321 (by decide +kernel) rfl, xT_t 0 (by decide +kernel) rfl, ⟨by decide +kernel, by decide +kernel, by decide +kernel⟩, by decide +kernel, by decide +kernel, xT_t 1320 (by decide +kernel) rfl⟩
abbrev mL_span : xM := (yL_span, cL_span, 5, (some .int), 4)
theorem kh_L_span : xMh mL_span [(0, 10, 13, 13)] := ⟨xT_t 1328 (by decide +kernel) rfl, xT_t 0 (by decide +kernel) rfl, ⟨by decide +kernel, by decide +kernel, by decide +kernel⟩, by decide +kernel, by decide +kernel, xT_t 1327 (by decide +kernel) rfl⟩
abbrev mL_led : xM := (yL_led, cL_led, 5, (some .int), 4)
theorem kh_L_led : xMh mL_led [(0, 10, 13, 26)] := ⟨xT_t 1336 (by decide +kernel) rfl, xT_t 0 (by decide +kernel) rfl, ⟨by decide +kernel, by decide +kernel, by decide +kernel⟩, by decide +kernel, by decide +kernel, xT_t 1335 (by decide +kernel) rfl⟩
abbrev mL_log : xM := (yL_log, cL_log, 5, (some .int), 4)
theorem kh_L_log : xMh mL_log [(0, 10, 13, 26)] := ⟨xT_t 1355 (by decide +kernel) rfl, xT_t 0 (by decide +kernel) rfl, ⟨by decide +kernel, by decide +kernel, by decide +kernel⟩, by decide +kernel, by decide +kernel, xT_t 1354 (by decide +kernel) rfl⟩
