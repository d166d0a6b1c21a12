/-! ===== what a throw needs, site by site (by program) ===== -/
theorem ginG {w : Cond} (h : (goodWord w && lw_tbl.any (fun v => decide (v = w))) = true) : w ∈ gGT := by
  rw [Bool.and_eq_true] at h
  obtain ⟨v, hv, e⟩ := List.any_eq_true.mp h.2
  exact List.mem_filter.mpr ⟨(of_decide_eq_true e) ▸ hv, h.1⟩
theorem gthr_ok {own : String} {ic : Nat} {cls : String} {names : List String} (h : ((vx_atS own ic cls names).filter goodWord).all (fun w => lw_tbl.any (fun v => decide (v = w))) = true) : ∀ w ∈ (vx_atS own ic cls names).filter goodWord, w ∈ gGT := fun w hw => by
  obtain ⟨v, hv, e⟩ := List.any_eq_true.mp (List.all_eq_true.mp h w hw)
  exact List.mem_filter.mpr ⟨(of_decide_eq_true e) ▸ hv, (List.mem_filter.mp hw).2⟩
theorem gthr_no {own : String} {ic : Nat} {cls : String} {names : List String} {V : gV} (h : ((vx_atS own ic cls names).filter (fun w => !goodWord w)).all (fun w => (V.2.1.map (fun q => Cond.castable q.1 q.2) ++ V.2.2.2.map Cond.declares).any (fun v => decide (v = w))) = true) : ∀ w ∈ (vx_atS own ic cls names).filter (fun w => !goodWord w), w ∈ V.2.1.map (fun q => Cond.castable q.1 q.2) ++ V.2.2.2.map Cond.declares := fun w hw => by
  obtain ⟨v, hv, e⟩ := List.any_eq_true.mp (List.all_eq_true.mp h w hw)
  exact (of_decide_eq_true e) ▸ hv
theorem gthr_ot {own : String} {ik ic : Nat} {cls : String} {names : List String} (h : (Cond.classLink own ik cls :: Cond.initialized cls :: vx_atS own ic cls names).all vx_ot = true) : ∀ w ∈ Cond.classLink own ik cls :: Cond.initialized cls :: vx_atS own ic cls names, vx_ot w = true := fun w hw => List.all_eq_true.mp h w hw
set_option maxRecDepth 100000 in
theorem tini_0 : Cond.initialized "java/lang/ArrayIndexOutOfBoundsException" ∈ gGT := ginG (by decide +kernel)
set_option maxRecDepth 100000 in
theorem tfit_0 : Bundle.fit "java/lang/ArrayIndexOutOfBoundsException" = true ∧ ∀ n ∈ ["java/lang/IndexOutOfBoundsException", "java/lang/RuntimeException", "java/lang/Exception"], Bundle.fit n = true := by decide +kernel
set_option maxRecDepth 100000 in
theorem tini_1 : Cond.initialized "java/lang/IllegalArgumentException" ∈ gGT := ginG (by decide +kernel)
set_option maxRecDepth 100000 in
theorem tfit_1 : Bundle.fit "java/lang/IllegalArgumentException" = true ∧ ∀ n ∈ ["java/lang/RuntimeException", "java/lang/Exception"], Bundle.fit n = true := by decide +kernel
set_option maxRecDepth 100000 in
theorem tini_2 : Cond.initialized "java/lang/IllegalStateException" ∈ gGT := ginG (by decide +kernel)
set_option maxRecDepth 100000 in
theorem tfit_2 : Bundle.fit "java/lang/IllegalStateException" = true ∧ ∀ n ∈ ["java/lang/RuntimeException", "java/lang/Exception"], Bundle.fit n = true := by decide +kernel
set_option maxRecDepth 100000 in
theorem tini_3 : Cond.initialized "java/lang/IndexOutOfBoundsException" ∈ gGT := ginG (by decide +kernel)
set_option maxRecDepth 100000 in
theorem tfit_3 : Bundle.fit "java/lang/IndexOutOfBoundsException" = true ∧ ∀ n ∈ ["java/lang/RuntimeException", "java/lang/Exception"], Bundle.fit n = true := by decide +kernel
set_option maxRecDepth 100000 in
theorem tini_4 : Cond.initialized "java/lang/UnsupportedOperationException" ∈ gGT := ginG (by decide +kernel)
set_option maxRecDepth 100000 in
theorem tfit_4 : Bundle.fit "java/lang/UnsupportedOperationException" = true ∧ ∀ n ∈ ["java/lang/RuntimeException", "java/lang/Exception"], Bundle.fit n = true := by decide +kernel
set_option maxRecDepth 100000 in
theorem tdc_add_13 : decode (gmB gt68) 13 = .ok (.new 51, 3) ∧ decode (gmB gt68) 16 = .ok (.dup, 1) ∧ decode (gmB gt68) 17 = .ok (.ldc 53, 2) ∧ decode (gmB gt68) 19 = .ok (.invokespecial 55, 3) ∧ decode (gmB gt68) 22 = .ok (.athrow, 1) := ⟨by decide +kernel, by decide +kernel, by decide +kernel, by decide +kernel, by decide +kernel⟩
set_option maxRecDepth 100000 in
theorem tlk_add_13 : Cond.classLink "DctFilter" 51 "java/lang/UnsupportedOperationException" ∈ gGT := ginG (by decide +kernel)
set_option maxRecDepth 100000 in
theorem tst_add_13 : ("DctFilter", 53, "there are 2,000 bytes") ∈ gVV.1 := by decide +kernel
set_option maxRecDepth 100000 in
theorem tgw_add_13 : ∀ w ∈ (vx_atS "DctFilter" 55 "java/lang/UnsupportedOperationException" ["java/lang/RuntimeException", "java/lang/Exception"]).filter goodWord, w ∈ gGT := gthr_ok (by decide +kernel)
set_option maxRecDepth 100000 in
theorem tbw_add_13 : ∀ w ∈ (vx_atS "DctFilter" 55 "java/lang/UnsupportedOperationException" ["java/lang/RuntimeException", "java/lang/Exception"]).filter (fun w => !goodWord w), w ∈ gVV.2.1.map (fun q => Cond.castable q.1 q.2) ++ gVV.2.2.2.map Cond.declares := gthr_no (by decide +kernel)
set_option maxRecDepth 100000 in
theorem tot_add_13 : ∀ w ∈ Cond.classLink "DctFilter" 51 "java/lang/UnsupportedOperationException" :: Cond.initialized "java/lang/UnsupportedOperationException" :: vx_atS "DctFilter" 55 "java/lang/UnsupportedOperationException" ["java/lang/RuntimeException", "java/lang/Exception"], vx_ot w = true := gthr_ot (by decide +kernel)
set_option maxRecDepth 100000 in
theorem tdc_sample_67 : decode (gmB gt70) 67 = .ok (.new 84, 3) ∧ decode (gmB gt70) 70 = .ok (.dup, 1) ∧ decode (gmB gt70) 71 = .ok (.ldc 86, 2) ∧ decode (gmB gt70) 73 = .ok (.invokespecial 88, 3) ∧ decode (gmB gt70) 76 = .ok (.athrow, 1) := ⟨by decide +kernel, by decide +kernel, by decide +kernel, by decide +kernel, by decide +kernel⟩
set_option maxRecDepth 100000 in
theorem tlk_sample_67 : Cond.classLink "DctFilter" 84 "java/lang/IndexOutOfBoundsException" ∈ gGT := ginG (by decide +kernel)
set_option maxRecDepth 100000 in
theorem tst_sample_67 : ("DctFilter", 86, "no such sample") ∈ gVV.1 := by decide +kernel
set_option maxRecDepth 100000 in
theorem tgw_sample_67 : ∀ w ∈ (vx_atS "DctFilter" 88 "java/lang/IndexOutOfBoundsException" ["java/lang/RuntimeException", "java/lang/Exception"]).filter goodWord, w ∈ gGT := gthr_ok (by decide +kernel)
set_option maxRecDepth 100000 in
theorem tbw_sample_67 : ∀ w ∈ (vx_atS "DctFilter" 88 "java/lang/IndexOutOfBoundsException" ["java/lang/RuntimeException", "java/lang/Exception"]).filter (fun w => !goodWord w), w ∈ gVV.2.1.map (fun q => Cond.castable q.1 q.2) ++ gVV.2.2.2.map Cond.declares := gthr_no (by decide +kernel)
set_option maxRecDepth 100000 in
theorem tot_sample_67 : ∀ w ∈ Cond.classLink "DctFilter" 84 "java/lang/IndexOutOfBoundsException" :: Cond.initialized "java/lang/IndexOutOfBoundsException" :: vx_atS "DctFilter" 88 "java/lang/IndexOutOfBoundsException" ["java/lang/RuntimeException", "java/lang/Exception"], vx_ot w = true := gthr_ot (by decide +kernel)
set_option maxRecDepth 100000 in
theorem tdc_coefficient_25 : decode (gmB gt79) 25 = .ok (.new 108, 3) ∧ decode (gmB gt79) 28 = .ok (.dup, 1) ∧ decode (gmB gt79) 29 = .ok (.ldc 110, 2) ∧ decode (gmB gt79) 31 = .ok (.invokespecial 112, 3) ∧ decode (gmB gt79) 34 = .ok (.athrow, 1) := ⟨by decide +kernel, by decide +kernel, by decide +kernel, by decide +kernel, by decide +kernel⟩
set_option maxRecDepth 100000 in
theorem tlk_coefficient_25 : Cond.classLink "DctFilter" 108 "java/lang/ArrayIndexOutOfBoundsException" ∈ gGT := ginG (by decide +kernel)
set_option maxRecDepth 100000 in
theorem tst_coefficient_25 : ("DctFilter", 110, "no such coefficient") ∈ gVV.1 := by decide +kernel
set_option maxRecDepth 100000 in
theorem tgw_coefficient_25 : ∀ w ∈ (vx_atS "DctFilter" 112 "java/lang/ArrayIndexOutOfBoundsException" ["java/lang/IndexOutOfBoundsException", "java/lang/RuntimeException", "java/lang/Exception"]).filter goodWord, w ∈ gGT := gthr_ok (by decide +kernel)
set_option maxRecDepth 100000 in
theorem tbw_coefficient_25 : ∀ w ∈ (vx_atS "DctFilter" 112 "java/lang/ArrayIndexOutOfBoundsException" ["java/lang/IndexOutOfBoundsException", "java/lang/RuntimeException", "java/lang/Exception"]).filter (fun w => !goodWord w), w ∈ gVV.2.1.map (fun q => Cond.castable q.1 q.2) ++ gVV.2.2.2.map Cond.declares := gthr_no (by decide +kernel)
set_option maxRecDepth 100000 in
theorem tot_coefficient_25 : ∀ w ∈ Cond.classLink "DctFilter" 108 "java/lang/ArrayIndexOutOfBoundsException" :: Cond.initialized "java/lang/ArrayIndexOutOfBoundsException" :: vx_atS "DctFilter" 112 "java/lang/ArrayIndexOutOfBoundsException" ["java/lang/IndexOutOfBoundsException", "java/lang/RuntimeException", "java/lang/Exception"], vx_ot w = true := gthr_ot (by decide +kernel)
set_option maxRecDepth 100000 in
theorem tdc_exact_25 : decode (gmB gt80) 25 = .ok (.new 108, 3) ∧ decode (gmB gt80) 28 = .ok (.dup, 1) ∧ decode (gmB gt80) 29 = .ok (.ldc 116, 2) ∧ decode (gmB gt80) 31 = .ok (.invokespecial 112, 3) ∧ decode (gmB gt80) 34 = .ok (.athrow, 1) := ⟨by decide +kernel, by decide +kernel, by decide +kernel, by decide +kernel, by decide +kernel⟩
set_option maxRecDepth 100000 in
theorem tlk_exact_25 : Cond.classLink "DctFilter" 108 "java/lang/ArrayIndexOutOfBoundsException" ∈ gGT := ginG (by decide +kernel)
set_option maxRecDepth 100000 in
theorem tst_exact_25 : ("DctFilter", 116, "no such point") ∈ gVV.1 := by decide +kernel
set_option maxRecDepth 100000 in
theorem tgw_exact_25 : ∀ w ∈ (vx_atS "DctFilter" 112 "java/lang/ArrayIndexOutOfBoundsException" ["java/lang/IndexOutOfBoundsException", "java/lang/RuntimeException", "java/lang/Exception"]).filter goodWord, w ∈ gGT := gthr_ok (by decide +kernel)
set_option maxRecDepth 100000 in
theorem tbw_exact_25 : ∀ w ∈ (vx_atS "DctFilter" 112 "java/lang/ArrayIndexOutOfBoundsException" ["java/lang/IndexOutOfBoundsException", "java/lang/RuntimeException", "java/lang/Exception"]).filter (fun w => !goodWord w), w ∈ gVV.2.1.map (fun q => Cond.castable q.1 q.2) ++ gVV.2.2.2.map Cond.declares := gthr_no (by decide +kernel)
set_option maxRecDepth 100000 in
theorem tot_exact_25 : ∀ w ∈ Cond.classLink "DctFilter" 108 "java/lang/ArrayIndexOutOfBoundsException" :: Cond.initialized "java/lang/ArrayIndexOutOfBoundsException" :: vx_atS "DctFilter" 112 "java/lang/ArrayIndexOutOfBoundsException" ["java/lang/IndexOutOfBoundsException", "java/lang/RuntimeException", "java/lang/Exception"], vx_ot w = true := gthr_ot (by decide +kernel)
set_option maxRecDepth 100000 in
theorem tdc_told_36 : decode (gmB gt81) 36 = .ok (.new 84, 3) ∧ decode (gmB gt81) 39 = .ok (.dup, 1) ∧ decode (gmB gt81) 40 = .ok (.ldc 122, 2) ∧ decode (gmB gt81) 42 = .ok (.invokespecial 88, 3) ∧ decode (gmB gt81) 45 = .ok (.athrow, 1) := ⟨by decide +kernel, by decide +kernel, by decide +kernel, by decide +kernel, by decide +kernel⟩
set_option maxRecDepth 100000 in
theorem tlk_told_36 : Cond.classLink "DctFilter" 84 "java/lang/IndexOutOfBoundsException" ∈ gGT := ginG (by decide +kernel)
set_option maxRecDepth 100000 in
theorem tst_told_36 : ("DctFilter", 122, "nothing is told of that") ∈ gVV.1 := by decide +kernel
set_option maxRecDepth 100000 in
theorem tgw_told_36 : ∀ w ∈ (vx_atS "DctFilter" 88 "java/lang/IndexOutOfBoundsException" ["java/lang/RuntimeException", "java/lang/Exception"]).filter goodWord, w ∈ gGT := gthr_ok (by decide +kernel)
set_option maxRecDepth 100000 in
theorem tbw_told_36 : ∀ w ∈ (vx_atS "DctFilter" 88 "java/lang/IndexOutOfBoundsException" ["java/lang/RuntimeException", "java/lang/Exception"]).filter (fun w => !goodWord w), w ∈ gVV.2.1.map (fun q => Cond.castable q.1 q.2) ++ gVV.2.2.2.map Cond.declares := gthr_no (by decide +kernel)
set_option maxRecDepth 100000 in
theorem tot_told_36 : ∀ w ∈ Cond.classLink "DctFilter" 84 "java/lang/IndexOutOfBoundsException" :: Cond.initialized "java/lang/IndexOutOfBoundsException" :: vx_atS "DctFilter" 88 "java/lang/IndexOutOfBoundsException" ["java/lang/RuntimeException", "java/lang/Exception"], vx_ot w = true := gthr_ot (by decide +kernel)
set_option maxRecDepth 100000 in
theorem tdc_table_19 : decode (gmB gt85) 19 = .ok (.new 84, 3) ∧ decode (gmB gt85) 22 = .ok (.dup, 1) ∧ decode (gmB gt85) 23 = .ok (.ldc 132, 2) ∧ decode (gmB gt85) 25 = .ok (.invokespecial 88, 3) ∧ decode (gmB gt85) 28 = .ok (.athrow, 1) := ⟨by decide +kernel, by decide +kernel, by decide +kernel, by decide +kernel, by decide +kernel⟩
set_option maxRecDepth 100000 in
theorem tlk_table_19 : Cond.classLink "DctFilter" 84 "java/lang/IndexOutOfBoundsException" ∈ gGT := ginG (by decide +kernel)
set_option maxRecDepth 100000 in
theorem tst_table_19 : ("DctFilter", 132, "no such number of a table") ∈ gVV.1 := by decide +kernel
set_option maxRecDepth 100000 in
theorem tgw_table_19 : ∀ w ∈ (vx_atS "DctFilter" 88 "java/lang/IndexOutOfBoundsException" ["java/lang/RuntimeException", "java/lang/Exception"]).filter goodWord, w ∈ gGT := gthr_ok (by decide +kernel)
set_option maxRecDepth 100000 in
theorem tbw_table_19 : ∀ w ∈ (vx_atS "DctFilter" 88 "java/lang/IndexOutOfBoundsException" ["java/lang/RuntimeException", "java/lang/Exception"]).filter (fun w => !goodWord w), w ∈ gVV.2.1.map (fun q => Cond.castable q.1 q.2) ++ gVV.2.2.2.map Cond.declares := gthr_no (by decide +kernel)
set_option maxRecDepth 100000 in
theorem tot_table_19 : ∀ w ∈ Cond.classLink "DctFilter" 84 "java/lang/IndexOutOfBoundsException" :: Cond.initialized "java/lang/IndexOutOfBoundsException" :: vx_atS "DctFilter" 88 "java/lang/IndexOutOfBoundsException" ["java/lang/RuntimeException", "java/lang/Exception"], vx_ot w = true := gthr_ot (by decide +kernel)
set_option maxRecDepth 100000 in
theorem tdc_table_46 : decode (gmB gt85) 46 = .ok (.new 134, 3) ∧ decode (gmB gt85) 49 = .ok (.dup, 1) ∧ decode (gmB gt85) 50 = .ok (.ldc 136, 2) ∧ decode (gmB gt85) 52 = .ok (.invokespecial 138, 3) ∧ decode (gmB gt85) 55 = .ok (.athrow, 1) := ⟨by decide +kernel, by decide +kernel, by decide +kernel, by decide +kernel, by decide +kernel⟩
set_option maxRecDepth 100000 in
theorem tlk_table_46 : Cond.classLink "DctFilter" 134 "java/lang/IllegalArgumentException" ∈ gGT := ginG (by decide +kernel)
set_option maxRecDepth 100000 in
theorem tst_table_46 : ("DctFilter", 136, "a number is 1 .. 255, or -1") ∈ gVV.1 := by decide +kernel
set_option maxRecDepth 100000 in
theorem tgw_table_46 : ∀ w ∈ (vx_atS "DctFilter" 138 "java/lang/IllegalArgumentException" ["java/lang/RuntimeException", "java/lang/Exception"]).filter goodWord, w ∈ gGT := gthr_ok (by decide +kernel)
set_option maxRecDepth 100000 in
theorem tbw_table_46 : ∀ w ∈ (vx_atS "DctFilter" 138 "java/lang/IllegalArgumentException" ["java/lang/RuntimeException", "java/lang/Exception"]).filter (fun w => !goodWord w), w ∈ gVV.2.1.map (fun q => Cond.castable q.1 q.2) ++ gVV.2.2.2.map Cond.declares := gthr_no (by decide +kernel)
set_option maxRecDepth 100000 in
theorem tot_table_46 : ∀ w ∈ Cond.classLink "DctFilter" 134 "java/lang/IllegalArgumentException" :: Cond.initialized "java/lang/IllegalArgumentException" :: vx_atS "DctFilter" 138 "java/lang/IllegalArgumentException" ["java/lang/RuntimeException", "java/lang/Exception"], vx_ot w = true := gthr_ot (by decide +kernel)
set_option maxRecDepth 100000 in
theorem tdc_point_20 : decode (gmB gt86) 20 = .ok (.new 84, 3) ∧ decode (gmB gt86) 23 = .ok (.dup, 1) ∧ decode (gmB gt86) 24 = .ok (.ldc 139, 2) ∧ decode (gmB gt86) 26 = .ok (.invokespecial 88, 3) ∧ decode (gmB gt86) 29 = .ok (.athrow, 1) := ⟨by decide +kernel, by decide +kernel, by decide +kernel, by decide +kernel, by decide +kernel⟩
set_option maxRecDepth 100000 in
theorem tlk_point_20 : Cond.classLink "DctFilter" 84 "java/lang/IndexOutOfBoundsException" ∈ gGT := ginG (by decide +kernel)
set_option maxRecDepth 100000 in
theorem tst_point_20 : ("DctFilter", 139, "no such point of the canvas") ∈ gVV.1 := by decide +kernel
set_option maxRecDepth 100000 in
theorem tgw_point_20 : ∀ w ∈ (vx_atS "DctFilter" 88 "java/lang/IndexOutOfBoundsException" ["java/lang/RuntimeException", "java/lang/Exception"]).filter goodWord, w ∈ gGT := gthr_ok (by decide +kernel)
set_option maxRecDepth 100000 in
theorem tbw_point_20 : ∀ w ∈ (vx_atS "DctFilter" 88 "java/lang/IndexOutOfBoundsException" ["java/lang/RuntimeException", "java/lang/Exception"]).filter (fun w => !goodWord w), w ∈ gVV.2.1.map (fun q => Cond.castable q.1 q.2) ++ gVV.2.2.2.map Cond.declares := gthr_no (by decide +kernel)
set_option maxRecDepth 100000 in
theorem tot_point_20 : ∀ w ∈ Cond.classLink "DctFilter" 84 "java/lang/IndexOutOfBoundsException" :: Cond.initialized "java/lang/IndexOutOfBoundsException" :: vx_atS "DctFilter" 88 "java/lang/IndexOutOfBoundsException" ["java/lang/RuntimeException", "java/lang/Exception"], vx_ot w = true := gthr_ot (by decide +kernel)
set_option maxRecDepth 100000 in
theorem tdc_point_41 : decode (gmB gt86) 41 = .ok (.new 134, 3) ∧ decode (gmB gt86) 44 = .ok (.dup, 1) ∧ decode (gmB gt86) 45 = .ok (.ldc 141, 2) ∧ decode (gmB gt86) 47 = .ok (.invokespecial 138, 3) ∧ decode (gmB gt86) 50 = .ok (.athrow, 1) := ⟨by decide +kernel, by decide +kernel, by decide +kernel, by decide +kernel, by decide +kernel⟩
set_option maxRecDepth 100000 in
theorem tlk_point_41 : Cond.classLink "DctFilter" 134 "java/lang/IllegalArgumentException" ∈ gGT := ginG (by decide +kernel)
set_option maxRecDepth 100000 in
theorem tst_point_41 : ("DctFilter", 141, "a point is 0 .. 255") ∈ gVV.1 := by decide +kernel
set_option maxRecDepth 100000 in
theorem tgw_point_41 : ∀ w ∈ (vx_atS "DctFilter" 138 "java/lang/IllegalArgumentException" ["java/lang/RuntimeException", "java/lang/Exception"]).filter goodWord, w ∈ gGT := gthr_ok (by decide +kernel)
set_option maxRecDepth 100000 in
theorem tbw_point_41 : ∀ w ∈ (vx_atS "DctFilter" 138 "java/lang/IllegalArgumentException" ["java/lang/RuntimeException", "java/lang/Exception"]).filter (fun w => !goodWord w), w ∈ gVV.2.1.map (fun q => Cond.castable q.1 q.2) ++ gVV.2.2.2.map Cond.declares := gthr_no (by decide +kernel)
set_option maxRecDepth 100000 in
theorem tot_point_41 : ∀ w ∈ Cond.classLink "DctFilter" 134 "java/lang/IllegalArgumentException" :: Cond.initialized "java/lang/IllegalArgumentException" :: vx_atS "DctFilter" 138 "java/lang/IllegalArgumentException" ["java/lang/RuntimeException", "java/lang/Exception"], vx_ot w = true := gthr_ot (by decide +kernel)
set_option maxRecDepth 100000 in
theorem tdc_restart_10 : decode (gmB gt88) 10 = .ok (.new 134, 3) ∧ decode (gmB gt88) 13 = .ok (.dup, 1) ∧ decode (gmB gt88) 14 = .ok (.ldc 149, 2) ∧ decode (gmB gt88) 16 = .ok (.invokespecial 138, 3) ∧ decode (gmB gt88) 19 = .ok (.athrow, 1) := ⟨by decide +kernel, by decide +kernel, by decide +kernel, by decide +kernel, by decide +kernel⟩
set_option maxRecDepth 100000 in
theorem tlk_restart_10 : Cond.classLink "DctFilter" 134 "java/lang/IllegalArgumentException" ∈ gGT := ginG (by decide +kernel)
set_option maxRecDepth 100000 in
theorem tst_restart_10 : ("DctFilter", 149, "an interval is 0 .. 100") ∈ gVV.1 := by decide +kernel
set_option maxRecDepth 100000 in
theorem tgw_restart_10 : ∀ w ∈ (vx_atS "DctFilter" 138 "java/lang/IllegalArgumentException" ["java/lang/RuntimeException", "java/lang/Exception"]).filter goodWord, w ∈ gGT := gthr_ok (by decide +kernel)
set_option maxRecDepth 100000 in
theorem tbw_restart_10 : ∀ w ∈ (vx_atS "DctFilter" 138 "java/lang/IllegalArgumentException" ["java/lang/RuntimeException", "java/lang/Exception"]).filter (fun w => !goodWord w), w ∈ gVV.2.1.map (fun q => Cond.castable q.1 q.2) ++ gVV.2.2.2.map Cond.declares := gthr_no (by decide +kernel)
set_option maxRecDepth 100000 in
theorem tot_restart_10 : ∀ w ∈ Cond.classLink "DctFilter" 134 "java/lang/IllegalArgumentException" :: Cond.initialized "java/lang/IllegalArgumentException" :: vx_atS "DctFilter" 138 "java/lang/IllegalArgumentException" ["java/lang/RuntimeException", "java/lang/Exception"], vx_ot w = true := gthr_ot (by decide +kernel)
set_option maxRecDepth 100000 in
theorem tdc_encode_11 : decode (gmB gt89) 11 = .ok (.new 134, 3) ∧ decode (gmB gt89) 14 = .ok (.dup, 1) ∧ decode (gmB gt89) 15 = .ok (.ldc 154, 2) ∧ decode (gmB gt89) 17 = .ok (.invokespecial 138, 3) ∧ decode (gmB gt89) 20 = .ok (.athrow, 1) := ⟨by decide +kernel, by decide +kernel, by decide +kernel, by decide +kernel, by decide +kernel⟩
set_option maxRecDepth 100000 in
theorem tlk_encode_11 : Cond.classLink "DctFilter" 134 "java/lang/IllegalArgumentException" ∈ gGT := ginG (by decide +kernel)
set_option maxRecDepth 100000 in
theorem tst_encode_11 : ("DctFilter", 154, "a quality is 1 .. 100") ∈ gVV.1 := by decide +kernel
set_option maxRecDepth 100000 in
theorem tgw_encode_11 : ∀ w ∈ (vx_atS "DctFilter" 138 "java/lang/IllegalArgumentException" ["java/lang/RuntimeException", "java/lang/Exception"]).filter goodWord, w ∈ gGT := gthr_ok (by decide +kernel)
set_option maxRecDepth 100000 in
theorem tbw_encode_11 : ∀ w ∈ (vx_atS "DctFilter" 138 "java/lang/IllegalArgumentException" ["java/lang/RuntimeException", "java/lang/Exception"]).filter (fun w => !goodWord w), w ∈ gVV.2.1.map (fun q => Cond.castable q.1 q.2) ++ gVV.2.2.2.map Cond.declares := gthr_no (by decide +kernel)
set_option maxRecDepth 100000 in
theorem tot_encode_11 : ∀ w ∈ Cond.classLink "DctFilter" 134 "java/lang/IllegalArgumentException" :: Cond.initialized "java/lang/IllegalArgumentException" :: vx_atS "DctFilter" 138 "java/lang/IllegalArgumentException" ["java/lang/RuntimeException", "java/lang/Exception"], vx_ot w = true := gthr_ot (by decide +kernel)
set_option maxRecDepth 100000 in
theorem tdc_encode_32 : decode (gmB gt89) 32 = .ok (.new 157, 3) ∧ decode (gmB gt89) 35 = .ok (.dup, 1) ∧ decode (gmB gt89) 36 = .ok (.ldc 159, 2) ∧ decode (gmB gt89) 38 = .ok (.invokespecial 161, 3) ∧ decode (gmB gt89) 41 = .ok (.athrow, 1) := ⟨by decide +kernel, by decide +kernel, by decide +kernel, by decide +kernel, by decide +kernel⟩
set_option maxRecDepth 100000 in
theorem tlk_encode_32 : Cond.classLink "DctFilter" 157 "java/lang/IllegalStateException" ∈ gGT := ginG (by decide +kernel)
set_option maxRecDepth 100000 in
theorem tst_encode_32 : ("DctFilter", 159, "no point was put") ∈ gVV.1 := by decide +kernel
set_option maxRecDepth 100000 in
theorem tgw_encode_32 : ∀ w ∈ (vx_atS "DctFilter" 161 "java/lang/IllegalStateException" ["java/lang/RuntimeException", "java/lang/Exception"]).filter goodWord, w ∈ gGT := gthr_ok (by decide +kernel)
set_option maxRecDepth 100000 in
theorem tbw_encode_32 : ∀ w ∈ (vx_atS "DctFilter" 161 "java/lang/IllegalStateException" ["java/lang/RuntimeException", "java/lang/Exception"]).filter (fun w => !goodWord w), w ∈ gVV.2.1.map (fun q => Cond.castable q.1 q.2) ++ gVV.2.2.2.map Cond.declares := gthr_no (by decide +kernel)
set_option maxRecDepth 100000 in
theorem tot_encode_32 : ∀ w ∈ Cond.classLink "DctFilter" 157 "java/lang/IllegalStateException" :: Cond.initialized "java/lang/IllegalStateException" :: vx_atS "DctFilter" 161 "java/lang/IllegalStateException" ["java/lang/RuntimeException", "java/lang/Exception"], vx_ot w = true := gthr_ot (by decide +kernel)
set_option maxRecDepth 100000 in
theorem tdc_octet_15 : decode (gmB gt129) 15 = .ok (.new 108, 3) ∧ decode (gmB gt129) 18 = .ok (.dup, 1) ∧ decode (gmB gt129) 19 = .ok (.ldc 206, 2) ∧ decode (gmB gt129) 21 = .ok (.invokespecial 112, 3) ∧ decode (gmB gt129) 24 = .ok (.athrow, 1) := ⟨by decide +kernel, by decide +kernel, by decide +kernel, by decide +kernel, by decide +kernel⟩
set_option maxRecDepth 100000 in
theorem tlk_octet_15 : Cond.classLink "DctFilter" 108 "java/lang/ArrayIndexOutOfBoundsException" ∈ gGT := ginG (by decide +kernel)
set_option maxRecDepth 100000 in
theorem tst_octet_15 : ("DctFilter", 206, "no such byte was written") ∈ gVV.1 := by decide +kernel
set_option maxRecDepth 100000 in
theorem tgw_octet_15 : ∀ w ∈ (vx_atS "DctFilter" 112 "java/lang/ArrayIndexOutOfBoundsException" ["java/lang/IndexOutOfBoundsException", "java/lang/RuntimeException", "java/lang/Exception"]).filter goodWord, w ∈ gGT := gthr_ok (by decide +kernel)
set_option maxRecDepth 100000 in
theorem tbw_octet_15 : ∀ w ∈ (vx_atS "DctFilter" 112 "java/lang/ArrayIndexOutOfBoundsException" ["java/lang/IndexOutOfBoundsException", "java/lang/RuntimeException", "java/lang/Exception"]).filter (fun w => !goodWord w), w ∈ gVV.2.1.map (fun q => Cond.castable q.1 q.2) ++ gVV.2.2.2.map Cond.declares := gthr_no (by decide +kernel)
set_option maxRecDepth 100000 in
theorem tot_octet_15 : ∀ w ∈ Cond.classLink "DctFilter" 108 "java/lang/ArrayIndexOutOfBoundsException" :: Cond.initialized "java/lang/ArrayIndexOutOfBoundsException" :: vx_atS "DctFilter" 112 "java/lang/ArrayIndexOutOfBoundsException" ["java/lang/IndexOutOfBoundsException", "java/lang/RuntimeException", "java/lang/Exception"], vx_ot w = true := gthr_ot (by decide +kernel)
