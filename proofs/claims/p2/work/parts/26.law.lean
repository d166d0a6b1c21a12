/-! ===== the law and its helpers: tables (by program) ===== -/
def qFL : List (Nat × Nat × Nat) := []
def qIL : List (Nat × Int32) := []
def qJL : List (Nat × Int64) := []
def qSL : List (Nat × Nat) := []
def qCL : List (Nat × (Nat ⊕ Nat)) := [(8, .inl 11), (56, .inl 12)]
def qKL : gK := (gas qFL, gas qIL, gas qJL, gas qSL, gas qCL)
def qML : List (Nat × Nat × Nat) := [(55, 2, 0), (69, 1, 7), (93, 1, 61), (107, 1, 67), (7, 1, 68), (15, 1, 70), (21, 1, 79), (27, 1, 80), (31, 1, 81), (34, 1, 85), (39, 1, 86), (42, 1, 88), (46, 1, 89), (51, 1, 129), (58, 2, 130), (65, 1, 131), (64, 1, 132), (72, 1, 133), (76, 1, 169), (80, 1, 175), (83, 1, 177), (86, 1, 178), (89, 1, 180), (92, 1, 181), (96, 1, 182), (100, 1, 183), (103, 1, 184), (106, 1, 205), (110, 1, 206)]
set_option maxRecDepth 20000 in
def qFLp : List Nat := []
set_option maxRecDepth 20000 in
theorem qFL_l : qFL.length = qFLp.length := by decide +kernel
set_option maxRecDepth 20000 in
theorem qFL_b : (qFL.zip qFLp).all (fun q => gckF gcl "DctFilterLaw" q.1 q.2) = true := by decide +kernel
set_option maxRecDepth 20000 in
def qILp : List Nat := []
set_option maxRecDepth 20000 in
theorem qIL_l : qIL.length = qILp.length := by decide +kernel
set_option maxRecDepth 20000 in
theorem qIL_b : (qIL.zip qILp).all (fun q => gpos q.2 (Cond.constant "DctFilterLaw" q.1.1 q.1.2)) = true := by decide +kernel
set_option maxRecDepth 20000 in
def qJLp : List Nat := []
set_option maxRecDepth 20000 in
theorem qJL_l : qJL.length = qJLp.length := by decide +kernel
set_option maxRecDepth 20000 in
theorem qJL_b : (qJL.zip qJLp).all (fun q => gpos q.2 (Cond.constantLong "DctFilterLaw" q.1.1 q.1.2)) = true := by decide +kernel
set_option maxRecDepth 20000 in
def qSLp : List (Nat × Nat × Bool) := []
set_option maxRecDepth 20000 in
theorem qSL_l : qSL.length = qSLp.length := by decide +kernel
set_option maxRecDepth 20000 in
theorem qSL_b : (qSL.zip qSLp).all (fun q => gckS gXX "DctFilterLaw" q.1 q.2) = true := by decide +kernel
set_option maxRecDepth 20000 in
def qCLp : List (Nat × Nat × Nat) := [(137, 138, 105), (1505, 1506, 112)]
set_option maxRecDepth 20000 in
theorem qCL_l : qCL.length = qCLp.length := by decide +kernel
set_option maxRecDepth 20000 in
theorem qCL_b : (qCL.zip qCLp).all (fun q => gckC gcl gGG gXX "DctFilterLaw" q.1 q.2) = true := by decide +kernel
set_option maxRecDepth 20000 in
def qMLp : List (Nat × Bool × Nat × Nat) := [(139, true, 140, 0), (380, true, 381, 382), (709, true, 710, 711), (1054, true, 1055, 1056), (1064, true, 1065, 1066), (1092, true, 1093, 1094), (1152, true, 1153, 1154), (1164, true, 1165, 1166), (1173, true, 1174, 1175), (1194, true, 1195, 1196), (1205, true, 1206, 1207), (1218, true, 1219, 1220), (1227, true, 1228, 1229), (1500, true, 1501, 1502), (1507, true, 1508, 0), (1745, true, 1746, 1747), (1749, true, 1750, 1751), (1753, true, 1754, 1755), (1897, true, 1898, 1899), (1926, true, 1927, 1928), (1934, true, 1935, 1936), (1938, true, 1939, 1940), (1946, true, 1947, 1948), (1950, true, 1951, 1952), (1954, true, 1955, 1956), (1958, true, 1959, 1960), (1962, true, 1963, 1964), (2048, true, 2049, 2050), (2052, true, 2053, 2054)]
set_option maxRecDepth 20000 in
theorem qML_l : qML.length = qMLp.length := by decide +kernel
set_option maxRecDepth 20000 in
theorem qML_b : (qML.zip qMLp).all (fun q => gckM gPP gcl gXX "DctFilterLaw" q.1 q.2) = true := by decide +kernel
/-- DctFilterLaw.add(LDctFilter;B)I -/
def gcLadd : List (Nat × Instr × Nat) := [(0, .aload_n 0, 1), (1, .iload_n 1, 1), (2, .invokevirtual 7, 3), (5, .goto 6, 3), (8, .astore_n 2, 1), (9, .iconst 1, 1), (10, .ireturn, 1), (11, .iconst 0, 1), (12, .ireturn, 1)]
set_option maxRecDepth 20000 in
theorem gcLadd_ok : gckD method_3_code gcLadd = true := by decide +kernel
def gtLadd (E : List Nat) : gMt := (⟨"DctFilterLaw", "add", "(LDctFilter;B)I"⟩, method_3_code, 3, (some .int), qKL, none, gcLadd, gas qML, 2, 0, E)
set_option maxRecDepth 20000 in
theorem goLadd_0 : gOk0 gPP gcl gGG gXX gGT (gtLadd []) := gok0_of (own := "DctFilterLaw") rfl rfl rfl (gckF_ok qFL_l qFL_b) (gckI_ok qIL_l qIL_b) (gckL_ok qJL_l qJL_b) (gckS_ok qSL_l qSL_b) (gckC_ok qCL_l qCL_b) (fun ci h => by have h9 : (none : Option Nat) = some ci := h; cases h9) gcLadd_ok (by decide +kernel) (gpos_in (p := 104) (by decide +kernel)) ⟨by decide +kernel, by decide +kernel, by decide +kernel⟩ (by decide +kernel) (gckM_ok qML_l qML_b) (gckM_cp qML_l qML_b gcp2 gcp3 gcp4) (gckM_ob qML_l qML_b gob2 gob3)
theorem goLadd (E : List Nat) : gOk0 gPP gcl gGG gXX gGT (gtLadd E) := goLadd_0
def ghLadd : List (Nat × Nat × Nat × Nat) := [(0, 5, 8, 13)]
theorem gwLadd (E : List Nat) : Cond.codeWith (gmN (gtLadd E)) (gmB (gtLadd E)) (gmL (gtLadd E)) (gmR (gtLadd E)) ghLadd ∈ gGT := gcode_in (gtab4 _ (List.mem_of_getElem? (i := 238) rfl)) rfl
theorem gkLadd : Cond.methodLink "DctFilterLaw" 59 ⟨"DctFilterLaw", "add", "(LDctFilter;B)I"⟩ ∈ gGT ∧ Cond.static ⟨"DctFilterLaw", "add", "(LDctFilter;B)I"⟩ ∈ gGT ∧ Cond.initialized "DctFilterLaw" ∈ gGT := ⟨gpos_in (p := 1060) (by decide +kernel), gpos_in (p := 1061) (by decide +kernel), gpos_in (p := 104) (by decide +kernel)⟩
theorem geLadd_13 : Cond.classLink "DctFilterLaw" 13 "java/lang/UnsupportedOperationException" ∈ gGT := gpos_in (p := 1063) (by decide +kernel)
/-- DctFilterLaw.sample(LDctFilter;III[J)I -/
def gcLsample : List (Nat × Instr × Nat) := [(0, .aload 4, 2), (2, .iconst 0, 1), (3, .aload_n 0, 1), (4, .iload_n 1, 1), (5, .iload_n 2, 1), (6, .iload_n 3, 1), (7, .invokevirtual 15, 3), (10, .i2l, 1), (11, .lastore, 1), (12, .goto 7, 3), (15, .astore 5, 2), (17, .iconst 1, 1), (18, .ireturn, 1), (19, .iconst 0, 1), (20, .ireturn, 1)]
set_option maxRecDepth 20000 in
theorem gcLsample_ok : gckD method_4_code gcLsample = true := by decide +kernel
def gtLsample (E : List Nat) : gMt := (⟨"DctFilterLaw", "sample", "(LDctFilter;III[J)I"⟩, method_4_code, 6, (some .int), qKL, none, gcLsample, gas qML, 5, 0, E)
set_option maxRecDepth 20000 in
theorem goLsample_0 : gOk0 gPP gcl gGG gXX gGT (gtLsample []) := gok0_of (own := "DctFilterLaw") rfl rfl rfl (gckF_ok qFL_l qFL_b) (gckI_ok qIL_l qIL_b) (gckL_ok qJL_l qJL_b) (gckS_ok qSL_l qSL_b) (gckC_ok qCL_l qCL_b) (fun ci h => by have h9 : (none : Option Nat) = some ci := h; cases h9) gcLsample_ok (by decide +kernel) (gpos_in (p := 104) (by decide +kernel)) ⟨by decide +kernel, by decide +kernel, by decide +kernel⟩ (by decide +kernel) (gckM_ok qML_l qML_b) (gckM_cp qML_l qML_b gcp2 gcp3 gcp4) (gckM_ob qML_l qML_b gob2 gob3)
theorem goLsample (E : List Nat) : gOk0 gPP gcl gGG gXX gGT (gtLsample E) := goLsample_0
def ghLsample : List (Nat × Nat × Nat × Nat) := [(0, 12, 15, 19)]
theorem gwLsample (E : List Nat) : Cond.codeWith (gmN (gtLsample E)) (gmB (gtLsample E)) (gmL (gtLsample E)) (gmR (gtLsample E)) ghLsample ∈ gGT := gcode_in (gtab5 _ (List.mem_of_getElem? (i := 26) rfl)) rfl
theorem gkLsample : Cond.methodLink "DctFilterLaw" 73 ⟨"DctFilterLaw", "sample", "(LDctFilter;III[J)I"⟩ ∈ gGT ∧ Cond.static ⟨"DctFilterLaw", "sample", "(LDctFilter;III[J)I"⟩ ∈ gGT ∧ Cond.initialized "DctFilterLaw" ∈ gGT := ⟨gpos_in (p := 1088) (by decide +kernel), gpos_in (p := 1089) (by decide +kernel), gpos_in (p := 104) (by decide +kernel)⟩
theorem geLsample_19 : Cond.classLink "DctFilterLaw" 19 "java/lang/IndexOutOfBoundsException" ∈ gGT := gpos_in (p := 1091) (by decide +kernel)
/-- DctFilterLaw.coefficient(LDctFilter;II[J)I -/
def gcLcoefficient : List (Nat × Instr × Nat) := [(0, .aload_n 3, 1), (1, .iconst 0, 1), (2, .aload_n 0, 1), (3, .iload_n 1, 1), (4, .iload_n 2, 1), (5, .invokevirtual 21, 3), (8, .i2l, 1), (9, .lastore, 1), (10, .goto 7, 3), (13, .astore 4, 2), (15, .iconst 1, 1), (16, .ireturn, 1), (17, .iconst 0, 1), (18, .ireturn, 1)]
set_option maxRecDepth 20000 in
theorem gcLcoefficient_ok : gckD method_5_code gcLcoefficient = true := by decide +kernel
def gtLcoefficient (E : List Nat) : gMt := (⟨"DctFilterLaw", "coefficient", "(LDctFilter;II[J)I"⟩, method_5_code, 5, (some .int), qKL, none, gcLcoefficient, gas qML, 4, 0, E)
set_option maxRecDepth 20000 in
theorem goLcoefficient_0 : gOk0 gPP gcl gGG gXX gGT (gtLcoefficient []) := gok0_of (own := "DctFilterLaw") rfl rfl rfl (gckF_ok qFL_l qFL_b) (gckI_ok qIL_l qIL_b) (gckL_ok qJL_l qJL_b) (gckS_ok qSL_l qSL_b) (gckC_ok qCL_l qCL_b) (fun ci h => by have h9 : (none : Option Nat) = some ci := h; cases h9) gcLcoefficient_ok (by decide +kernel) (gpos_in (p := 104) (by decide +kernel)) ⟨by decide +kernel, by decide +kernel, by decide +kernel⟩ (by decide +kernel) (gckM_ok qML_l qML_b) (gckM_cp qML_l qML_b gcp2 gcp3 gcp4) (gckM_ob qML_l qML_b gob2 gob3)
theorem goLcoefficient (E : List Nat) : gOk0 gPP gcl gGG gXX gGT (gtLcoefficient E) := goLcoefficient_0
def ghLcoefficient : List (Nat × Nat × Nat × Nat) := [(0, 10, 13, 25)]
theorem gwLcoefficient (E : List Nat) : Cond.codeWith (gmN (gtLcoefficient E)) (gmB (gtLcoefficient E)) (gmL (gtLcoefficient E)) (gmR (gtLcoefficient E)) ghLcoefficient ∈ gGT := gcode_in (gtab5 _ (List.mem_of_getElem? (i := 86) rfl)) rfl
theorem gkLcoefficient : Cond.methodLink "DctFilterLaw" 77 ⟨"DctFilterLaw", "coefficient", "(LDctFilter;II[J)I"⟩ ∈ gGT ∧ Cond.static ⟨"DctFilterLaw", "coefficient", "(LDctFilter;II[J)I"⟩ ∈ gGT ∧ Cond.initialized "DctFilterLaw" ∈ gGT := ⟨gpos_in (p := 1148) (by decide +kernel), gpos_in (p := 1149) (by decide +kernel), gpos_in (p := 104) (by decide +kernel)⟩
theorem geLcoefficient_25 : Cond.classLink "DctFilterLaw" 25 "java/lang/ArrayIndexOutOfBoundsException" ∈ gGT := gpos_in (p := 1151) (by decide +kernel)
/-- DctFilterLaw.exact(LDctFilter;II[J)I -/
def gcLexact : List (Nat × Instr × Nat) := [(0, .aload_n 3, 1), (1, .iconst 0, 1), (2, .aload_n 0, 1), (3, .iload_n 1, 1), (4, .iload_n 2, 1), (5, .invokevirtual 27, 3), (8, .lastore, 1), (9, .goto 7, 3), (12, .astore 4, 2), (14, .iconst 1, 1), (15, .ireturn, 1), (16, .iconst 0, 1), (17, .ireturn, 1)]
set_option maxRecDepth 20000 in
theorem gcLexact_ok : gckD method_6_code gcLexact = true := by decide +kernel
def gtLexact (E : List Nat) : gMt := (⟨"DctFilterLaw", "exact", "(LDctFilter;II[J)I"⟩, method_6_code, 5, (some .int), qKL, none, gcLexact, gas qML, 4, 0, E)
set_option maxRecDepth 20000 in
theorem goLexact_0 : gOk0 gPP gcl gGG gXX gGT (gtLexact []) := gok0_of (own := "DctFilterLaw") rfl rfl rfl (gckF_ok qFL_l qFL_b) (gckI_ok qIL_l qIL_b) (gckL_ok qJL_l qJL_b) (gckS_ok qSL_l qSL_b) (gckC_ok qCL_l qCL_b) (fun ci h => by have h9 : (none : Option Nat) = some ci := h; cases h9) gcLexact_ok (by decide +kernel) (gpos_in (p := 104) (by decide +kernel)) ⟨by decide +kernel, by decide +kernel, by decide +kernel⟩ (by decide +kernel) (gckM_ok qML_l qML_b) (gckM_cp qML_l qML_b gcp2 gcp3 gcp4) (gckM_ob qML_l qML_b gob2 gob3)
theorem goLexact (E : List Nat) : gOk0 gPP gcl gGG gXX gGT (gtLexact E) := goLexact_0
def ghLexact : List (Nat × Nat × Nat × Nat) := [(0, 9, 12, 25)]
theorem gwLexact (E : List Nat) : Cond.codeWith (gmN (gtLexact E)) (gmB (gtLexact E)) (gmL (gtLexact E)) (gmR (gtLexact E)) ghLexact ∈ gGT := gcode_in (gtab5 _ (List.mem_of_getElem? (i := 99) rfl)) rfl
theorem gkLexact : Cond.methodLink "DctFilterLaw" 81 ⟨"DctFilterLaw", "exact", "(LDctFilter;II[J)I"⟩ ∈ gGT ∧ Cond.static ⟨"DctFilterLaw", "exact", "(LDctFilter;II[J)I"⟩ ∈ gGT ∧ Cond.initialized "DctFilterLaw" ∈ gGT := ⟨gpos_in (p := 1161) (by decide +kernel), gpos_in (p := 1162) (by decide +kernel), gpos_in (p := 104) (by decide +kernel)⟩
theorem geLexact_25 : Cond.classLink "DctFilterLaw" 25 "java/lang/ArrayIndexOutOfBoundsException" ∈ gGT := gpos_in (p := 1151) (by decide +kernel)
/-- DctFilterLaw.told(LDctFilter;II[J)I -/
def gcLtold : List (Nat × Instr × Nat) := [(0, .aload_n 3, 1), (1, .iconst 0, 1), (2, .aload_n 0, 1), (3, .iload_n 1, 1), (4, .iload_n 2, 1), (5, .invokevirtual 31, 3), (8, .i2l, 1), (9, .lastore, 1), (10, .goto 7, 3), (13, .astore 4, 2), (15, .iconst 1, 1), (16, .ireturn, 1), (17, .iconst 0, 1), (18, .ireturn, 1)]
set_option maxRecDepth 20000 in
theorem gcLtold_ok : gckD method_7_code gcLtold = true := by decide +kernel
def gtLtold (E : List Nat) : gMt := (⟨"DctFilterLaw", "told", "(LDctFilter;II[J)I"⟩, method_7_code, 5, (some .int), qKL, none, gcLtold, gas qML, 4, 0, E)
set_option maxRecDepth 20000 in
theorem goLtold_0 : gOk0 gPP gcl gGG gXX gGT (gtLtold []) := gok0_of (own := "DctFilterLaw") rfl rfl rfl (gckF_ok qFL_l qFL_b) (gckI_ok qIL_l qIL_b) (gckL_ok qJL_l qJL_b) (gckS_ok qSL_l qSL_b) (gckC_ok qCL_l qCL_b) (fun ci h => by have h9 : (none : Option Nat) = some ci := h; cases h9) gcLtold_ok (by decide +kernel) (gpos_in (p := 104) (by decide +kernel)) ⟨by decide +kernel, by decide +kernel, by decide +kernel⟩ (by decide +kernel) (gckM_ok qML_l qML_b) (gckM_cp qML_l qML_b gcp2 gcp3 gcp4) (gckM_ob qML_l qML_b gob2 gob3)
theorem goLtold (E : List Nat) : gOk0 gPP gcl gGG gXX gGT (gtLtold E) := goLtold_0
def ghLtold : List (Nat × Nat × Nat × Nat) := [(0, 10, 13, 19)]
theorem gwLtold (E : List Nat) : Cond.codeWith (gmN (gtLtold E)) (gmB (gtLtold E)) (gmL (gtLtold E)) (gmR (gtLtold E)) ghLtold ∈ gGT := gcode_in (gtab5 _ (List.mem_of_getElem? (i := 108) rfl)) rfl
theorem gkLtold : Cond.methodLink "DctFilterLaw" 84 ⟨"DctFilterLaw", "told", "(LDctFilter;II[J)I"⟩ ∈ gGT ∧ Cond.static ⟨"DctFilterLaw", "told", "(LDctFilter;II[J)I"⟩ ∈ gGT ∧ Cond.initialized "DctFilterLaw" ∈ gGT := ⟨gpos_in (p := 1170) (by decide +kernel), gpos_in (p := 1171) (by decide +kernel), gpos_in (p := 104) (by decide +kernel)⟩
theorem geLtold_19 : Cond.classLink "DctFilterLaw" 19 "java/lang/IndexOutOfBoundsException" ∈ gGT := gpos_in (p := 1091) (by decide +kernel)
/-- DctFilterLaw.table(LDctFilter;III[J)I -/
def gcLtable : List (Nat × Instr × Nat) := [(0, .aload 4, 2), (2, .iconst 0, 1), (3, .aload_n 0, 1), (4, .iload_n 1, 1), (5, .iload_n 2, 1), (6, .iload_n 3, 1), (7, .invokevirtual 34, 3), (10, .i2l, 1), (11, .lastore, 1), (12, .goto 11, 3), (15, .astore 5, 2), (17, .iconst 1, 1), (18, .ireturn, 1), (19, .astore 5, 2), (21, .iconst 2, 1), (22, .ireturn, 1), (23, .iconst 0, 1), (24, .ireturn, 1)]
set_option maxRecDepth 20000 in
theorem gcLtable_ok : gckD method_8_code gcLtable = true := by decide +kernel
def gtLtable (E : List Nat) : gMt := (⟨"DctFilterLaw", "table", "(LDctFilter;III[J)I"⟩, method_8_code, 6, (some .int), qKL, none, gcLtable, gas qML, 5, 0, E)
set_option maxRecDepth 20000 in
theorem goLtable_0 : gOk0 gPP gcl gGG gXX gGT (gtLtable []) := gok0_of (own := "DctFilterLaw") rfl rfl rfl (gckF_ok qFL_l qFL_b) (gckI_ok qIL_l qIL_b) (gckL_ok qJL_l qJL_b) (gckS_ok qSL_l qSL_b) (gckC_ok qCL_l qCL_b) (fun ci h => by have h9 : (none : Option Nat) = some ci := h; cases h9) gcLtable_ok (by decide +kernel) (gpos_in (p := 104) (by decide +kernel)) ⟨by decide +kernel, by decide +kernel, by decide +kernel⟩ (by decide +kernel) (gckM_ok qML_l qML_b) (gckM_cp qML_l qML_b gcp2 gcp3 gcp4) (gckM_ob qML_l qML_b gob2 gob3)
theorem goLtable (E : List Nat) : gOk0 gPP gcl gGG gXX gGT (gtLtable E) := goLtable_0
def ghLtable : List (Nat × Nat × Nat × Nat) := [(0, 12, 15, 19), (0, 12, 19, 37)]
theorem gwLtable (E : List Nat) : Cond.codeWith (gmN (gtLtable E)) (gmB (gtLtable E)) (gmL (gtLtable E)) (gmR (gtLtable E)) ghLtable ∈ gGT := gcode_in (gtab5 _ (List.mem_of_getElem? (i := 128) rfl)) rfl
theorem gkLtable : Cond.methodLink "DctFilterLaw" 87 ⟨"DctFilterLaw", "table", "(LDctFilter;III[J)I"⟩ ∈ gGT ∧ Cond.static ⟨"DctFilterLaw", "table", "(LDctFilter;III[J)I"⟩ ∈ gGT ∧ Cond.initialized "DctFilterLaw" ∈ gGT := ⟨gpos_in (p := 1190) (by decide +kernel), gpos_in (p := 1191) (by decide +kernel), gpos_in (p := 104) (by decide +kernel)⟩
theorem geLtable_19 : Cond.classLink "DctFilterLaw" 19 "java/lang/IndexOutOfBoundsException" ∈ gGT := gpos_in (p := 1091) (by decide +kernel)
theorem geLtable_37 : Cond.classLink "DctFilterLaw" 37 "java/lang/IllegalArgumentException" ∈ gGT := gpos_in (p := 1193) (by decide +kernel)
/-- DctFilterLaw.point(LDctFilter;III[J)I -/
def gcLpoint : List (Nat × Instr × Nat) := [(0, .aload 4, 2), (2, .iconst 0, 1), (3, .aload_n 0, 1), (4, .iload_n 1, 1), (5, .iload_n 2, 1), (6, .iload_n 3, 1), (7, .invokevirtual 39, 3), (10, .i2l, 1), (11, .lastore, 1), (12, .goto 11, 3), (15, .astore 5, 2), (17, .iconst 1, 1), (18, .ireturn, 1), (19, .astore 5, 2), (21, .iconst 2, 1), (22, .ireturn, 1), (23, .iconst 0, 1), (24, .ireturn, 1)]
set_option maxRecDepth 20000 in
theorem gcLpoint_ok : gckD method_9_code gcLpoint = true := by decide +kernel
def gtLpoint (E : List Nat) : gMt := (⟨"DctFilterLaw", "point", "(LDctFilter;III[J)I"⟩, method_9_code, 6, (some .int), qKL, none, gcLpoint, gas qML, 5, 0, E)
set_option maxRecDepth 20000 in
theorem goLpoint_0 : gOk0 gPP gcl gGG gXX gGT (gtLpoint []) := gok0_of (own := "DctFilterLaw") rfl rfl rfl (gckF_ok qFL_l qFL_b) (gckI_ok qIL_l qIL_b) (gckL_ok qJL_l qJL_b) (gckS_ok qSL_l qSL_b) (gckC_ok qCL_l qCL_b) (fun ci h => by have h9 : (none : Option Nat) = some ci := h; cases h9) gcLpoint_ok (by decide +kernel) (gpos_in (p := 104) (by decide +kernel)) ⟨by decide +kernel, by decide +kernel, by decide +kernel⟩ (by decide +kernel) (gckM_ok qML_l qML_b) (gckM_cp qML_l qML_b gcp2 gcp3 gcp4) (gckM_ob qML_l qML_b gob2 gob3)
theorem goLpoint (E : List Nat) : gOk0 gPP gcl gGG gXX gGT (gtLpoint E) := goLpoint_0
def ghLpoint : List (Nat × Nat × Nat × Nat) := [(0, 12, 15, 19), (0, 12, 19, 37)]
theorem gwLpoint (E : List Nat) : Cond.codeWith (gmN (gtLpoint E)) (gmB (gtLpoint E)) (gmL (gtLpoint E)) (gmR (gtLpoint E)) ghLpoint ∈ gGT := gcode_in (gtab5 _ (List.mem_of_getElem? (i := 140) rfl)) rfl
theorem gkLpoint : Cond.methodLink "DctFilterLaw" 90 ⟨"DctFilterLaw", "point", "(LDctFilter;III[J)I"⟩ ∈ gGT ∧ Cond.static ⟨"DctFilterLaw", "point", "(LDctFilter;III[J)I"⟩ ∈ gGT ∧ Cond.initialized "DctFilterLaw" ∈ gGT := ⟨gpos_in (p := 1202) (by decide +kernel), gpos_in (p := 1203) (by decide +kernel), gpos_in (p := 104) (by decide +kernel)⟩
theorem geLpoint_19 : Cond.classLink "DctFilterLaw" 19 "java/lang/IndexOutOfBoundsException" ∈ gGT := gpos_in (p := 1091) (by decide +kernel)
theorem geLpoint_37 : Cond.classLink "DctFilterLaw" 37 "java/lang/IllegalArgumentException" ∈ gGT := gpos_in (p := 1193) (by decide +kernel)
/-- DctFilterLaw.restart(LDctFilter;I[J)I -/
def gcLrestart : List (Nat × Instr × Nat) := [(0, .aload_n 2, 1), (1, .iconst 0, 1), (2, .aload_n 0, 1), (3, .iload_n 1, 1), (4, .invokevirtual 42, 3), (7, .i2l, 1), (8, .lastore, 1), (9, .goto 6, 3), (12, .astore_n 3, 1), (13, .iconst 1, 1), (14, .ireturn, 1), (15, .iconst 0, 1), (16, .ireturn, 1)]
set_option maxRecDepth 20000 in
theorem gcLrestart_ok : gckD method_10_code gcLrestart = true := by decide +kernel
def gtLrestart (E : List Nat) : gMt := (⟨"DctFilterLaw", "restart", "(LDctFilter;I[J)I"⟩, method_10_code, 4, (some .int), qKL, none, gcLrestart, gas qML, 3, 0, E)
set_option maxRecDepth 20000 in
theorem goLrestart_0 : gOk0 gPP gcl gGG gXX gGT (gtLrestart []) := gok0_of (own := "DctFilterLaw") rfl rfl rfl (gckF_ok qFL_l qFL_b) (gckI_ok qIL_l qIL_b) (gckL_ok qJL_l qJL_b) (gckS_ok qSL_l qSL_b) (gckC_ok qCL_l qCL_b) (fun ci h => by have h9 : (none : Option Nat) = some ci := h; cases h9) gcLrestart_ok (by decide +kernel) (gpos_in (p := 104) (by decide +kernel)) ⟨by decide +kernel, by decide +kernel, by decide +kernel⟩ (by decide +kernel) (gckM_ok qML_l qML_b) (gckM_cp qML_l qML_b gcp2 gcp3 gcp4) (gckM_ob qML_l qML_b gob2 gob3)
theorem goLrestart (E : List Nat) : gOk0 gPP gcl gGG gXX gGT (gtLrestart E) := goLrestart_0
def ghLrestart : List (Nat × Nat × Nat × Nat) := [(0, 9, 12, 37)]
theorem gwLrestart (E : List Nat) : Cond.codeWith (gmN (gtLrestart E)) (gmB (gtLrestart E)) (gmL (gtLrestart E)) (gmR (gtLrestart E)) ghLrestart ∈ gGT := gcode_in (gtab5 _ (List.mem_of_getElem? (i := 153) rfl)) rfl
theorem gkLrestart : Cond.methodLink "DctFilterLaw" 97 ⟨"DctFilterLaw", "restart", "(LDctFilter;I[J)I"⟩ ∈ gGT ∧ Cond.static ⟨"DctFilterLaw", "restart", "(LDctFilter;I[J)I"⟩ ∈ gGT ∧ Cond.initialized "DctFilterLaw" ∈ gGT := ⟨gpos_in (p := 1215) (by decide +kernel), gpos_in (p := 1216) (by decide +kernel), gpos_in (p := 104) (by decide +kernel)⟩
theorem geLrestart_37 : Cond.classLink "DctFilterLaw" 37 "java/lang/IllegalArgumentException" ∈ gGT := gpos_in (p := 1193) (by decide +kernel)
/-- DctFilterLaw.encode(LDctFilter;I[J)I -/
def gcLencode : List (Nat × Instr × Nat) := [(0, .aload_n 2, 1), (1, .iconst 0, 1), (2, .aload_n 0, 1), (3, .iload_n 1, 1), (4, .invokevirtual 46, 3), (7, .i2l, 1), (8, .lastore, 1), (9, .goto 9, 3), (12, .astore_n 3, 1), (13, .iconst 1, 1), (14, .ireturn, 1), (15, .astore_n 3, 1), (16, .iconst 2, 1), (17, .ireturn, 1), (18, .iconst 0, 1), (19, .ireturn, 1)]
set_option maxRecDepth 20000 in
theorem gcLencode_ok : gckD method_11_code gcLencode = true := by decide +kernel
def gtLencode (E : List Nat) : gMt := (⟨"DctFilterLaw", "encode", "(LDctFilter;I[J)I"⟩, method_11_code, 4, (some .int), qKL, none, gcLencode, gas qML, 3, 0, E)
set_option maxRecDepth 20000 in
theorem goLencode_0 : gOk0 gPP gcl gGG gXX gGT (gtLencode []) := gok0_of (own := "DctFilterLaw") rfl rfl rfl (gckF_ok qFL_l qFL_b) (gckI_ok qIL_l qIL_b) (gckL_ok qJL_l qJL_b) (gckS_ok qSL_l qSL_b) (gckC_ok qCL_l qCL_b) (fun ci h => by have h9 : (none : Option Nat) = some ci := h; cases h9) gcLencode_ok (by decide +kernel) (gpos_in (p := 104) (by decide +kernel)) ⟨by decide +kernel, by decide +kernel, by decide +kernel⟩ (by decide +kernel) (gckM_ok qML_l qML_b) (gckM_cp qML_l qML_b gcp2 gcp3 gcp4) (gckM_ob qML_l qML_b gob2 gob3)
theorem goLencode (E : List Nat) : gOk0 gPP gcl gGG gXX gGT (gtLencode E) := goLencode_0
def ghLencode : List (Nat × Nat × Nat × Nat) := [(0, 9, 12, 37), (0, 9, 15, 49)]
theorem gwLencode (E : List Nat) : Cond.codeWith (gmN (gtLencode E)) (gmB (gtLencode E)) (gmL (gtLencode E)) (gmR (gtLencode E)) ghLencode ∈ gGT := gcode_in (gtab5 _ (List.mem_of_getElem? (i := 161) rfl)) rfl
theorem gkLencode : Cond.methodLink "DctFilterLaw" 101 ⟨"DctFilterLaw", "encode", "(LDctFilter;I[J)I"⟩ ∈ gGT ∧ Cond.static ⟨"DctFilterLaw", "encode", "(LDctFilter;I[J)I"⟩ ∈ gGT ∧ Cond.initialized "DctFilterLaw" ∈ gGT := ⟨gpos_in (p := 1223) (by decide +kernel), gpos_in (p := 1224) (by decide +kernel), gpos_in (p := 104) (by decide +kernel)⟩
theorem geLencode_37 : Cond.classLink "DctFilterLaw" 37 "java/lang/IllegalArgumentException" ∈ gGT := gpos_in (p := 1193) (by decide +kernel)
theorem geLencode_49 : Cond.classLink "DctFilterLaw" 49 "java/lang/IllegalStateException" ∈ gGT := gpos_in (p := 1226) (by decide +kernel)
/-- DctFilterLaw.octet(LDctFilter;I[J)I -/
def gcLoctet : List (Nat × Instr × Nat) := [(0, .aload_n 2, 1), (1, .iconst 0, 1), (2, .aload_n 0, 1), (3, .iload_n 1, 1), (4, .invokevirtual 51, 3), (7, .i2l, 1), (8, .lastore, 1), (9, .goto 6, 3), (12, .astore_n 3, 1), (13, .iconst 1, 1), (14, .ireturn, 1), (15, .iconst 0, 1), (16, .ireturn, 1)]
set_option maxRecDepth 20000 in
theorem gcLoctet_ok : gckD method_12_code gcLoctet = true := by decide +kernel
def gtLoctet (E : List Nat) : gMt := (⟨"DctFilterLaw", "octet", "(LDctFilter;I[J)I"⟩, method_12_code, 4, (some .int), qKL, none, gcLoctet, gas qML, 3, 0, E)
set_option maxRecDepth 20000 in
theorem goLoctet_0 : gOk0 gPP gcl gGG gXX gGT (gtLoctet []) := gok0_of (own := "DctFilterLaw") rfl rfl rfl (gckF_ok qFL_l qFL_b) (gckI_ok qIL_l qIL_b) (gckL_ok qJL_l qJL_b) (gckS_ok qSL_l qSL_b) (gckC_ok qCL_l qCL_b) (fun ci h => by have h9 : (none : Option Nat) = some ci := h; cases h9) gcLoctet_ok (by decide +kernel) (gpos_in (p := 104) (by decide +kernel)) ⟨by decide +kernel, by decide +kernel, by decide +kernel⟩ (by decide +kernel) (gckM_ok qML_l qML_b) (gckM_cp qML_l qML_b gcp2 gcp3 gcp4) (gckM_ob qML_l qML_b gob2 gob3)
theorem goLoctet (E : List Nat) : gOk0 gPP gcl gGG gXX gGT (gtLoctet E) := goLoctet_0
def ghLoctet : List (Nat × Nat × Nat × Nat) := [(0, 9, 12, 25)]
theorem gwLoctet (E : List Nat) : Cond.codeWith (gmN (gtLoctet E)) (gmB (gtLoctet E)) (gmL (gtLoctet E)) (gmR (gtLoctet E)) ghLoctet ∈ gGT := gcode_in (gtab6 _ (List.mem_of_getElem? (i := 195) rfl)) rfl
theorem gkLoctet : Cond.methodLink "DctFilterLaw" 104 ⟨"DctFilterLaw", "octet", "(LDctFilter;I[J)I"⟩ ∈ gGT ∧ Cond.static ⟨"DctFilterLaw", "octet", "(LDctFilter;I[J)I"⟩ ∈ gGT ∧ Cond.initialized "DctFilterLaw" ∈ gGT := ⟨gpos_in (p := 1497) (by decide +kernel), gpos_in (p := 1498) (by decide +kernel), gpos_in (p := 104) (by decide +kernel)⟩
theorem geLoctet_25 : Cond.classLink "DctFilterLaw" 25 "java/lang/ArrayIndexOutOfBoundsException" ∈ gGT := gpos_in (p := 1151) (by decide +kernel)
/-- DctFilterLaw.law([I)Z -/
def gcLlaw : List (Nat × Instr × Nat) := [(0, .new 8, 3), (3, .dup, 1), (4, .invokespecial 55, 3), (7, .astore_n 1, 1), (8, .new 56, 3), (11, .dup, 1), (12, .invokespecial 58, 3), (15, .astore_n 2, 1), (16, .iconst 1, 1), (17, .newarray .long, 2), (19, .astore_n 3, 1), (20, .iconst 0, 1), (21, .istore 4, 2), (23, .iload 4, 2), (25, .aload_n 0, 1), (26, .arraylength, 1), (27, .iconst 4, 1), (28, .isub, 1), (29, .if_icmp .gt 554, 3), (32, .aload_n 0, 1), (33, .iload 4, 2), (35, .iaload, 1), (36, .bipush 15, 2), (38, .iand, 1), (39, .tableswitch 538 0 12 #[65, 103, 116, 168, 208, 248, 288, 340, 392, 441, 469, 497, 525], 65), (104, .aload_n 1, 1), (105, .aload_n 0, 1), (106, .iload 4, 2), (108, .iconst 1, 1), (109, .iadd, 1), (110, .iaload, 1), (111, .i2b, 1), (112, .invokestatic 59, 3), (115, .istore 5, 2), (117, .aload_n 2, 1), (118, .aload_n 0, 1), (119, .iload 4, 2), (121, .iconst 1, 1), (122, .iadd, 1), (123, .iaload, 1), (124, .i2b, 1), (125, .invokevirtual 64, 3), (128, .aload_n 2, 1), (129, .invokevirtual 65, 3), (132, .iload 5, 2), (134, .if_icmp .eq 5, 3), (137, .iconst 0, 1), (138, .ireturn, 1), (139, .goto 438, 3), (142, .aload_n 1, 1), (143, .invokevirtual 69, 3), (146, .pop, 1), (147, .aload_n 2, 1), (148, .invokevirtual 72, 3), (151, .pop, 1), (152, .goto 425, 3), (155, .aload_n 1, 1), (156, .aload_n 0, 1), (157, .iload 4, 2), (159, .iconst 1, 1), (160, .iadd, 1), (161, .iaload, 1), (162, .aload_n 0, 1), (163, .iload 4, 2), (165, .iconst 2, 1), (166, .iadd, 1), (167, .iaload, 1), (168, .aload_n 0, 1), (169, .iload 4, 2), (171, .iconst 3, 1), (172, .iadd, 1), (173, .iaload, 1), (174, .aload_n 3, 1), (175, .invokestatic 73, 3), (178, .istore 5, 2), (180, .aload_n 2, 1), (181, .aload_n 0, 1), (182, .iload 4, 2), (184, .iconst 1, 1), (185, .iadd, 1), (186, .iaload, 1), (187, .aload_n 0, 1), (188, .iload 4, 2), (190, .iconst 2, 1), (191, .iadd, 1), (192, .iaload, 1), (193, .aload_n 0, 1), (194, .iload 4, 2), (196, .iconst 3, 1), (197, .iadd, 1), (198, .iaload, 1), (199, .invokevirtual 76, 3), (202, .istore 6, 2), (204, .goto 373, 3), (207, .aload_n 1, 1), (208, .aload_n 0, 1), (209, .iload 4, 2), (211, .iconst 1, 1), (212, .iadd, 1), (213, .iaload, 1), (214, .aload_n 0, 1), (215, .iload 4, 2), (217, .iconst 2, 1), (218, .iadd, 1), (219, .iaload, 1), (220, .aload_n 3, 1), (221, .invokestatic 77, 3), (224, .istore 5, 2), (226, .aload_n 2, 1), (227, .aload_n 0, 1), (228, .iload 4, 2), (230, .iconst 1, 1), (231, .iadd, 1), (232, .iaload, 1), (233, .aload_n 0, 1), (234, .iload 4, 2), (236, .iconst 2, 1), (237, .iadd, 1), (238, .iaload, 1), (239, .invokevirtual 80, 3), (242, .istore 6, 2), (244, .goto 333, 3), (247, .aload_n 1, 1), (248, .aload_n 0, 1), (249, .iload 4, 2), (251, .iconst 1, 1), (252, .iadd, 1), (253, .iaload, 1), (254, .aload_n 0, 1), (255, .iload 4, 2), (257, .iconst 2, 1), (258, .iadd, 1), (259, .iaload, 1), (260, .aload_n 3, 1), (261, .invokestatic 81, 3), (264, .istore 5, 2), (266, .aload_n 2, 1), (267, .aload_n 0, 1), (268, .iload 4, 2), (270, .iconst 1, 1), (271, .iadd, 1), (272, .iaload, 1), (273, .aload_n 0, 1), (274, .iload 4, 2), (276, .iconst 2, 1), (277, .iadd, 1), (278, .iaload, 1), (279, .invokevirtual 83, 3), (282, .lstore 6, 2), (284, .goto 293, 3), (287, .aload_n 1, 1), (288, .aload_n 0, 1), (289, .iload 4, 2), (291, .iconst 1, 1), (292, .iadd, 1), (293, .iaload, 1), (294, .aload_n 0, 1), (295, .iload 4, 2), (297, .iconst 2, 1), (298, .iadd, 1), (299, .iaload, 1), (300, .aload_n 3, 1), (301, .invokestatic 84, 3), (304, .istore 5, 2), (306, .aload_n 2, 1), (307, .aload_n 0, 1), (308, .iload 4, 2), (310, .iconst 1, 1), (311, .iadd, 1), (312, .iaload, 1), (313, .aload_n 0, 1), (314, .iload 4, 2), (316, .iconst 2, 1), (317, .iadd, 1), (318, .iaload, 1), (319, .invokevirtual 86, 3), (322, .istore 6, 2), (324, .goto 253, 3), (327, .aload_n 1, 1), (328, .aload_n 0, 1), (329, .iload 4, 2), (331, .iconst 1, 1), (332, .iadd, 1), (333, .iaload, 1), (334, .aload_n 0, 1), (335, .iload 4, 2), (337, .iconst 2, 1), (338, .iadd, 1), (339, .iaload, 1), (340, .aload_n 0, 1), (341, .iload 4, 2), (343, .iconst 3, 1), (344, .iadd, 1), (345, .iaload, 1), (346, .aload_n 3, 1), (347, .invokestatic 87, 3), (350, .istore 5, 2), (352, .aload_n 2, 1), (353, .aload_n 0, 1), (354, .iload 4, 2), (356, .iconst 1, 1), (357, .iadd, 1), (358, .iaload, 1), (359, .aload_n 0, 1), (360, .iload 4, 2), (362, .iconst 2, 1), (363, .iadd, 1), (364, .iaload, 1), (365, .aload_n 0, 1), (366, .iload 4, 2), (368, .iconst 3, 1), (369, .iadd, 1), (370, .iaload, 1), (371, .invokevirtual 89, 3), (374, .istore 6, 2), (376, .goto 201, 3), (379, .aload_n 1, 1), (380, .aload_n 0, 1), (381, .iload 4, 2), (383, .iconst 1, 1), (384, .iadd, 1), (385, .iaload, 1), (386, .aload_n 0, 1), (387, .iload 4, 2), (389, .iconst 2, 1), (390, .iadd, 1), (391, .iaload, 1), (392, .aload_n 0, 1), (393, .iload 4, 2), (395, .iconst 3, 1), (396, .iadd, 1), (397, .iaload, 1), (398, .aload_n 3, 1), (399, .invokestatic 90, 3), (402, .istore 5, 2), (404, .aload_n 2, 1), (405, .aload_n 0, 1), (406, .iload 4, 2), (408, .iconst 1, 1), (409, .iadd, 1), (410, .iaload, 1), (411, .aload_n 0, 1), (412, .iload 4, 2), (414, .iconst 2, 1), (415, .iadd, 1), (416, .iaload, 1), (417, .aload_n 0, 1), (418, .iload 4, 2), (420, .iconst 3, 1), (421, .iadd, 1), (422, .iaload, 1), (423, .invokevirtual 92, 3), (426, .istore 6, 2), (428, .goto 149, 3), (431, .aload_n 1, 1), (432, .aload_n 0, 1), (433, .iload 4, 2), (435, .iconst 1, 1), (436, .iadd, 1), (437, .iaload, 1), (438, .aload_n 0, 1), (439, .iload 4, 2), (441, .iconst 2, 1), (442, .iadd, 1), (443, .iaload, 1), (444, .aload_n 0, 1), (445, .iload 4, 2), (447, .iconst 3, 1), (448, .iadd, 1), (449, .iaload, 1), (450, .invokevirtual 93, 3), (453, .pop, 1), (454, .aload_n 2, 1), (455, .aload_n 0, 1), (456, .iload 4, 2), (458, .iconst 1, 1), (459, .iadd, 1), (460, .iaload, 1), (461, .aload_n 0, 1), (462, .iload 4, 2), (464, .iconst 2, 1), (465, .iadd, 1), (466, .iaload, 1), (467, .aload_n 0, 1), (468, .iload 4, 2), (470, .iconst 3, 1), (471, .iadd, 1), (472, .iaload, 1), (473, .invokevirtual 96, 3), (476, .pop, 1), (477, .goto 100, 3), (480, .aload_n 1, 1), (481, .aload_n 0, 1), (482, .iload 4, 2), (484, .iconst 1, 1), (485, .iadd, 1), (486, .iaload, 1), (487, .aload_n 3, 1), (488, .invokestatic 97, 3), (491, .istore 5, 2), (493, .aload_n 2, 1), (494, .aload_n 0, 1), (495, .iload 4, 2), (497, .iconst 1, 1), (498, .iadd, 1), (499, .iaload, 1), (500, .invokevirtual 100, 3), (503, .istore 6, 2), (505, .goto 72, 3), (508, .aload_n 1, 1), (509, .aload_n 0, 1), (510, .iload 4, 2), (512, .iconst 1, 1), (513, .iadd, 1), (514, .iaload, 1), (515, .aload_n 3, 1), (516, .invokestatic 101, 3), (519, .istore 5, 2), (521, .aload_n 2, 1), (522, .aload_n 0, 1), (523, .iload 4, 2), (525, .iconst 1, 1), (526, .iadd, 1), (527, .iaload, 1), (528, .invokevirtual 103, 3), (531, .istore 6, 2), (533, .goto 44, 3), (536, .aload_n 1, 1), (537, .aload_n 0, 1), (538, .iload 4, 2), (540, .iconst 1, 1), (541, .iadd, 1), (542, .iaload, 1), (543, .aload_n 3, 1), (544, .invokestatic 104, 3), (547, .istore 5, 2), (549, .aload_n 2, 1), (550, .aload_n 0, 1), (551, .iload 4, 2), (553, .iconst 1, 1), (554, .iadd, 1), (555, .iaload, 1), (556, .invokevirtual 106, 3), (559, .istore 6, 2), (561, .goto 16, 3), (564, .aload_n 1, 1), (565, .invokevirtual 107, 3), (568, .pop, 1), (569, .aload_n 2, 1), (570, .invokevirtual 110, 3), (573, .pop, 1), (574, .goto 3, 3), (577, .iinc 4 4, 3), (580, .goto (-557), 3), (583, .iconst 1, 1), (584, .ireturn, 1)]
set_option maxRecDepth 20000 in
theorem gcLlaw_ok : gckD code gcLlaw = true := by decide +kernel
def gtLlaw (E : List Nat) : gMt := (⟨"DctFilterLaw", "law", "([I)Z"⟩, code, 8, (some .boolean), qKL, none, gcLlaw, gas qML, 1, 0, E)
set_option maxRecDepth 20000 in
theorem goLlaw_0 : gOk0 gPP gcl gGG gXX gGT (gtLlaw []) := gok0_of (own := "DctFilterLaw") rfl rfl rfl (gckF_ok qFL_l qFL_b) (gckI_ok qIL_l qIL_b) (gckL_ok qJL_l qJL_b) (gckS_ok qSL_l qSL_b) (gckC_ok qCL_l qCL_b) (fun ci h => by have h9 : (none : Option Nat) = some ci := h; cases h9) gcLlaw_ok (by decide +kernel) (gpos_in (p := 104) (by decide +kernel)) ⟨by decide +kernel, by decide +kernel, by decide +kernel⟩ (by decide +kernel) (gckM_ok qML_l qML_b) (gckM_cp qML_l qML_b gcp2 gcp3 gcp4) (gckM_ob qML_l qML_b gob2 gob3)
theorem goLlaw (E : List Nat) : gOk0 gPP gcl gGG gXX gGT (gtLlaw E) := goLlaw_0
