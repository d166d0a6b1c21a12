/-! ===== the law and its helpers: tables (by program) ===== -/
def qFL : List (Nat × Nat × Nat) := []
def qIL : List (Nat × Int32) := []
def qJL : List (Nat × Int64) := []
def qSL : List (Nat × Nat) := []
def qCL : List (Nat × (Nat ⊕ Nat)) := [(8, .inl 11), (56, .inl 12)]
def qKL : gK := (gas qFL, gas qIL, gas qJL, gas qSL, gas qCL)
def qML : List (Nat × Nat × Nat) := [(55, 2, 0), (65, 1, 7), (90, 1, 61), (104, 1, 67), (7, 1, 68), (15, 1, 70), (21, 1, 79), (27, 1, 80), (31, 1, 81), (34, 1, 85), (39, 1, 86), (42, 1, 88), (46, 1, 89), (51, 1, 129), (58, 2, 130), (64, 1, 131), (69, 1, 132), (73, 1, 168), (77, 1, 174), (80, 1, 176), (83, 1, 177), (86, 1, 179), (89, 1, 180), (93, 1, 181), (97, 1, 182), (100, 1, 183), (103, 1, 204), (107, 1, 205)]
set_option maxRecDepth 20000 in
def qFLp : List Nat := []
set_option maxRecDepth 20000 in
theorem qFL_l : qFL.length = qFLp.length := by decide +kernel
set_option maxRecDepth 20000 in
theorem qFL_b : (qFL.zip qFLp).all (fun q => gckF gcl "DctFilterLaw" q.1 q.2) = true := by decide +kernel
set_option maxRecDepth 20000 in
def qILp : List Nat := []
set_option maxRecDepth 20000 in
theorem qIL_l : qIL.length = qILp.length := by decide +kernel
set_option maxRecDepth 20000 in
theorem qIL_b : (qIL.zip qILp).all (fun q => gpos q.2 (Cond.constant "DctFilterLaw" q.1.1 q.1.2)) = true := by decide +kernel
set_option maxRecDepth 20000 in
def qJLp : List Nat := []
set_option maxRecDepth 20000 in
theorem qJL_l : qJL.length = qJLp.length := by decide +kernel
set_option maxRecDepth 20000 in
theorem qJL_b : (qJL.zip qJLp).all (fun q => gpos q.2 (Cond.constantLong "DctFilterLaw" q.1.1 q.1.2)) = true := by decide +kernel
set_option maxRecDepth 20000 in
def qSLp : List (Nat × Nat × Bool) := []
set_option maxRecDepth 20000 in
theorem qSL_l : qSL.length = qSLp.length := by decide +kernel
set_option maxRecDepth 20000 in
theorem qSL_b : (qSL.zip qSLp).all (fun q => gckS gXX "DctFilterLaw" q.1 q.2) = true := by decide +kernel
set_option maxRecDepth 20000 in
def qCLp : List (Nat × Nat × Nat) := [(137, 138, 105), (1505, 1506, 112)]
set_option maxRecDepth 20000 in
theorem qCL_l : qCL.length = qCLp.length := by decide +kernel
set_option maxRecDepth 20000 in
theorem qCL_b : (qCL.zip qCLp).all (fun q => gckC gcl gGG gXX "DctFilterLaw" q.1 q.2) = true := by decide +kernel
set_option maxRecDepth 20000 in
def qMLp : List (Nat × Bool × Nat × Nat) := [(139, true, 140, 0), (380, true, 381, 382), (709, true, 710, 711), (1054, true, 1055, 1056), (1064, true, 1065, 1066), (1092, true, 1093, 1094), (1152, true, 1153, 1154), (1164, true, 1165, 1166), (1173, true, 1174, 1175), (1194, true, 1195, 1196), (1205, true, 1206, 1207), (1218, true, 1219, 1220), (1227, true, 1228, 1229), (1500, true, 1501, 1502), (1507, true, 1508, 0), (1745, true, 1746, 1747), (1749, true, 1750, 1751), (1893, true, 1894, 1895), (1922, true, 1923, 1924), (1930, true, 1931, 1932), (1934, true, 1935, 1936), (1942, true, 1943, 1944), (1946, true, 1947, 1948), (1950, true, 1951, 1952), (1954, true, 1955, 1956), (1958, true, 1959, 1960), (2044, true, 2045, 2046), (2048, true, 2049, 2050)]
set_option maxRecDepth 20000 in
theorem qML_l : qML.length = qMLp.length := by decide +kernel
set_option maxRecDepth 20000 in
theorem qML_b : (qML.zip qMLp).all (fun q => gckM gPP gcl gXX "DctFilterLaw" q.1 q.2) = true := by decide +kernel
/-- DctFilterLaw.add(LDctFilter;B)I -/
def gcLadd : List (Nat × Instr × Nat) := [(0, .aload_n 0, 1), (1, .iload_n 1, 1), (2, .invokevirtual 7, 3), (5, .goto 6, 3), (8, .astore_n 2, 1), (9, .iconst 1, 1), (10, .ireturn, 1), (11, .iconst 0, 1), (12, .ireturn, 1)]
set_option maxRecDepth 20000 in
theorem gcLadd_ok : gckD method_3_code gcLadd = true := by decide +kernel
def gtLadd (E : List Nat) : gMt := (⟨"DctFilterLaw", "add", "(LDctFilter;B)I"⟩, method_3_code, 3, (some .int), qKL, none, gcLadd, gas qML, 2, 0, E)
set_option maxRecDepth 20000 in
theorem goLadd_0 : gOk0 gPP gcl gGG gXX gGT (gtLadd []) := gok0_of (own := "DctFilterLaw") rfl rfl rfl (gckF_ok qFL_l qFL_b) (gckI_ok qIL_l qIL_b) (gckL_ok qJL_l qJL_b) (gckS_ok qSL_l qSL_b) (gckC_ok qCL_l qCL_b) (fun ci h => by have h9 : (none : Option Nat) = some ci := h; cases h9) gcLadd_ok (by decide +kernel) (gpos_in (p := 104) (by decide +kernel)) ⟨by decide +kernel, by decide +kernel, by decide +kernel⟩ (by decide +kernel) (gckM_ok qML_l qML_b) (gckM_cp qML_l qML_b gcp2 gcp3 gcp4) (gckM_ob qML_l qML_b gob2 gob3)
theorem goLadd (E : List Nat) : gOk0 gPP gcl gGG gXX gGT (gtLadd E) := goLadd_0
def ghLadd : List (Nat × Nat × Nat × Nat) := [(0, 5, 8, 13)]
theorem gwLadd (E : List Nat) : Cond.codeWith (gmN (gtLadd E)) (gmB (gtLadd E)) (gmL (gtLadd E)) (gmR (gtLadd E)) ghLadd ∈ gGT := gcode_in (gtab4 _ (List.mem_of_getElem? (i := 238) rfl)) rfl
theorem gkLadd : Cond.methodLink "DctFilterLaw" 59 ⟨"DctFilterLaw", "add", "(LDctFilter;B)I"⟩ ∈ gGT ∧ Cond.static ⟨"DctFilterLaw", "add", "(LDctFilter;B)I"⟩ ∈ gGT ∧ Cond.initialized "DctFilterLaw" ∈ gGT := ⟨gpos_in (p := 1060) (by decide +kernel), gpos_in (p := 1061) (by decide +kernel), gpos_in (p := 104) (by decide +kernel)⟩
theorem geLadd_13 : Cond.classLink "DctFilterLaw" 13 "java/lang/UnsupportedOperationException" ∈ gGT := gpos_in (p := 1063) (by decide +kernel)
/-- DctFilterLaw.sample(LDctFilter;III[J)I -/
def gcLsample : List (Nat × Instr × Nat) := [(0, .aload 4, 2), (2, .iconst 0, 1), (3, .aload_n 0, 1), (4, .iload_n 1, 1), (5, .iload_n 2, 1), (6, .iload_n 3, 1), (7, .invokevirtual 15, 3), (10, .i2l, 1), (11, .lastore, 1), (12, .goto 7, 3), (15, .astore 5, 2), (17, .iconst 1, 1), (18, .ireturn, 1), (19, .iconst 0, 1), (20, .ireturn, 1)]
set_option maxRecDepth 20000 in
theorem gcLsample_ok : gckD method_4_code gcLsample = true := by decide +kernel
def gtLsample (E : List Nat) : gMt := (⟨"DctFilterLaw", "sample", "(LDctFilter;III[J)I"⟩, method_4_code, 6, (some .int), qKL, none, gcLsample, gas qML, 5, 0, E)
set_option maxRecDepth 20000 in
theorem goLsample_0 : gOk0 gPP gcl gGG gXX gGT (gtLsample []) := gok0_of (own := "DctFilterLaw") rfl rfl rfl (gckF_ok qFL_l qFL_b) (gckI_ok qIL_l qIL_b) (gckL_ok qJL_l qJL_b) (gckS_ok qSL_l qSL_b) (gckC_ok qCL_l qCL_b) (fun ci h => by have h9 : (none : Option Nat) = some ci := h; cases h9) gcLsample_ok (by decide +kernel) (gpos_in (p := 104) (by decide +kernel)) ⟨by decide +kernel, by decide +kernel, by decide +kernel⟩ (by decide +kernel) (gckM_ok qML_l qML_b) (gckM_cp qML_l qML_b gcp2 gcp3 gcp4) (gckM_ob qML_l qML_b gob2 gob3)
theorem goLsample (E : List Nat) : gOk0 gPP gcl gGG gXX gGT (gtLsample E) := goLsample_0
def ghLsample : List (Nat × Nat × Nat × Nat) := [(0, 12, 15, 19)]
theorem gwLsample (E : List Nat) : Cond.codeWith (gmN (gtLsample E)) (gmB (gtLsample E)) (gmL (gtLsample E)) (gmR (gtLsample E)) ghLsample ∈ gGT := gcode_in (gtab5 _ (List.mem_of_getElem? (i := 26) rfl)) rfl
theorem gkLsample : Cond.methodLink "DctFilterLaw" 70 ⟨"DctFilterLaw", "sample", "(LDctFilter;III[J)I"⟩ ∈ gGT ∧ Cond.static ⟨"DctFilterLaw", "sample", "(LDctFilter;III[J)I"⟩ ∈ gGT ∧ Cond.initialized "DctFilterLaw" ∈ gGT := ⟨gpos_in (p := 1088) (by decide +kernel), gpos_in (p := 1089) (by decide +kernel), gpos_in (p := 104) (by decide +kernel)⟩
theorem geLsample_19 : Cond.classLink "DctFilterLaw" 19 "java/lang/IndexOutOfBoundsException" ∈ gGT := gpos_in (p := 1091) (by decide +kernel)
/-- DctFilterLaw.coefficient(LDctFilter;II[J)I -/
def gcLcoefficient : List (Nat × Instr × Nat) := [(0, .aload_n 3, 1), (1, .iconst 0, 1), (2, .aload_n 0, 1), (3, .iload_n 1, 1), (4, .iload_n 2, 1), (5, .invokevirtual 21, 3), (8, .i2l, 1), (9, .lastore, 1), (10, .goto 7, 3), (13, .astore 4, 2), (15, .iconst 1, 1), (16, .ireturn, 1), (17, .iconst 0, 1), (18, .ireturn, 1)]
set_option maxRecDepth 20000 in
theorem gcLcoefficient_ok : gckD method_5_code gcLcoefficient = true := by decide +kernel
def gtLcoefficient (E : List Nat) : gMt := (⟨"DctFilterLaw", "coefficient", "(LDctFilter;II[J)I"⟩, method_5_code, 5, (some .int), qKL, none, gcLcoefficient, gas qML, 4, 0, E)
set_option maxRecDepth 20000 in
theorem goLcoefficient_0 : gOk0 gPP gcl gGG gXX gGT (gtLcoefficient []) := gok0_of (own := "DctFilterLaw") rfl rfl rfl (gckF_ok qFL_l qFL_b) (gckI_ok qIL_l qIL_b) (gckL_ok qJL_l qJL_b) (gckS_ok qSL_l qSL_b) (gckC_ok qCL_l qCL_b) (fun ci h => by have h9 : (none : Option Nat) = some ci := h; cases h9) gcLcoefficient_ok (by decide +kernel) (gpos_in (p := 104) (by decide +kernel)) ⟨by decide +kernel, by decide +kernel, by decide +kernel⟩ (by decide +kernel) (gckM_ok qML_l qML_b) (gckM_cp qML_l qML_b gcp2 gcp3 gcp4) (gckM_ob qML_l qML_b gob2 gob3)
theorem goLcoefficient (E : List Nat) : gOk0 gPP gcl gGG gXX gGT (gtLcoefficient E) := goLcoefficient_0
def ghLcoefficient : List (Nat × Nat × Nat × Nat) := [(0, 10, 13, 25)]
theorem gwLcoefficient (E : List Nat) : Cond.codeWith (gmN (gtLcoefficient E)) (gmB (gtLcoefficient E)) (gmL (gtLcoefficient E)) (gmR (gtLcoefficient E)) ghLcoefficient ∈ gGT := gcode_in (gtab5 _ (List.mem_of_getElem? (i := 86) rfl)) rfl
theorem gkLcoefficient : Cond.methodLink "DctFilterLaw" 74 ⟨"DctFilterLaw", "coefficient", "(LDctFilter;II[J)I"⟩ ∈ gGT ∧ Cond.static ⟨"DctFilterLaw", "coefficient", "(LDctFilter;II[J)I"⟩ ∈ gGT ∧ Cond.initialized "DctFilterLaw" ∈ gGT := ⟨gpos_in (p := 1148) (by decide +kernel), gpos_in (p := 1149) (by decide +kernel), gpos_in (p := 104) (by decide +kernel)⟩
theorem geLcoefficient_25 : Cond.classLink "DctFilterLaw" 25 "java/lang/ArrayIndexOutOfBoundsException" ∈ gGT := gpos_in (p := 1151) (by decide +kernel)
/-- DctFilterLaw.exact(LDctFilter;II[J)I -/
def gcLexact : List (Nat × Instr × Nat) := [(0, .aload_n 3, 1), (1, .iconst 0, 1), (2, .aload_n 0, 1), (3, .iload_n 1, 1), (4, .iload_n 2, 1), (5, .invokevirtual 27, 3), (8, .lastore, 1), (9, .goto 7, 3), (12, .astore 4, 2), (14, .iconst 1, 1), (15, .ireturn, 1), (16, .iconst 0, 1), (17, .ireturn, 1)]
set_option maxRecDepth 20000 in
theorem gcLexact_ok : gckD method_6_code gcLexact = true := by decide +kernel
def gtLexact (E : List Nat) : gMt := (⟨"DctFilterLaw", "exact", "(LDctFilter;II[J)I"⟩, method_6_code, 5, (some .int), qKL, none, gcLexact, gas qML, 4, 0, E)
set_option maxRecDepth 20000 in
theorem goLexact_0 : gOk0 gPP gcl gGG gXX gGT (gtLexact []) := gok0_of (own := "DctFilterLaw") rfl rfl rfl (gckF_ok qFL_l qFL_b) (gckI_ok qIL_l qIL_b) (gckL_ok qJL_l qJL_b) (gckS_ok qSL_l qSL_b) (gckC_ok qCL_l qCL_b) (fun ci h => by have h9 : (none : Option Nat) = some ci := h; cases h9) gcLexact_ok (by decide +kernel) (gpos_in (p := 104) (by decide +kernel)) ⟨by decide +kernel, by decide +kernel, by decide +kernel⟩ (by decide +kernel) (gckM_ok qML_l qML_b) (gckM_cp qML_l qML_b gcp2 gcp3 gcp4) (gckM_ob qML_l qML_b gob2 gob3)
theorem goLexact (E : List Nat) : gOk0 gPP gcl gGG gXX gGT (gtLexact E) := goLexact_0
def ghLexact : List (Nat × Nat × Nat × Nat) := [(0, 9, 12, 25)]
theorem gwLexact (E : List Nat) : Cond.codeWith (gmN (gtLexact E)) (gmB (gtLexact E)) (gmL (gtLexact E)) (gmR (gtLexact E)) ghLexact ∈ gGT := gcode_in (gtab5 _ (List.mem_of_getElem? (i := 99) rfl)) rfl
theorem gkLexact : Cond.methodLink "DctFilterLaw" 78 ⟨"DctFilterLaw", "exact", "(LDctFilter;II[J)I"⟩ ∈ gGT ∧ Cond.static ⟨"DctFilterLaw", "exact", "(LDctFilter;II[J)I"⟩ ∈ gGT ∧ Cond.initialized "DctFilterLaw" ∈ gGT := ⟨gpos_in (p := 1161) (by decide +kernel), gpos_in (p := 1162) (by decide +kernel), gpos_in (p := 104) (by decide +kernel)⟩
theorem geLexact_25 : Cond.classLink "DctFilterLaw" 25 "java/lang/ArrayIndexOutOfBoundsException" ∈ gGT := gpos_in (p := 1151) (by decide +kernel)
/-- DctFilterLaw.told(LDctFilter;II[J)I -/
def gcLtold : List (Nat × Instr × Nat) := [(0, .aload_n 3, 1), (1, .iconst 0, 1), (2, .aload_n 0, 1), (3, .iload_n 1, 1), (4, .iload_n 2, 1), (5, .invokevirtual 31, 3), (8, .i2l, 1), (9, .lastore, 1), (10, .goto 7, 3), (13, .astore 4, 2), (15, .iconst 1, 1), (16, .ireturn, 1), (17, .iconst 0, 1), (18, .ireturn, 1)]
set_option maxRecDepth 20000 in
theorem gcLtold_ok : gckD method_7_code gcLtold = true := by decide +kernel
def gtLtold (E : List Nat) : gMt := (⟨"DctFilterLaw", "told", "(LDctFilter;II[J)I"⟩, method_7_code, 5, (some .int), qKL, none, gcLtold, gas qML, 4, 0, E)
set_option maxRecDepth 20000 in
theorem goLtold_0 : gOk0 gPP gcl gGG gXX gGT (gtLtold []) := gok0_of (own := "DctFilterLaw") rfl rfl rfl (gckF_ok qFL_l qFL_b) (gckI_ok qIL_l qIL_b) (gckL_ok qJL_l qJL_b) (gckS_ok qSL_l qSL_b) (gckC_ok qCL_l qCL_b) (fun ci h => by have h9 : (none : Option Nat) = some ci := h; cases h9) gcLtold_ok (by decide +kernel) (gpos_in (p := 104) (by decide +kernel)) ⟨by decide +kernel, by decide +kernel, by decide +kernel⟩ (by decide +kernel) (gckM_ok qML_l qML_b) (gckM_cp qML_l qML_b gcp2 gcp3 gcp4) (gckM_ob qML_l qML_b gob2 gob3)
theorem goLtold (E : List Nat) : gOk0 gPP gcl gGG gXX gGT (gtLtold E) := goLtold_0
def ghLtold : List (Nat × Nat × Nat × Nat) := [(0, 10, 13, 19)]
theorem gwLtold (E : List Nat) : Cond.codeWith (gmN (gtLtold E)) (gmB (gtLtold E)) (gmL (gtLtold E)) (gmR (gtLtold E)) ghLtold ∈ gGT := gcode_in (gtab5 _ (List.mem_of_getElem? (i := 108) rfl)) rfl
theorem gkLtold : Cond.methodLink "DctFilterLaw" 81 ⟨"DctFilterLaw", "told", "(LDctFilter;II[J)I"⟩ ∈ gGT ∧ Cond.static ⟨"DctFilterLaw", "told", "(LDctFilter;II[J)I"⟩ ∈ gGT ∧ Cond.initialized "DctFilterLaw" ∈ gGT := ⟨gpos_in (p := 1170) (by decide +kernel), gpos_in (p := 1171) (by decide +kernel), gpos_in (p := 104) (by decide +kernel)⟩
theorem geLtold_19 : Cond.classLink "DctFilterLaw" 19 "java/lang/IndexOutOfBoundsException" ∈ gGT := gpos_in (p := 1091) (by decide +kernel)
/-- DctFilterLaw.table(LDctFilter;III[J)I -/
def gcLtable : List (Nat × Instr × Nat) := [(0, .aload 4, 2), (2, .iconst 0, 1), (3, .aload_n 0, 1), (4, .iload_n 1, 1), (5, .iload_n 2, 1), (6, .iload_n 3, 1), (7, .invokevirtual 34, 3), (10, .i2l, 1), (11, .lastore, 1), (12, .goto 11, 3), (15, .astore 5, 2), (17, .iconst 1, 1), (18, .ireturn, 1), (19, .astore 5, 2), (21, .iconst 2, 1), (22, .ireturn, 1), (23, .iconst 0, 1), (24, .ireturn, 1)]
set_option maxRecDepth 20000 in
theorem gcLtable_ok : gckD method_8_code gcLtable = true := by decide +kernel
def gtLtable (E : List Nat) : gMt := (⟨"DctFilterLaw", "table", "(LDctFilter;III[J)I"⟩, method_8_code, 6, (some .int), qKL, none, gcLtable, gas qML, 5, 0, E)
set_option maxRecDepth 20000 in
theorem goLtable_0 : gOk0 gPP gcl gGG gXX gGT (gtLtable []) := gok0_of (own := "DctFilterLaw") rfl rfl rfl (gckF_ok qFL_l qFL_b) (gckI_ok qIL_l qIL_b) (gckL_ok qJL_l qJL_b) (gckS_ok qSL_l qSL_b) (gckC_ok qCL_l qCL_b) (fun ci h => by have h9 : (none : Option Nat) = some ci := h; cases h9) gcLtable_ok (by decide +kernel) (gpos_in (p := 104) (by decide +kernel)) ⟨by decide +kernel, by decide +kernel, by decide +kernel⟩ (by decide +kernel) (gckM_ok qML_l qML_b) (gckM_cp qML_l qML_b gcp2 gcp3 gcp4) (gckM_ob qML_l qML_b gob2 gob3)
theorem goLtable (E : List Nat) : gOk0 gPP gcl gGG gXX gGT (gtLtable E) := goLtable_0
def ghLtable : List (Nat × Nat × Nat × Nat) := [(0, 12, 15, 19), (0, 12, 19, 37)]
theorem gwLtable (E : List Nat) : Cond.codeWith (gmN (gtLtable E)) (gmB (gtLtable E)) (gmL (gtLtable E)) (gmR (gtLtable E)) ghLtable ∈ gGT := gcode_in (gtab5 _ (List.mem_of_getElem? (i := 128) rfl)) rfl
theorem gkLtable : Cond.methodLink "DctFilterLaw" 84 ⟨"DctFilterLaw", "table", "(LDctFilter;III[J)I"⟩ ∈ gGT ∧ Cond.static ⟨"DctFilterLaw", "table", "(LDctFilter;III[J)I"⟩ ∈ gGT ∧ Cond.initialized "DctFilterLaw" ∈ gGT := ⟨gpos_in (p := 1190) (by decide +kernel), gpos_in (p := 1191) (by decide +kernel), gpos_in (p := 104) (by decide +kernel)⟩
theorem geLtable_19 : Cond.classLink "DctFilterLaw" 19 "java/lang/IndexOutOfBoundsException" ∈ gGT := gpos_in (p := 1091) (by decide +kernel)
theorem geLtable_37 : Cond.classLink "DctFilterLaw" 37 "java/lang/IllegalArgumentException" ∈ gGT := gpos_in (p := 1193) (by decide +kernel)
/-- DctFilterLaw.point(LDctFilter;III[J)I -/
def gcLpoint : List (Nat × Instr × Nat) := [(0, .aload 4, 2), (2, .iconst 0, 1), (3, .aload_n 0, 1), (4, .iload_n 1, 1), (5, .iload_n 2, 1), (6, .iload_n 3, 1), (7, .invokevirtual 39, 3), (10, .i2l, 1), (11, .lastore, 1), (12, .goto 11, 3), (15, .astore 5, 2), (17, .iconst 1, 1), (18, .ireturn, 1), (19, .astore 5, 2), (21, .iconst 2, 1), (22, .ireturn, 1), (23, .iconst 0, 1), (24, .ireturn, 1)]
set_option maxRecDepth 20000 in
theorem gcLpoint_ok : gckD method_9_code gcLpoint = true := by decide +kernel
def gtLpoint (E : List Nat) : gMt := (⟨"DctFilterLaw", "point", "(LDctFilter;III[J)I"⟩, method_9_code, 6, (some .int), qKL, none, gcLpoint, gas qML, 5, 0, E)
set_option maxRecDepth 20000 in
theorem goLpoint_0 : gOk0 gPP gcl gGG gXX gGT (gtLpoint []) := gok0_of (own := "DctFilterLaw") rfl rfl rfl (gckF_ok qFL_l qFL_b) (gckI_ok qIL_l qIL_b) (gckL_ok qJL_l qJL_b) (gckS_ok qSL_l qSL_b) (gckC_ok qCL_l qCL_b) (fun ci h => by have h9 : (none : Option Nat) = some ci := h; cases h9) gcLpoint_ok (by decide +kernel) (gpos_in (p := 104) (by decide +kernel)) ⟨by decide +kernel, by decide +kernel, by decide +kernel⟩ (by decide +kernel) (gckM_ok qML_l qML_b) (gckM_cp qML_l qML_b gcp2 gcp3 gcp4) (gckM_ob qML_l qML_b gob2 gob3)
theorem goLpoint (E : List Nat) : gOk0 gPP gcl gGG gXX gGT (gtLpoint E) := goLpoint_0
def ghLpoint : List (Nat × Nat × Nat × Nat) := [(0, 12, 15, 19), (0, 12, 19, 37)]
theorem gwLpoint (E : List Nat) : Cond.codeWith (gmN (gtLpoint E)) (gmB (gtLpoint E)) (gmL (gtLpoint E)) (gmR (gtLpoint E)) ghLpoint ∈ gGT := gcode_in (gtab5 _ (List.mem_of_getElem? (i := 140) rfl)) rfl
theorem gkLpoint : Cond.methodLink "DctFilterLaw" 87 ⟨"DctFilterLaw", "point", "(LDctFilter;III[J)I"⟩ ∈ gGT ∧ Cond.static ⟨"DctFilterLaw", "point", "(LDctFilter;III[J)I"⟩ ∈ gGT ∧ Cond.initialized "DctFilterLaw" ∈ gGT := ⟨gpos_in (p := 1202) (by decide +kernel), gpos_in (p := 1203) (by decide +kernel), gpos_in (p := 104) (by decide +kernel)⟩
theorem geLpoint_19 : Cond.classLink "DctFilterLaw" 19 "java/lang/IndexOutOfBoundsException" ∈ gGT := gpos_in (p := 1091) (by decide +kernel)
theorem geLpoint_37 : Cond.classLink "DctFilterLaw" 37 "java/lang/IllegalArgumentException" ∈ gGT := gpos_in (p := 1193) (by decide +kernel)
/-- DctFilterLaw.restart(LDctFilter;I[J)I -/
def gcLrestart : List (Nat × Instr × Nat) := [(0, .aload_n 2, 1), (1, .iconst 0, 1), (2, .aload_n 0, 1), (3, .iload_n 1, 1), (4, .invokevirtual 42, 3), (7, .i2l, 1), (8, .lastore, 1), (9, .goto 6, 3), (12, .astore_n 3, 1), (13, .iconst 1, 1), (14, .ireturn, 1), (15, .iconst 0, 1), (16, .ireturn, 1)]
set_option maxRecDepth 20000 in
theorem gcLrestart_ok : gckD method_10_code gcLrestart = true := by decide +kernel
def gtLrestart (E : List Nat) : gMt := (⟨"DctFilterLaw", "restart", "(LDctFilter;I[J)I"⟩, method_10_code, 4, (some .int), qKL, none, gcLrestart, gas qML, 3, 0, E)
set_option maxRecDepth 20000 in
theorem goLrestart_0 : gOk0 gPP gcl gGG gXX gGT (gtLrestart []) := gok0_of (own := "DctFilterLaw") rfl rfl rfl (gckF_ok qFL_l qFL_b) (gckI_ok qIL_l qIL_b) (gckL_ok qJL_l qJL_b) (gckS_ok qSL_l qSL_b) (gckC_ok qCL_l qCL_b) (fun ci h => by have h9 : (none : Option Nat) = some ci := h; cases h9) gcLrestart_ok (by decide +kernel) (gpos_in (p := 104) (by decide +kernel)) ⟨by decide +kernel, by decide +kernel, by decide +kernel⟩ (by decide +kernel) (gckM_ok qML_l qML_b) (gckM_cp qML_l qML_b gcp2 gcp3 gcp4) (gckM_ob qML_l qML_b gob2 gob3)
theorem goLrestart (E : List Nat) : gOk0 gPP gcl gGG gXX gGT (gtLrestart E) := goLrestart_0
def ghLrestart : List (Nat × Nat × Nat × Nat) := [(0, 9, 12, 37)]
theorem gwLrestart (E : List Nat) : Cond.codeWith (gmN (gtLrestart E)) (gmB (gtLrestart E)) (gmL (gtLrestart E)) (gmR (gtLrestart E)) ghLrestart ∈ gGT := gcode_in (gtab5 _ (List.mem_of_getElem? (i := 153) rfl)) rfl
theorem gkLrestart : Cond.methodLink "DctFilterLaw" 94 ⟨"DctFilterLaw", "restart", "(LDctFilter;I[J)I"⟩ ∈ gGT ∧ Cond.static ⟨"DctFilterLaw", "restart", "(LDctFilter;I[J)I"⟩ ∈ gGT ∧ Cond.initialized "DctFilterLaw" ∈ gGT := ⟨gpos_in (p := 1215) (by decide +kernel), gpos_in (p := 1216) (by decide +kernel), gpos_in (p := 104) (by decide +kernel)⟩
theorem geLrestart_37 : Cond.classLink "DctFilterLaw" 37 "java/lang/IllegalArgumentException" ∈ gGT := gpos_in (p := 1193) (by decide +kernel)
/-- DctFilterLaw.encode(LDctFilter;I[J)I -/
def gcLencode : List (Nat × Instr × Nat) := [(0, .aload_n 2, 1), (1, .iconst 0, 1), (2, .aload_n 0, 1), (3, .iload_n 1, 1), (4, .invokevirtual 46, 3), (7, .i2l, 1), (8, .lastore, 1), (9, .goto 9, 3), (12, .astore_n 3, 1), (13, .iconst 1, 1), (14, .ireturn, 1), (15, .astore_n 3, 1), (16, .iconst 2, 1), (17, .ireturn, 1), (18, .iconst 0, 1), (19, .ireturn, 1)]
set_option maxRecDepth 20000 in
theorem gcLencode_ok : gckD method_11_code gcLencode = true := by decide +kernel
def gtLencode (E : List Nat) : gMt := (⟨"DctFilterLaw", "encode", "(LDctFilter;I[J)I"⟩, method_11_code, 4, (some .int), qKL, none, gcLencode, gas qML, 3, 0, E)
set_option maxRecDepth 20000 in
theorem goLencode_0 : gOk0 gPP gcl gGG gXX gGT (gtLencode []) := gok0_of (own := "DctFilterLaw") rfl rfl rfl (gckF_ok qFL_l qFL_b) (gckI_ok qIL_l qIL_b) (gckL_ok qJL_l qJL_b) (gckS_ok qSL_l qSL_b) (gckC_ok qCL_l qCL_b) (fun ci h => by have h9 : (none : Option Nat) = some ci := h; cases h9) gcLencode_ok (by decide +kernel) (gpos_in (p := 104) (by decide +kernel)) ⟨by decide +kernel, by decide +kernel, by decide +kernel⟩ (by decide +kernel) (gckM_ok qML_l qML_b) (gckM_cp qML_l qML_b gcp2 gcp3 gcp4) (gckM_ob qML_l qML_b gob2 gob3)
theorem goLencode (E : List Nat) : gOk0 gPP gcl gGG gXX gGT (gtLencode E) := goLencode_0
def ghLencode : List (Nat × Nat × Nat × Nat) := [(0, 9, 12, 37), (0, 9, 15, 49)]
theorem gwLencode (E : List Nat) : Cond.codeWith (gmN (gtLencode E)) (gmB (gtLencode E)) (gmL (gtLencode E)) (gmR (gtLencode E)) ghLencode ∈ gGT := gcode_in (gtab5 _ (List.mem_of_getElem? (i := 161) rfl)) rfl
theorem gkLencode : Cond.methodLink "DctFilterLaw" 98 ⟨"DctFilterLaw", "encode", "(LDctFilter;I[J)I"⟩ ∈ gGT ∧ Cond.static ⟨"DctFilterLaw", "encode", "(LDctFilter;I[J)I"⟩ ∈ gGT ∧ Cond.initialized "DctFilterLaw" ∈ gGT := ⟨gpos_in (p := 1223) (by decide +kernel), gpos_in (p := 1224) (by decide +kernel), gpos_in (p := 104) (by decide +kernel)⟩
theorem geLencode_37 : Cond.classLink "DctFilterLaw" 37 "java/lang/IllegalArgumentException" ∈ gGT := gpos_in (p := 1193) (by decide +kernel)
theorem geLencode_49 : Cond.classLink "DctFilterLaw" 49 "java/lang/IllegalStateException" ∈ gGT := gpos_in (p := 1226) (by decide +kernel)
/-- DctFilterLaw.octet(LDctFilter;I[J)I -/
def gcLoctet : List (Nat × Instr × Nat) := [(0, .aload_n 2, 1), (1, .iconst 0, 1), (2, .aload_n 0, 1), (3, .iload_n 1, 1), (4, .invokevirtual 51, 3), (7, .i2l, 1), (8, .lastore, 1), (9, .goto 6, 3), (12, .astore_n 3, 1), (13, .iconst 1, 1), (14, .ireturn, 1), (15, .iconst 0, 1), (16, .ireturn, 1)]
set_option maxRecDepth 20000 in
theorem gcLoctet_ok : gckD method_12_code gcLoctet = true := by decide +kernel
def gtLoctet (E : List Nat) : gMt := (⟨"DctFilterLaw", "octet", "(LDctFilter;I[J)I"⟩, method_12_code, 4, (some .int), qKL, none, gcLoctet, gas qML, 3, 0, E)
set_option maxRecDepth 20000 in
theorem goLoctet_0 : gOk0 gPP gcl gGG gXX gGT (gtLoctet []) := gok0_of (own := "DctFilterLaw") rfl rfl rfl (gckF_ok qFL_l qFL_b) (gckI_ok qIL_l qIL_b) (gckL_ok qJL_l qJL_b) (gckS_ok qSL_l qSL_b) (gckC_ok qCL_l qCL_b) (fun ci h => by have h9 : (none : Option Nat) = some ci := h; cases h9) gcLoctet_ok (by decide +kernel) (gpos_in (p := 104) (by decide +kernel)) ⟨by decide +kernel, by decide +kernel, by decide +kernel⟩ (by decide +kernel) (gckM_ok qML_l qML_b) (gckM_cp qML_l qML_b gcp2 gcp3 gcp4) (gckM_ob qML_l qML_b gob2 gob3)
theorem goLoctet (E : List Nat) : gOk0 gPP gcl gGG gXX gGT (gtLoctet E) := goLoctet_0
def ghLoctet : List (Nat × Nat × Nat × Nat) := [(0, 9, 12, 25)]
theorem gwLoctet (E : List Nat) : Cond.codeWith (gmN (gtLoctet E)) (gmB (gtLoctet E)) (gmL (gtLoctet E)) (gmR (gtLoctet E)) ghLoctet ∈ gGT := gcode_in (gtab6 _ (List.mem_of_getElem? (i := 195) rfl)) rfl
theorem gkLoctet : Cond.methodLink "DctFilterLaw" 101 ⟨"DctFilterLaw", "octet", "(LDctFilter;I[J)I"⟩ ∈ gGT ∧ Cond.static ⟨"DctFilterLaw", "octet", "(LDctFilter;I[J)I"⟩ ∈ gGT ∧ Cond.initialized "DctFilterLaw" ∈ gGT := ⟨gpos_in (p := 1497) (by decide +kernel), gpos_in (p := 1498) (by decide +kernel), gpos_in (p := 104) (by decide +kernel)⟩
theorem geLoctet_25 : Cond.classLink "DctFilterLaw" 25 "java/lang/ArrayIndexOutOfBoundsException" ∈ gGT := gpos_in (p := 1151) (by decide +kernel)
/-- DctFilterLaw.law([I)Z -/
def gcLlaw : List (Nat × Instr × Nat) := [(0, .new 8, 3), (3, .dup, 1), (4, .invokespecial 55, 3), (7, .astore_n 1, 1), (8, .new 56, 3), (11, .dup, 1), (12, .invokespecial 58, 3), (15, .astore_n 2, 1), (16, .iconst 1, 1), (17, .newarray .long, 2), (19, .astore_n 3, 1), (20, .iconst 0, 1), (21, .istore 4, 2), (23, .iload 4, 2), (25, .aload_n 0, 1), (26, .arraylength, 1), (27, .iconst 4, 1), (28, .isub, 1), (29, .if_icmp .gt 543, 3), (32, .aload_n 0, 1), (33, .iload 4, 2), (35, .iaload, 1), (36, .bipush 15, 2), (38, .iand, 1), (39, .tableswitch 527 0 12 #[65, 92, 105, 157, 197, 237, 277, 329, 381, 430, 458, 486, 514], 65), (104, .aload_n 1, 1), (105, .aload_n 0, 1), (106, .iload 4, 2), (108, .iconst 1, 1), (109, .iadd, 1), (110, .iaload, 1), (111, .i2b, 1), (112, .invokestatic 59, 3), (115, .istore 5, 2), (117, .aload_n 2, 1), (118, .aload_n 0, 1), (119, .iload 4, 2), (121, .iconst 1, 1), (122, .iadd, 1), (123, .iaload, 1), (124, .i2b, 1), (125, .invokevirtual 64, 3), (128, .goto 438, 3), (131, .aload_n 1, 1), (132, .invokevirtual 65, 3), (135, .pop, 1), (136, .aload_n 2, 1), (137, .invokevirtual 69, 3), (140, .pop, 1), (141, .goto 425, 3), (144, .aload_n 1, 1), (145, .aload_n 0, 1), (146, .iload 4, 2), (148, .iconst 1, 1), (149, .iadd, 1), (150, .iaload, 1), (151, .aload_n 0, 1), (152, .iload 4, 2), (154, .iconst 2, 1), (155, .iadd, 1), (156, .iaload, 1), (157, .aload_n 0, 1), (158, .iload 4, 2), (160, .iconst 3, 1), (161, .iadd, 1), (162, .iaload, 1), (163, .aload_n 3, 1), (164, .invokestatic 70, 3), (167, .istore 5, 2), (169, .aload_n 2, 1), (170, .aload_n 0, 1), (171, .iload 4, 2), (173, .iconst 1, 1), (174, .iadd, 1), (175, .iaload, 1), (176, .aload_n 0, 1), (177, .iload 4, 2), (179, .iconst 2, 1), (180, .iadd, 1), (181, .iaload, 1), (182, .aload_n 0, 1), (183, .iload 4, 2), (185, .iconst 3, 1), (186, .iadd, 1), (187, .iaload, 1), (188, .invokevirtual 73, 3), (191, .istore 6, 2), (193, .goto 373, 3), (196, .aload_n 1, 1), (197, .aload_n 0, 1), (198, .iload 4, 2), (200, .iconst 1, 1), (201, .iadd, 1), (202, .iaload, 1), (203, .aload_n 0, 1), (204, .iload 4, 2), (206, .iconst 2, 1), (207, .iadd, 1), (208, .iaload, 1), (209, .aload_n 3, 1), (210, .invokestatic 74, 3), (213, .istore 5, 2), (215, .aload_n 2, 1), (216, .aload_n 0, 1), (217, .iload 4, 2), (219, .iconst 1, 1), (220, .iadd, 1), (221, .iaload, 1), (222, .aload_n 0, 1), (223, .iload 4, 2), (225, .iconst 2, 1), (226, .iadd, 1), (227, .iaload, 1), (228, .invokevirtual 77, 3), (231, .istore 6, 2), (233, .goto 333, 3), (236, .aload_n 1, 1), (237, .aload_n 0, 1), (238, .iload 4, 2), (240, .iconst 1, 1), (241, .iadd, 1), (242, .iaload, 1), (243, .aload_n 0, 1), (244, .iload 4, 2), (246, .iconst 2, 1), (247, .iadd, 1), (248, .iaload, 1), (249, .aload_n 3, 1), (250, .invokestatic 78, 3), (253, .istore 5, 2), (255, .aload_n 2, 1), (256, .aload_n 0, 1), (257, .iload 4, 2), (259, .iconst 1, 1), (260, .iadd, 1), (261, .iaload, 1), (262, .aload_n 0, 1), (263, .iload 4, 2), (265, .iconst 2, 1), (266, .iadd, 1), (267, .iaload, 1), (268, .invokevirtual 80, 3), (271, .lstore 6, 2), (273, .goto 293, 3), (276, .aload_n 1, 1), (277, .aload_n 0, 1), (278, .iload 4, 2), (280, .iconst 1, 1), (281, .iadd, 1), (282, .iaload, 1), (283, .aload_n 0, 1), (284, .iload 4, 2), (286, .iconst 2, 1), (287, .iadd, 1), (288, .iaload, 1), (289, .aload_n 3, 1), (290, .invokestatic 81, 3), (293, .istore 5, 2), (295, .aload_n 2, 1), (296, .aload_n 0, 1), (297, .iload 4, 2), (299, .iconst 1, 1), (300, .iadd, 1), (301, .iaload, 1), (302, .aload_n 0, 1), (303, .iload 4, 2), (305, .iconst 2, 1), (306, .iadd, 1), (307, .iaload, 1), (308, .invokevirtual 83, 3), (311, .istore 6, 2), (313, .goto 253, 3), (316, .aload_n 1, 1), (317, .aload_n 0, 1), (318, .iload 4, 2), (320, .iconst 1, 1), (321, .iadd, 1), (322, .iaload, 1), (323, .aload_n 0, 1), (324, .iload 4, 2), (326, .iconst 2, 1), (327, .iadd, 1), (328, .iaload, 1), (329, .aload_n 0, 1), (330, .iload 4, 2), (332, .iconst 3, 1), (333, .iadd, 1), (334, .iaload, 1), (335, .aload_n 3, 1), (336, .invokestatic 84, 3), (339, .istore 5, 2), (341, .aload_n 2, 1), (342, .aload_n 0, 1), (343, .iload 4, 2), (345, .iconst 1, 1), (346, .iadd, 1), (347, .iaload, 1), (348, .aload_n 0, 1), (349, .iload 4, 2), (351, .iconst 2, 1), (352, .iadd, 1), (353, .iaload, 1), (354, .aload_n 0, 1), (355, .iload 4, 2), (357, .iconst 3, 1), (358, .iadd, 1), (359, .iaload, 1), (360, .invokevirtual 86, 3), (363, .istore 6, 2), (365, .goto 201, 3), (368, .aload_n 1, 1), (369, .aload_n 0, 1), (370, .iload 4, 2), (372, .iconst 1, 1), (373, .iadd, 1), (374, .iaload, 1), (375, .aload_n 0, 1), (376, .iload 4, 2), (378, .iconst 2, 1), (379, .iadd, 1), (380, .iaload, 1), (381, .aload_n 0, 1), (382, .iload 4, 2), (384, .iconst 3, 1), (385, .iadd, 1), (386, .iaload, 1), (387, .aload_n 3, 1), (388, .invokestatic 87, 3), (391, .istore 5, 2), (393, .aload_n 2, 1), (394, .aload_n 0, 1), (395, .iload 4, 2), (397, .iconst 1, 1), (398, .iadd, 1), (399, .iaload, 1), (400, .aload_n 0, 1), (401, .iload 4, 2), (403, .iconst 2, 1), (404, .iadd, 1), (405, .iaload, 1), (406, .aload_n 0, 1), (407, .iload 4, 2), (409, .iconst 3, 1), (410, .iadd, 1), (411, .iaload, 1), (412, .invokevirtual 89, 3), (415, .istore 6, 2), (417, .goto 149, 3), (420, .aload_n 1, 1), (421, .aload_n 0, 1), (422, .iload 4, 2), (424, .iconst 1, 1), (425, .iadd, 1), (426, .iaload, 1), (427, .aload_n 0, 1), (428, .iload 4, 2), (430, .iconst 2, 1), (431, .iadd, 1), (432, .iaload, 1), (433, .aload_n 0, 1), (434, .iload 4, 2), (436, .iconst 3, 1), (437, .iadd, 1), (438, .iaload, 1), (439, .invokevirtual 90, 3), (442, .pop, 1), (443, .aload_n 2, 1), (444, .aload_n 0, 1), (445, .iload 4, 2), (447, .iconst 1, 1), (448, .iadd, 1), (449, .iaload, 1), (450, .aload_n 0, 1), (451, .iload 4, 2), (453, .iconst 2, 1), (454, .iadd, 1), (455, .iaload, 1), (456, .aload_n 0, 1), (457, .iload 4, 2), (459, .iconst 3, 1), (460, .iadd, 1), (461, .iaload, 1), (462, .invokevirtual 93, 3), (465, .pop, 1), (466, .goto 100, 3), (469, .aload_n 1, 1), (470, .aload_n 0, 1), (471, .iload 4, 2), (473, .iconst 1, 1), (474, .iadd, 1), (475, .iaload, 1), (476, .aload_n 3, 1), (477, .invokestatic 94, 3), (480, .istore 5, 2), (482, .aload_n 2, 1), (483, .aload_n 0, 1), (484, .iload 4, 2), (486, .iconst 1, 1), (487, .iadd, 1), (488, .iaload, 1), (489, .invokevirtual 97, 3), (492, .istore 6, 2), (494, .goto 72, 3), (497, .aload_n 1, 1), (498, .aload_n 0, 1), (499, .iload 4, 2), (501, .iconst 1, 1), (502, .iadd, 1), (503, .iaload, 1), (504, .aload_n 3, 1), (505, .invokestatic 98, 3), (508, .istore 5, 2), (510, .aload_n 2, 1), (511, .aload_n 0, 1), (512, .iload 4, 2), (514, .iconst 1, 1), (515, .iadd, 1), (516, .iaload, 1), (517, .invokevirtual 100, 3), (520, .istore 6, 2), (522, .goto 44, 3), (525, .aload_n 1, 1), (526, .aload_n 0, 1), (527, .iload 4, 2), (529, .iconst 1, 1), (530, .iadd, 1), (531, .iaload, 1), (532, .aload_n 3, 1), (533, .invokestatic 101, 3), (536, .istore 5, 2), (538, .aload_n 2, 1), (539, .aload_n 0, 1), (540, .iload 4, 2), (542, .iconst 1, 1), (543, .iadd, 1), (544, .iaload, 1), (545, .invokevirtual 103, 3), (548, .istore 6, 2), (550, .goto 16, 3), (553, .aload_n 1, 1), (554, .invokevirtual 104, 3), (557, .aload_n 2, 1), (558, .invokevirtual 107, 3), (561, .if_icmp .eq 5, 3), (564, .iconst 0, 1), (565, .ireturn, 1), (566, .iinc 4 4, 3), (569, .goto (-546), 3), (572, .iconst 1, 1), (573, .ireturn, 1)]
set_option maxRecDepth 20000 in
theorem gcLlaw_ok : gckD code gcLlaw = true := by decide +kernel
def gtLlaw (E : List Nat) : gMt := (⟨"DctFilterLaw", "law", "([I)Z"⟩, code, 8, (some .boolean), qKL, none, gcLlaw, gas qML, 1, 0, E)
set_option maxRecDepth 20000 in
theorem goLlaw_0 : gOk0 gPP gcl gGG gXX gGT (gtLlaw []) := gok0_of (own := "DctFilterLaw") rfl rfl rfl (gckF_ok qFL_l qFL_b) (gckI_ok qIL_l qIL_b) (gckL_ok qJL_l qJL_b) (gckS_ok qSL_l qSL_b) (gckC_ok qCL_l qCL_b) (fun ci h => by have h9 : (none : Option Nat) = some ci := h; cases h9) gcLlaw_ok (by decide +kernel) (gpos_in (p := 104) (by decide +kernel)) ⟨by decide +kernel, by decide +kernel, by decide +kernel⟩ (by decide +kernel) (gckM_ok qML_l qML_b) (gckM_cp qML_l qML_b gcp2 gcp3 gcp4) (gckM_ob qML_l qML_b gob2 gob3)
theorem goLlaw (E : List Nat) : gOk0 gPP gcl gGG gXX gGT (gtLlaw E) := goLlaw_0
