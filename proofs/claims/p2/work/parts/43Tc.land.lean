/-! ===== methods of the landed text (by program) ===== -/
set_option maxRecDepth 20000 in
set_option maxHeartbeats 4000000 in
theorem ct_Writer (d : Nat) {ty : Nat → Nat} {h : gH} (hJ : gJ rT 1027 ty h) (x : Nat) (tx : ty x = 200) (nx : 1027 ≤ x) (lx : x < h.1) (kx : h.2.2.1 x = some (.inr 10)) (zx : h.2.2.2.1 x = 0) (dx : ∀ k, h.2.2.2.2 x k = defaultValue (gGG.2.1 10 k)) (s : Nat) (ts : ty s = 56) (no0 : gNo [71, 72, 73, 74, 75, 76, 77, 78, 79, 80, 81, 85, 91, 92, 93, 94, 95, 96, 97, 98, 99] ty) (uq : gUq ty) : gz gPP gGG gcn (d + 2) gt90 0 (gent [.ref x, .ref s] 2) [] h (fun q _ => ∃ ty9 : Nat → Nat, gSg [71, 72, 73, 74, 75, 76, 77, 78, 79, 80, 81, 85, 91, 92, 93, 94, 95, 96, 97, 98, 99, 200] [x] [] ty h ty9 q.2.2 ∧ ty9 x = 71 ∧ gfin gt90 q.1 q.2.1 = some none ∧ ((q.2.2.1 : Int) = h.1 + 20) ∧ ((q.2.2.2.1 : Int) = h.2.1 + 4288) ∧ gUq ty9) := by
  have hS : gSs rT 1027 ty [] h h := gSs.rf hJ
  have G0 : gSg [71, 72, 73, 74, 75, 76, 77, 78, 79, 80, 81, 85, 91, 92, 93, 94, 95, 96, 97, 98, 99, 200] [x] [] ty h ty h := gSg.rf hJ (fun x hx => by rw [List.mem_singleton.mp hx, tx]; rfl)
  refine gz_s 1 (pc' := 1) (L' := [some (.ref x), some (.ref s)]) (S' := [.ref x]) rfl ?_
  refine gz_obj rfl (by decide) (by omega) rfl (by decide) ?_
  refine gz_s 2 (pc' := 7) (L' := [some (.ref x), some (.ref s)]) (S' := [.int (zi 64), .ref x]) rfl ?_
  refine gs_newr 72 rfl (by decide) rfl hS.1 (Nat.le_of_lt (Nat.lt_of_le_of_lt (gJ.cell hS.1 ts rfl).1 (gJ.cell hS.1 ts rfl).2.1)) (by omega) (by omega) rfl rfl (by show (64 : Int) ≤ _; omega) (by show _ ≤ (64 : Int); omega) (fun _ _ => gos_i (by decide) (by decide)) (fun ty1 h2 c3 g4 tc3 lc3 nc3 mc3 ec3 dc3 uc3 => ?_)
  have gac3 : h.1 ≤ c3 := by have h8 := G0.2.1; have h9 := hS.2.1; omega
  have uq5 := uc3 uq (Or.inr (gNo.sub (by decide) no0))
  have G6 : gSg [71, 72, 73, 74, 75, 76, 77, 78, 79, 80, 81, 85, 91, 92, 93, 94, 95, 96, 97, 98, 99, 200] [x] [] ty h ty1 h2 := gSg.tr (gSg.ss G0 hS (by decide)) g4 (by decide) (by decide) (fun x hx => by cases hx)
  have rw7 := gSg.raw g4 lx (fun w => by cases w)
  have rf8 := (rw7.2.2.1.trans kx)
  have rf9 := (rw7.2.2.2.trans zx)
  have dd10 := gSg.rawd (ci := 10) (ps := []) g4 lx (fun w => by cases w) tx (by decide) (fun k _ => dx k)
  have t11 : ty1 x = 200 := rw7.1.trans tx
  have t12 : ty1 s = 56 := gSg.typ g4 hS.1 ts rfl
  have pr13 : gNo [71, 73, 74, 75, 76, 77, 78, 79, 80, 81, 85, 91, 92, 93, 94, 95, 96, 97, 98, 99] ty1 := gNo.gr g4 (by decide) (gNo.sub (by decide) no0)
  have sS14 : gSs rT 1027 ty1 [] h2 h2 := gSs.rf g4.1
  refine gs_rput rfl (by decide) rfl sS14.1 t11 nx rw7.2.1 rf8 rfl (Or.inr rfl) (fun h15 g16 nh15 mh15 kh15 zh15 eh15 fh15 => ?_)
  have G17 : gSg [71, 72, 73, 74, 75, 76, 77, 78, 79, 80, 81, 85, 91, 92, 93, 94, 95, 96, 97, 98, 99, 200] [x] [] ty h ty1 h15 := gSg.tr (gSg.ss G6 sS14 (by decide)) g16 (by decide) (by decide) (fun x hx => Or.inr hx)
  have sS18 : gSs rT 1027 ty1 [] h15 h15 := gSs.rf g16.1
  have rf19 := Nat.lt_of_lt_of_eq rw7.2.1 nh15.symm
  have rf20 := zh15.trans rf9
  have dd21 : ∀ k, ¬ k ∈ ([1] : List Nat) → h15.2.2.2.2 x k = defaultValue (gGG.2.1 10 k) := raw_dp fh15 dd10
  refine gz_s 2 (pc' := 16) (L' := [some (.ref x), some (.ref s)]) (S' := [.int (zi 1024), .ref x]) rfl ?_
  refine gs_newr 73 rfl (by decide) rfl sS18.1 (Nat.le_of_lt (Nat.lt_of_le_of_lt (gJ.cell sS18.1 t12 rfl).1 (gJ.cell sS18.1 t12 rfl).2.1)) (by omega) (by omega) rfl rfl (by show (1024 : Int) ≤ _; omega) (by show _ ≤ (1024 : Int); omega) (fun _ _ => gos_i (by decide) (by decide)) (fun ty22 h23 c24 g25 tc24 lc24 nc24 mc24 ec24 dc24 uc24 => ?_)
  have gac24 : h.1 ≤ c24 := by have h8 := G17.2.1; have h9 := sS18.2.1; omega
  have uq26 := uc24 uq5 (Or.inr (gNo.sub (by decide) pr13))
  have G27 : gSg [71, 72, 73, 74, 75, 76, 77, 78, 79, 80, 81, 85, 91, 92, 93, 94, 95, 96, 97, 98, 99, 200] [x] [] ty h ty22 h23 := gSg.tr (gSg.ss G17 sS18 (by decide)) g25 (by decide) (by decide) (fun x hx => by cases hx)
  have rw28 := gSg.raw g25 rf19 (fun w => by cases w)
  have rf29 := (rw28.2.2.1.trans kh15)
  have rf30 := (rw28.2.2.2.trans rf20)
  have dd31 := gSg.rawd (ci := 10) (ps := [1]) g25 rf19 (fun w => by cases w) t11 (by decide) dd21
  have t32 : ty22 x = 200 := rw28.1.trans t11
  have t33 : ty22 s = 56 := gSg.typ g25 sS18.1 t12 rfl
  have t34 : ty22 c3 = 72 := gSg.typ g25 sS18.1 tc3 rfl
  have s35 := gSg.rawat g25 rf19 (fun w => by cases w) t11 (by decide) eh15
  have pr36 : gNo [71, 74, 75, 76, 77, 78, 79, 80, 81, 85, 91, 92, 93, 94, 95, 96, 97, 98, 99] ty22 := gNo.gr g25 (by decide) (gNo.sub (by decide) pr13)
  have sS37 : gSs rT 1027 ty22 [] h23 h23 := gSs.rf g25.1
  refine gs_rput rfl (by decide) rfl sS37.1 t32 nx rw28.2.1 rf29 rfl (Or.inr rfl) (fun h38 g39 nh38 mh38 kh38 zh38 eh38 fh38 => ?_)
  have G40 : gSg [71, 72, 73, 74, 75, 76, 77, 78, 79, 80, 81, 85, 91, 92, 93, 94, 95, 96, 97, 98, 99, 200] [x] [] ty h ty22 h38 := gSg.tr (gSg.ss G27 sS37 (by decide)) g39 (by decide) (by decide) (fun x hx => Or.inr hx)
  have sS41 : gSs rT 1027 ty22 [] h38 h38 := gSs.rf g39.1
  have rf42 := Nat.lt_of_lt_of_eq rw28.2.1 nh38.symm
  have rf43 := zh38.trans rf30
  have dd44 : ∀ k, ¬ k ∈ ([2, 1] : List Nat) → h38.2.2.2.2 x k = defaultValue (gGG.2.1 10 k) := raw_dp fh38 dd31
  have s45 := (fh38 1 (by decide)).trans s35
  refine gz_s 2 (pc' := 24) (L' := [some (.ref x), some (.ref s)]) (S' := [.int (zi 64), .ref x]) rfl ?_
  refine gs_newr 74 rfl (by decide) rfl sS41.1 (Nat.le_of_lt (Nat.lt_of_le_of_lt (gJ.cell sS41.1 t33 rfl).1 (gJ.cell sS41.1 t33 rfl).2.1)) (by omega) (by omega) rfl rfl (by show (64 : Int) ≤ _; omega) (by show _ ≤ (64 : Int); omega) (fun _ _ => gos_l (by decide) (by decide)) (fun ty46 h47 c48 g49 tc48 lc48 nc48 mc48 ec48 dc48 uc48 => ?_)
  have gac48 : h.1 ≤ c48 := by have h8 := G40.2.1; have h9 := sS41.2.1; omega
  have uq50 := uc48 uq26 (Or.inr (gNo.sub (by decide) pr36))
  have G51 : gSg [71, 72, 73, 74, 75, 76, 77, 78, 79, 80, 81, 85, 91, 92, 93, 94, 95, 96, 97, 98, 99, 200] [x] [] ty h ty46 h47 := gSg.tr (gSg.ss G40 sS41 (by decide)) g49 (by decide) (by decide) (fun x hx => by cases hx)
  have rw52 := gSg.raw g49 rf42 (fun w => by cases w)
  have rf53 := (rw52.2.2.1.trans kh38)
  have rf54 := (rw52.2.2.2.trans rf43)
  have dd55 := gSg.rawd (ci := 10) (ps := [2, 1]) g49 rf42 (fun w => by cases w) t32 (by decide) dd44
  have t56 : ty46 x = 200 := rw52.1.trans t32
  have t57 : ty46 s = 56 := gSg.typ g49 sS41.1 t33 rfl
  have t58 : ty46 c3 = 72 := gSg.typ g49 sS41.1 t34 rfl
  have t59 : ty46 c24 = 73 := gSg.typ g49 sS41.1 tc24 rfl
  have s60 := gSg.rawat g49 rf42 (fun w => by cases w) t32 (by decide) s45
  have s61 := gSg.rawat g49 rf42 (fun w => by cases w) t32 (by decide) eh38
  have pr62 : gNo [71, 75, 76, 77, 78, 79, 80, 81, 85, 91, 92, 93, 94, 95, 96, 97, 98, 99] ty46 := gNo.gr g49 (by decide) (gNo.sub (by decide) pr36)
  have sS63 : gSs rT 1027 ty46 [] h47 h47 := gSs.rf g49.1
  refine gs_rput rfl (by decide) rfl sS63.1 t56 nx rw52.2.1 rf53 rfl (Or.inr rfl) (fun h64 g65 nh64 mh64 kh64 zh64 eh64 fh64 => ?_)
  have G66 : gSg [71, 72, 73, 74, 75, 76, 77, 78, 79, 80, 81, 85, 91, 92, 93, 94, 95, 96, 97, 98, 99, 200] [x] [] ty h ty46 h64 := gSg.tr (gSg.ss G51 sS63 (by decide)) g65 (by decide) (by decide) (fun x hx => Or.inr hx)
  have sS67 : gSs rT 1027 ty46 [] h64 h64 := gSs.rf g65.1
  have rf68 := Nat.lt_of_lt_of_eq rw52.2.1 nh64.symm
  have rf69 := zh64.trans rf54
  have dd70 : ∀ k, ¬ k ∈ ([3, 2, 1] : List Nat) → h64.2.2.2.2 x k = defaultValue (gGG.2.1 10 k) := raw_dp fh64 dd55
  have s71 := (fh64 1 (by decide)).trans s60
  have s72 := (fh64 2 (by decide)).trans s61
  refine gz_s 2 (pc' := 31) (L' := [some (.ref x), some (.ref s)]) (S' := [.int (zi 2), .ref x]) rfl ?_
  refine gs_newq rfl (by decide) rfl sS67.1 (Nat.le_of_lt (Nat.lt_of_le_of_lt (gJ.cell sS67.1 t57 rfl).1 (gJ.cell sS67.1 t57 rfl).2.1)) (by omega) (by omega) (fun ty73 h74 c75 g76 tc75 kc75 zc75 nc75 mc75 ec75 => ?_)
  have gac75 : h.1 ≤ c75 := by have h8 := G66.2.1; have h9 := sS67.2.1; omega
  have nnc75 : 1027 ≤ c75 := by have h8 := (Nat.le_of_lt (Nat.lt_of_le_of_lt (gJ.cell sS67.1 t57 rfl).1 (gJ.cell sS67.1 t57 rfl).2.1)); omega
  have llc75 := Nat.lt_of_lt_of_eq (Nat.lt_succ_of_le (Nat.le_of_eq ec75)) nc75.symm
  have nex_c75 : x ≠ c75 := by have h8 := rf68; omega
  have G77 : gSg [71, 72, 73, 74, 75, 76, 77, 78, 79, 80, 81, 85, 91, 92, 93, 94, 95, 96, 97, 98, 99, 200] [x] [] ty h ty73 h74 := gSg.tr (gSg.ss G66 sS67 (by decide)) g76 (by decide) (by decide) (fun x hx => by cases hx)
  have rw78 := gSg.raw g76 rf68 (fun w => by cases w)
  have rf79 := (rw78.2.2.1.trans kh64)
  have rf80 := (rw78.2.2.2.trans rf69)
  have dd81 := gSg.rawd (ci := 10) (ps := [3, 2, 1]) g76 rf68 (fun w => by cases w) t56 (by decide) dd70
  have t82 : ty73 x = 200 := rw78.1.trans t56
  have t83 : ty73 s = 56 := gSg.typ g76 sS67.1 t57 rfl
  have t84 : ty73 c3 = 72 := gSg.typ g76 sS67.1 t58 rfl
  have t85 : ty73 c24 = 73 := gSg.typ g76 sS67.1 t59 rfl
  have t86 : ty73 c48 = 74 := gSg.typ g76 sS67.1 tc48 rfl
  have s87 := gSg.rawat g76 rf68 (fun w => by cases w) t56 (by decide) s71
  have s88 := gSg.rawat g76 rf68 (fun w => by cases w) t56 (by decide) s72
  have s89 := gSg.rawat g76 rf68 (fun w => by cases w) t56 (by decide) eh64
  have pr90 : gNo [71, 75, 76, 77, 78, 79, 80, 81, 85, 91, 92, 93, 94, 95, 96, 97, 98, 99] ty73 := gNo.gr g76 (by decide) (gNo.sub (by decide) pr62)
  have uq91 := gSg.uq g76 uq50 (by decide)
  have sS92 : gSs rT 1027 ty73 [] h74 h74 := gSs.rf g76.1
  refine gz_s 2 (pc' := 36) (L' := [some (.ref x), some (.ref s)]) (S' := [.int (zi 0), .ref c75, .ref c75, .ref x]) rfl ?_
  refine gs_newo rfl (by decide) rfl sS92.1 (Nat.le_of_lt (Nat.lt_of_le_of_lt (gJ.cell sS92.1 t83 rfl).1 (gJ.cell sS92.1 t83 rfl).2.1)) (fun ty93 h94 c95 g96 tc95 kc95 zc95 nc95 mc95 ec95 dc95 => ?_)
  have mfc95 : h94.2.1 = h74.2.1 + 9 := mc95
  have gac95 : h.1 ≤ c95 := by have h8 := G77.2.1; have h9 := sS92.2.1; omega
  have nnc95 : 1027 ≤ c95 := by have h8 := (Nat.le_of_lt (Nat.lt_of_le_of_lt (gJ.cell sS92.1 t83 rfl).1 (gJ.cell sS92.1 t83 rfl).2.1)); omega
  have llc95 := Nat.lt_of_lt_of_eq (Nat.lt_succ_of_le (Nat.le_of_eq ec95)) nc95.symm
  have nex_c95 : x ≠ c95 := by have h8 := rw78.2.1; omega
  have nec75_c95 : c75 ≠ c95 := by have h8 := llc75; omega
  have G97 : gSg [71, 72, 73, 74, 75, 76, 77, 78, 79, 80, 81, 85, 91, 92, 93, 94, 95, 96, 97, 98, 99, 200] [x] [] ty h ty93 h94 := gSg.tr (gSg.ss G77 sS92 (by decide)) g96 (by decide) (by decide) (fun x hx => by cases hx)
  have rw98 := gSg.raw g96 rw78.2.1 (fun w => by cases w)
  have rf99 := (rw98.2.2.1.trans rf79)
  have rf100 := (rw98.2.2.2.trans rf80)
  have dd101 := gSg.rawd (ci := 10) (ps := [3, 2, 1]) g96 rw78.2.1 (fun w => by cases w) t82 (by decide) dd81
  have t102 : ty93 x = 200 := rw98.1.trans t82
  have t103 : ty93 s = 56 := gSg.typ g96 sS92.1 t83 rfl
  have t104 : ty93 c3 = 72 := gSg.typ g96 sS92.1 t84 rfl
  have t105 : ty93 c24 = 73 := gSg.typ g96 sS92.1 t85 rfl
  have t106 : ty93 c48 = 74 := gSg.typ g96 sS92.1 t86 rfl
  have rw107 := gSg.raw g96 llc75 (fun w => by cases w)
  have rf108 := (rw107.2.2.1.trans kc75)
  have rf109 := (gcst rw107.2.2.2 zc75)
  have t110 : ty93 c75 = 200 := rw107.1.trans tc75
  have s111 := gSg.rawat g96 rw78.2.1 (fun w => by cases w) t82 (by decide) s87
  have s112 := gSg.rawat g96 rw78.2.1 (fun w => by cases w) t82 (by decide) s88
  have s113 := gSg.rawat g96 rw78.2.1 (fun w => by cases w) t82 (by decide) s89
  have pr114 : gNo [71, 75, 76, 77, 78, 79, 80, 81, 85, 91, 92, 93, 94, 95, 96, 97, 98, 99] ty93 := gNo.gr g96 (by decide) (gNo.sub (by decide) pr90)
  have uq115 := gSg.uq g96 uq91 (by decide)
  have sS116 : gSs rT 1027 ty93 [] h94 h94 := gSs.rf g96.1
  refine gz_s 1 (pc' := 40) (L' := [some (.ref x), some (.ref s)]) (S' := [.ref c95, .ref c95, .int (zi 0), .ref c75, .ref c75, .ref x]) rfl ?_
  refine gz_call rfl (by decide) rfl (by decide) (by decide) (gcal_of rfl rfl rfl (Nat.le_of_ble_eq_true rfl) rfl) (ct_Suited0 _ sS116.1 c95 tc95 nnc95 llc95 kc95 zc95 dc95 (gNo.sub (by decide) pr114) uq115) (fun q117 _ wq117 => ?_)
  obtain ⟨pq117, oq117, hq117⟩ := q117
  obtain ⟨tyq117, xq117, trq117_0, gq117, uq117_0, uq117_1, uqq117⟩ := wq117
  dsimp only at uq117_0 uq117_1
  refine ⟨_, gq117, ?_⟩
  show gz gPP gGG gcn _ _ 43 [some (.ref x), some (.ref s)] [.ref c95, .int (zi 0), .ref c75, .ref c75, .ref x] hq117 _
  have G118 : gSg [71, 72, 73, 74, 75, 76, 77, 78, 79, 80, 81, 85, 91, 92, 93, 94, 95, 96, 97, 98, 99, 200] [x] [] ty h tyq117 hq117 := gSg.tr (gSg.ss G97 sS116 (by decide)) xq117 (by decide) (by decide) (fun x hx => Or.inl (by rw [List.mem_singleton.mp hx]; exact gac95))
  have rw119 := gSg.raw xq117 rw98.2.1 (fun w => nex_c95 (List.mem_singleton.mp w))
  have rf120 := (rw119.2.2.1.trans rf99)
  have rf121 := (rw119.2.2.2.trans rf100)
  have dd122 := gSg.rawd (ci := 10) (ps := [3, 2, 1]) xq117 rw98.2.1 (fun w => nex_c95 (List.mem_singleton.mp w)) t102 (by decide) dd101
  have t123 : tyq117 x = 200 := rw119.1.trans t102
  have t124 : tyq117 s = 56 := gSg.typ xq117 sS116.1 t103 rfl
  have t125 : tyq117 c3 = 72 := gSg.typ xq117 sS116.1 t104 rfl
  have t126 : tyq117 c24 = 73 := gSg.typ xq117 sS116.1 t105 rfl
  have t127 : tyq117 c48 = 74 := gSg.typ xq117 sS116.1 t106 rfl
  have rw128 := gSg.raw xq117 rw107.2.1 (fun w => nec75_c95 (List.mem_singleton.mp w))
  have rf129 := (rw128.2.2.1.trans rf108)
  have rf130 := (gcst rw128.2.2.2 rf109)
  have t131 : tyq117 c75 = 200 := rw128.1.trans t110
  have s132 := gSg.rawat xq117 rw98.2.1 (fun w => nex_c95 (List.mem_singleton.mp w)) t102 (by decide) s111
  have s133 := gSg.rawat xq117 rw98.2.1 (fun w => nex_c95 (List.mem_singleton.mp w)) t102 (by decide) s112
  have s134 := gSg.rawat xq117 rw98.2.1 (fun w => nex_c95 (List.mem_singleton.mp w)) t102 (by decide) s113
  have pr135 : gNo [71, 75, 76, 77, 78, 79, 80, 81, 85, 92] tyq117 := gNo.gr xq117 (by decide) (gNo.sub (by decide) pr114)
  have sS136 : gSs rT 1027 tyq117 [] hq117 hq117 := gSs.rf xq117.1
  refine gs_rast (j := 0) rfl (by decide) sS136.1 t131 nnc75 rw128.2.1 rf129 rfl (gJ.cell sS136.1 trq117_0 rfl).1 (gJ.cell sS136.1 trq117_0 rfl).2.1 (gJ.cell sS136.1 trq117_0 rfl).2.2 rfl (by have h9 : (hq117.2.2.2.1 c75 : Int) = 2 := rf130; omega) (by have h9 : (hq117.2.2.2.1 c75 : Int) = 2 := rf130; omega) (fun h137 g138 nh137 mh137 kh137 zh137 eh137 fh137 => ?_)
  have G139 : gSg [71, 72, 73, 74, 75, 76, 77, 78, 79, 80, 81, 85, 91, 92, 93, 94, 95, 96, 97, 98, 99, 200] [x] [] ty h tyq117 h137 := gSg.tr (gSg.ss G118 sS136 (by decide)) g138 (by decide) (by decide) (fun x hx => Or.inl (by rw [List.mem_singleton.mp hx]; exact gac75))
  have rw140 := gSg.raw g138 rw119.2.1 (fun w => nex_c75 (List.mem_singleton.mp w))
  have rf141 := (rw140.2.2.1.trans rf120)
  have rf142 := (rw140.2.2.2.trans rf121)
  have dd143 := gSg.rawd (ci := 10) (ps := [3, 2, 1]) g138 rw119.2.1 (fun w => nex_c75 (List.mem_singleton.mp w)) t123 (by decide) dd122
  have s144 := gSg.rawat g138 rw119.2.1 (fun w => nex_c75 (List.mem_singleton.mp w)) t123 (by decide) s132
  have s145 := gSg.rawat g138 rw119.2.1 (fun w => nex_c75 (List.mem_singleton.mp w)) t123 (by decide) s133
  have s146 := gSg.rawat g138 rw119.2.1 (fun w => nex_c75 (List.mem_singleton.mp w)) t123 (by decide) s134
  have sS147 : gSs rT 1027 tyq117 [] h137 h137 := gSs.rf g138.1
  have rf148 := Nat.lt_of_lt_of_eq rw128.2.1 nh137.symm
  have rf149 := gcst zh137 rf130
  refine gz_s 2 (pc' := 46) (L' := [some (.ref x), some (.ref s)]) (S' := [.int (zi 1), .ref c75, .ref c75, .ref x]) rfl ?_
  refine gs_newo rfl (by decide) rfl sS147.1 (Nat.le_of_lt (Nat.lt_of_le_of_lt (gJ.cell sS147.1 t124 rfl).1 (gJ.cell sS147.1 t124 rfl).2.1)) (fun ty150 h151 c152 g153 tc152 kc152 zc152 nc152 mc152 ec152 dc152 => ?_)
  have mfc152 : h151.2.1 = h137.2.1 + 9 := mc152
  have gac152 : h.1 ≤ c152 := by have h8 := G139.2.1; have h9 := sS147.2.1; omega
  have nnc152 : 1027 ≤ c152 := by have h8 := (Nat.le_of_lt (Nat.lt_of_le_of_lt (gJ.cell sS147.1 t124 rfl).1 (gJ.cell sS147.1 t124 rfl).2.1)); omega
  have llc152 := Nat.lt_of_lt_of_eq (Nat.lt_succ_of_le (Nat.le_of_eq ec152)) nc152.symm
  have nex_c152 : x ≠ c152 := by have h8 := rw140.2.1; omega
  have nec75_c152 : c75 ≠ c152 := by have h8 := rf148; omega
  have G154 : gSg [71, 72, 73, 74, 75, 76, 77, 78, 79, 80, 81, 85, 91, 92, 93, 94, 95, 96, 97, 98, 99, 200] [x] [] ty h ty150 h151 := gSg.tr (gSg.ss G139 sS147 (by decide)) g153 (by decide) (by decide) (fun x hx => by cases hx)
  have rw155 := gSg.raw g153 rw140.2.1 (fun w => by cases w)
  have rf156 := (rw155.2.2.1.trans rf141)
  have rf157 := (rw155.2.2.2.trans rf142)
  have dd158 := gSg.rawd (ci := 10) (ps := [3, 2, 1]) g153 rw140.2.1 (fun w => by cases w) t123 (by decide) dd143
  have t159 : ty150 x = 200 := rw155.1.trans t123
  have t160 : ty150 s = 56 := gSg.typ g153 sS147.1 t124 rfl
  have t161 : ty150 c3 = 72 := gSg.typ g153 sS147.1 t125 rfl
  have t162 : ty150 c24 = 73 := gSg.typ g153 sS147.1 t126 rfl
  have t163 : ty150 c48 = 74 := gSg.typ g153 sS147.1 t127 rfl
  have rw164 := gSg.raw g153 rf148 (fun w => by cases w)
  have rf165 := (rw164.2.2.1.trans kh137)
  have rf166 := (gcst rw164.2.2.2 rf149)
  have t167 : ty150 c75 = 200 := rw164.1.trans t131
  have t168 : ty150 c95 = 91 := gSg.typ g153 sS147.1 trq117_0 rfl
  have s169 := gSg.rawat g153 rw140.2.1 (fun w => by cases w) t123 (by decide) s144
  have s170 := gSg.rawat g153 rw140.2.1 (fun w => by cases w) t123 (by decide) s145
  have s171 := gSg.rawat g153 rw140.2.1 (fun w => by cases w) t123 (by decide) s146
  have s172 := gSg.rawat g153 rf148 (fun w => by cases w) t131 (by decide) eh137
  have pr173 : gNo [71, 75, 76, 77, 78, 79, 80, 81, 85, 92] ty150 := gNo.gr g153 (by decide) (gNo.sub (by decide) pr135)
  have uq174 := gSg.uq g153 uqq117 (by decide)
  have sS175 : gSs rT 1027 ty150 [] h151 h151 := gSs.rf g153.1
  refine gz_s 1 (pc' := 50) (L' := [some (.ref x), some (.ref s)]) (S' := [.ref c152, .ref c152, .int (zi 1), .ref c75, .ref c75, .ref x]) rfl ?_
  refine gz_call rfl (by decide) rfl (by decide) (by decide) (gcal_of rfl rfl rfl (Nat.le_of_ble_eq_true rfl) rfl) (ct_Suited1 _ sS175.1 c152 tc152 nnc152 llc152 kc152 zc152 dc152 (gNo.sub (by decide) pr173) uq174) (fun q176 _ wq176 => ?_)
  obtain ⟨pq176, oq176, hq176⟩ := q176
  obtain ⟨tyq176, xq176, trq176_0, gq176, uq176_0, uq176_1, uqq176⟩ := wq176
  dsimp only at uq176_0 uq176_1
  refine ⟨_, gq176, ?_⟩
  show gz gPP gGG gcn _ _ 53 [some (.ref x), some (.ref s)] [.ref c152, .int (zi 1), .ref c75, .ref c75, .ref x] hq176 _
  have G177 : gSg [71, 72, 73, 74, 75, 76, 77, 78, 79, 80, 81, 85, 91, 92, 93, 94, 95, 96, 97, 98, 99, 200] [x] [] ty h tyq176 hq176 := gSg.tr (gSg.ss G154 sS175 (by decide)) xq176 (by decide) (by decide) (fun x hx => Or.inl (by rw [List.mem_singleton.mp hx]; exact gac152))
  have rw178 := gSg.raw xq176 rw155.2.1 (fun w => nex_c152 (List.mem_singleton.mp w))
  have rf179 := (rw178.2.2.1.trans rf156)
  have rf180 := (rw178.2.2.2.trans rf157)
  have dd181 := gSg.rawd (ci := 10) (ps := [3, 2, 1]) xq176 rw155.2.1 (fun w => nex_c152 (List.mem_singleton.mp w)) t159 (by decide) dd158
  have t182 : tyq176 x = 200 := rw178.1.trans t159
  have t183 : tyq176 s = 56 := gSg.typ xq176 sS175.1 t160 rfl
  have t184 : tyq176 c3 = 72 := gSg.typ xq176 sS175.1 t161 rfl
  have t185 : tyq176 c24 = 73 := gSg.typ xq176 sS175.1 t162 rfl
  have t186 : tyq176 c48 = 74 := gSg.typ xq176 sS175.1 t163 rfl
  have rw187 := gSg.raw xq176 rw164.2.1 (fun w => nec75_c152 (List.mem_singleton.mp w))
  have rf188 := (rw187.2.2.1.trans rf165)
  have rf189 := (gcst rw187.2.2.2 rf166)
  have t190 : tyq176 c75 = 200 := rw187.1.trans t167
  have t191 : tyq176 c95 = 91 := gSg.typ xq176 sS175.1 t168 rfl
  have s192 := gSg.rawat xq176 rw155.2.1 (fun w => nex_c152 (List.mem_singleton.mp w)) t159 (by decide) s169
  have s193 := gSg.rawat xq176 rw155.2.1 (fun w => nex_c152 (List.mem_singleton.mp w)) t159 (by decide) s170
  have s194 := gSg.rawat xq176 rw155.2.1 (fun w => nex_c152 (List.mem_singleton.mp w)) t159 (by decide) s171
  have s195 := gSg.rawat xq176 rw164.2.1 (fun w => nec75_c152 (List.mem_singleton.mp w)) t167 (by decide) s172
  have pr196 : gNo [71, 75] tyq176 := gNo.gr xq176 (by decide) (gNo.sub (by decide) pr173)
  have sS197 : gSs rT 1027 tyq176 [] hq176 hq176 := gSs.rf xq176.1
  refine gs_rast (j := 1) rfl (by decide) sS197.1 t190 nnc75 rw187.2.1 rf188 rfl (gJ.cell sS197.1 trq176_0 rfl).1 (gJ.cell sS197.1 trq176_0 rfl).2.1 (gJ.cell sS197.1 trq176_0 rfl).2.2 rfl (by have h9 : (hq176.2.2.2.1 c75 : Int) = 2 := rf189; omega) (by have h9 : (hq176.2.2.2.1 c75 : Int) = 2 := rf189; omega) (fun h198 g199 nh198 mh198 kh198 zh198 eh198 fh198 => ?_)
  have G200 : gSg [71, 72, 73, 74, 75, 76, 77, 78, 79, 80, 81, 85, 91, 92, 93, 94, 95, 96, 97, 98, 99, 200] [x] [] ty h tyq176 h198 := gSg.tr (gSg.ss G177 sS197 (by decide)) g199 (by decide) (by decide) (fun x hx => Or.inl (by rw [List.mem_singleton.mp hx]; exact gac75))
  have rw201 := gSg.raw g199 rw178.2.1 (fun w => nex_c75 (List.mem_singleton.mp w))
  have rf202 := (rw201.2.2.1.trans rf179)
  have rf203 := (rw201.2.2.2.trans rf180)
  have dd204 := gSg.rawd (ci := 10) (ps := [3, 2, 1]) g199 rw178.2.1 (fun w => nex_c75 (List.mem_singleton.mp w)) t182 (by decide) dd181
  have s205 := gSg.rawat g199 rw178.2.1 (fun w => nex_c75 (List.mem_singleton.mp w)) t182 (by decide) s192
  have s206 := gSg.rawat g199 rw178.2.1 (fun w => nex_c75 (List.mem_singleton.mp w)) t182 (by decide) s193
  have s207 := gSg.rawat g199 rw178.2.1 (fun w => nex_c75 (List.mem_singleton.mp w)) t182 (by decide) s194
  have sS208 : gSs rT 1027 tyq176 [] h198 h198 := gSs.rf g199.1
  have rf209 := Nat.lt_of_lt_of_eq rw187.2.1 nh198.symm
  have rf210 := gcst zh198 rf189
  have s211 := (fh198 0 (by decide)).trans s195
  refine gs_rput rfl (by decide) rfl sS208.1 t182 nx rw201.2.1 rf202 rfl (Or.inr rfl) (fun h212 g213 nh212 mh212 kh212 zh212 eh212 fh212 => ?_)
  have G214 : gSg [71, 72, 73, 74, 75, 76, 77, 78, 79, 80, 81, 85, 91, 92, 93, 94, 95, 96, 97, 98, 99, 200] [x] [] ty h tyq176 h212 := gSg.tr (gSg.ss G200 sS208 (by decide)) g213 (by decide) (by decide) (fun x hx => Or.inr hx)
  have rw215 := gSg.raw g213 rf209 (fun w => nex_c75.symm (List.mem_singleton.mp w))
  have rf216 := (rw215.2.2.1.trans kh198)
  have rf217 := (gcst rw215.2.2.2 rf210)
  have s218 := gSg.rawat g213 rf209 (fun w => nex_c75.symm (List.mem_singleton.mp w)) t190 (by decide) s211
  have s219 := gSg.rawat g213 rf209 (fun w => nex_c75.symm (List.mem_singleton.mp w)) t190 (by decide) eh198
  have sS220 : gSs rT 1027 tyq176 [] h212 h212 := gSs.rf g213.1
  have rf221 := Nat.lt_of_lt_of_eq rw201.2.1 nh212.symm
  have rf222 := zh212.trans rf203
  have dd223 : ∀ k, ¬ k ∈ ([4, 3, 2, 1] : List Nat) → h212.2.2.2.2 x k = defaultValue (gGG.2.1 10 k) := raw_dp fh212 dd204
  have s224 := (fh212 1 (by decide)).trans s205
  have s225 := (fh212 2 (by decide)).trans s206
  have s226 := (fh212 3 (by decide)).trans s207
  refine gz_s 2 (pc' := 59) (L' := [some (.ref x), some (.ref s)]) (S' := [.ref s, .ref x]) rfl ?_
  refine gs_rput rfl (by decide) rfl sS220.1 t182 nx rf221 kh212 rfl (Or.inr rfl) (fun h227 g228 nh227 mh227 kh227 zh227 eh227 fh227 => ?_)
  have G229 : gSg [71, 72, 73, 74, 75, 76, 77, 78, 79, 80, 81, 85, 91, 92, 93, 94, 95, 96, 97, 98, 99, 200] [x] [] ty h tyq176 h227 := gSg.tr (gSg.ss G214 sS220 (by decide)) g228 (by decide) (by decide) (fun x hx => Or.inr hx)
  have rw230 := gSg.raw g228 rw215.2.1 (fun w => nex_c75.symm (List.mem_singleton.mp w))
  have rf231 := (rw230.2.2.1.trans rf216)
  have rf232 := (gcst rw230.2.2.2 rf217)
  have s233 := gSg.rawat g228 rw215.2.1 (fun w => nex_c75.symm (List.mem_singleton.mp w)) t190 (by decide) s218
  have s234 := gSg.rawat g228 rw215.2.1 (fun w => nex_c75.symm (List.mem_singleton.mp w)) t190 (by decide) s219
  have sS235 : gSs rT 1027 tyq176 [] h227 h227 := gSs.rf g228.1
  have rf236 := Nat.lt_of_lt_of_eq rf221 nh227.symm
  have rf237 := zh227.trans rf222
  have dd238 : ∀ k, ¬ k ∈ ([0, 4, 3, 2, 1] : List Nat) → h227.2.2.2.2 x k = defaultValue (gGG.2.1 10 k) := raw_dp fh227 dd223
  have s239 := (fh227 1 (by decide)).trans s224
  have s240 := (fh227 2 (by decide)).trans s225
  have s241 := (fh227 3 (by decide)).trans s226
  have s242 := (fh227 4 (by decide)).trans eh212
  obtain ⟨ty244, g243, tg243, ug243⟩ := gSg.adx 75 sS235.1 t190 nnc75 rw230.2.1 rfl rf231 (by show (2 : Nat) ≤ _; have h9 := rf232; omega) (by show _ ≤ (2 : Nat); have h9 := rf232; omega) (fun ty9 w9 k hk => ad75 (by rw [s233]; exact ⟨c95, rfl, w9 c95 _ t191 (by decide)⟩) (by rw [s234]; exact ⟨c152, rfl, w9 c152 _ trq176_0 (by decide)⟩) k (by have h8 : k < h227.2.2.2.1 c75 := hk; have h9 := rf232; omega))
  have uq245 := ug243 uqq176 (Or.inr (gNo.sub (by decide) pr196))
  have G246 : gSg [71, 72, 73, 74, 75, 76, 77, 78, 79, 80, 81, 85, 91, 92, 93, 94, 95, 96, 97, 98, 99, 200] [x] [] ty h ty244 h227 := gSg.tr (gSg.ss G229 sS235 (by decide)) g243 (by decide) (by decide) (fun x hx => Or.inl (by rw [List.mem_singleton.mp hx]; exact gac75))
  have rw247 := gSg.raw g243 rf236 (fun w => nex_c75 (List.mem_singleton.mp w))
  have rf248 := (rw247.2.2.1.trans kh227)
  have rf249 := (rw247.2.2.2.trans rf237)
  have t250 : ty244 x = 200 := rw247.1.trans t182
  have t251 : ty244 s = 56 := gSg.typ g243 sS235.1 t183 rfl
  have t252 : ty244 c3 = 72 := gSg.typ g243 sS235.1 t184 rfl
  have t253 : ty244 c24 = 73 := gSg.typ g243 sS235.1 t185 rfl
  have t254 : ty244 c48 = 74 := gSg.typ g243 sS235.1 t186 rfl
  have t255 : ty244 c95 = 91 := gSg.typ g243 sS235.1 t191 rfl
  have t256 : ty244 c152 = 92 := gSg.typ g243 sS235.1 trq176_0 rfl
  have pr257 : gNo [71] ty244 := gNo.gr g243 (by decide) (gNo.sub (by decide) pr196)
  have sS258 : gSs rT 1027 ty244 [] h227 h227 := gSs.rf g243.1
  obtain ⟨ty260, g259, tg259, ug259⟩ := gSg.adx 71 sS258.1 t250 nx rw247.2.1 rfl rf248 (by show (0 : Nat) ≤ _; have h9 := rf249; omega) (by show _ ≤ (0 : Nat); have h9 := rf249; omega) (fun ty9 w9 k hk => ad71 (by rw [eh227]; exact ⟨s, rfl, w9 s _ t251 (by decide)⟩) (by rw [s239]; exact ⟨c3, rfl, w9 c3 _ t252 (by decide)⟩) (by rw [s240]; exact ⟨c24, rfl, w9 c24 _ t253 (by decide)⟩) (by rw [s241]; exact ⟨c48, rfl, w9 c48 _ t254 (by decide)⟩) (by rw [s242]; exact ⟨c75, rfl, w9 c75 _ tg243 (by decide)⟩) (by rw [(show h227.2.2.2.2 x 5 = .int (zi 0) from dd238 5 (by decide))]; exact ⟨0, rfl, by show (0 : Int) ≤ _; omega, by show _ ≤ (16 : Int); omega⟩) (by rw [(show h227.2.2.2.2 x 6 = .int (zi 0) from dd238 6 (by decide))]; exact ⟨0, rfl, by show (0 : Int) ≤ _; omega, by show _ ≤ (100 : Int); omega⟩) (by rw [(show h227.2.2.2.2 x 7 = .int (zi 0) from dd238 7 (by decide))]; exact ⟨0, rfl, by show (0 : Int) ≤ _; omega, by show _ ≤ (63 : Int); omega⟩) (by rw [(show h227.2.2.2.2 x 8 = .int (zi 0) from dd238 8 (by decide))]; exact ⟨0, rfl, by show (0 : Int) ≤ _; omega, by show _ ≤ (63 : Int); omega⟩) (by rw [(show h227.2.2.2.2 x 9 = .int (zi 0) from dd238 9 (by decide))]; exact ⟨0, rfl, by show (0 : Int) ≤ _; omega, by show _ ≤ (4 : Int); omega⟩) (by rw [(show h227.2.2.2.2 x 10 = .int (zi 0) from dd238 10 (by decide))]; exact ⟨0, rfl, by show (0 : Int) ≤ _; omega, by show _ ≤ (3 : Int); omega⟩) (by rw [(show h227.2.2.2.2 x 11 = .int (zi 0) from dd238 11 (by decide))]; exact ⟨0, rfl, by show (0 : Int) ≤ _; omega, by show _ ≤ (1 : Int); omega⟩) (by rw [(show h227.2.2.2.2 x 12 = .int (zi 0) from dd238 12 (by decide))]; exact ⟨0, rfl, by show ((-2048) : Int) ≤ _; omega, by show _ ≤ (2048 : Int); omega⟩) (by rw [(show h227.2.2.2.2 x 13 = .long (zl 0) from dd238 13 (by decide))]; exact ⟨0, rfl, by show ((-9223372036854775808) : Int) ≤ _; omega, by show _ ≤ (9223372036854775807 : Int); omega⟩) (by rw [(show h227.2.2.2.2 x 14 = .int (zi 0) from dd238 14 (by decide))]; exact ⟨0, rfl, by show (0 : Int) ≤ _; omega, by show _ ≤ (64 : Int); omega⟩) k)
  have uq261 := ug259 uq245 (Or.inr pr257)
  have G262 : gSg [71, 72, 73, 74, 75, 76, 77, 78, 79, 80, 81, 85, 91, 92, 93, 94, 95, 96, 97, 98, 99, 200] [x] [] ty h ty260 h227 := gSg.tr (gSg.ss G246 sS258 (by decide)) g259 (by decide) (by decide) (fun x hx => Or.inr hx)
  have t263 : ty260 s = 56 := gSg.typ g259 sS258.1 t251 rfl
  have t264 : ty260 c3 = 72 := gSg.typ g259 sS258.1 t252 rfl
  have t265 : ty260 c24 = 73 := gSg.typ g259 sS258.1 t253 rfl
  have t266 : ty260 c48 = 74 := gSg.typ g259 sS258.1 t254 rfl
  have t267 : ty260 c75 = 75 := gSg.typ g259 sS258.1 tg243 rfl
  have t268 : ty260 c95 = 91 := gSg.typ g259 sS258.1 t255 rfl
  have t269 : ty260 c152 = 92 := gSg.typ g259 sS258.1 t256 rfl
  have sS270 : gSs rT 1027 ty260 [] h227 h227 := gSs.rf g259.1
  have G271 : gSg [71, 72, 73, 74, 75, 76, 77, 78, 79, 80, 81, 85, 91, 92, 93, 94, 95, 96, 97, 98, 99, 200] [x] [] ty h ty260 h227 := gSg.ss G262 sS270 (by decide)
  exact gz_end (I := .return_) (len := 1) rfl (Or.inl rfl) ⟨ty260, G271, tg259, rfl, (by dsimp only; omega), (by dsimp only; omega), uq261⟩
set_option maxRecDepth 20000 in
set_option maxHeartbeats 4000000 in
theorem ct_Collected (d : Nat) {ty : Nat → Nat} {h : gH} (hJ : gJ rT 1027 ty h) (x : Nat) (tx : ty x = 200) (nx : 1027 ≤ x) (lx : x < h.1) (kx : h.2.2.1 x = some (.inr 3)) (zx : h.2.2.2.1 x = 0) (dx : ∀ k, h.2.2.2.2 x k = defaultValue (gGG.2.1 3 k)) (no0 : gNo [51, 52] ty) (uq : gUq ty) : gz gPP gGG gcn (d + 1) gt1 0 (gent [.ref x] 1) [] h (fun q _ => ∃ ty9 : Nat → Nat, gSg [51, 52, 200] [x] [] ty h ty9 q.2.2 ∧ ∃ sz : Int, ty9 x = 51 ∧ gfin gt1 q.1 q.2.1 = some none ∧ q.2.2.2.2.2.2 x 1 = .int (zi sz) ∧ 0 ≤ sz ∧ sz ≤ 2000 ∧ ((q.2.2.1 : Int) = h.1 + 1) ∧ ((q.2.2.2.1 : Int) = h.2.1 + 2000) ∧ (sz = 0) ∧ gUq ty9) := by
  have hS : gSs rT 1027 ty [] h h := gSs.rf hJ
  have G0 : gSg [51, 52, 200] [x] [] ty h ty h := gSg.rf hJ (fun x hx => by rw [List.mem_singleton.mp hx, tx]; rfl)
  refine gz_s 1 (pc' := 1) (L' := [some (.ref x)]) (S' := [.ref x]) rfl ?_
  refine gz_obj rfl (by decide) (by omega) rfl (by decide) ?_
  refine gz_s 2 (pc' := 8) (L' := [some (.ref x)]) (S' := [.int (zi 2000), .ref x]) rfl ?_
  refine gs_newr 52 rfl (by decide) rfl hS.1 (Nat.le_of_lt (Nat.lt_of_le_of_lt nx lx)) (by omega) (by omega) rfl rfl (by show (2000 : Int) ≤ _; omega) (by show _ ≤ (2000 : Int); omega) (fun _ _ => gos_i (by decide) (by decide)) (fun ty1 h2 c3 g4 tc3 lc3 nc3 mc3 ec3 dc3 uc3 => ?_)
  have gac3 : h.1 ≤ c3 := by have h8 := G0.2.1; have h9 := hS.2.1; omega
  have uq5 := uc3 uq (Or.inr (gNo.sub (by decide) no0))
  have G6 : gSg [51, 52, 200] [x] [] ty h ty1 h2 := gSg.tr (gSg.ss G0 hS (by decide)) g4 (by decide) (by decide) (fun x hx => by cases hx)
  have rw7 := gSg.raw g4 lx (fun w => by cases w)
  have rf8 := (rw7.2.2.1.trans kx)
  have rf9 := (rw7.2.2.2.trans zx)
  have dd10 := gSg.rawd (ci := 3) (ps := []) g4 lx (fun w => by cases w) tx (by decide) (fun k _ => dx k)
  have t11 : ty1 x = 200 := rw7.1.trans tx
  have pr12 : gNo [51] ty1 := gNo.gr g4 (by decide) (gNo.sub (by decide) no0)
  have sS13 : gSs rT 1027 ty1 [] h2 h2 := gSs.rf g4.1
  refine gs_rput rfl (by decide) rfl sS13.1 t11 nx rw7.2.1 rf8 rfl (Or.inr rfl) (fun h14 g15 nh14 mh14 kh14 zh14 eh14 fh14 => ?_)
  have G16 : gSg [51, 52, 200] [x] [] ty h ty1 h14 := gSg.tr (gSg.ss G6 sS13 (by decide)) g15 (by decide) (by decide) (fun x hx => Or.inr hx)
  have sS17 : gSs rT 1027 ty1 [] h14 h14 := gSs.rf g15.1
  have rf18 := Nat.lt_of_lt_of_eq rw7.2.1 nh14.symm
  have rf19 := zh14.trans rf9
  have dd20 : ∀ k, ¬ k ∈ ([0] : List Nat) → h14.2.2.2.2 x k = defaultValue (gGG.2.1 3 k) := raw_dp fh14 dd10
  have df21 := (show h14.2.2.2.2 x 1 = .int (zi 0) from dd20 1 (by decide))
  obtain ⟨ty23, g22, tg22, ug22⟩ := gSg.adx 51 sS17.1 t11 nx rf18 rfl kh14 (by show (0 : Nat) ≤ _; have h9 := rf19; omega) (by show _ ≤ (0 : Nat); have h9 := rf19; omega) (fun ty9 w9 k hk => ad51 (by rw [eh14]; exact ⟨c3, rfl, w9 c3 _ tc3 (by decide)⟩) (by rw [df21]; exact ⟨0, rfl, by show (0 : Int) ≤ _; omega, by show _ ≤ (2000 : Int); omega⟩) k)
  have uq24 := ug22 uq5 (Or.inr pr12)
  have G25 : gSg [51, 52, 200] [x] [] ty h ty23 h14 := gSg.tr (gSg.ss G16 sS17 (by decide)) g22 (by decide) (by decide) (fun x hx => Or.inr hx)
  have t26 : ty23 c3 = 52 := gSg.typ g22 sS17.1 tc3 rfl
  have sS27 : gSs rT 1027 ty23 [] h14 h14 := gSs.rf g22.1
  have G28 : gSg [51, 52, 200] [x] [] ty h ty23 h14 := gSg.ss G25 sS27 (by decide)
  exact gz_end (I := .return_) (len := 1) rfl (Or.inl rfl) ⟨ty23, G28, 0, tg22, rfl, df21, (by omega), (by omega), (by dsimp only; omega), (by dsimp only; omega), (by omega), uq24⟩
set_option maxRecDepth 20000 in
set_option maxHeartbeats 4000000 in
theorem ct_Sink (d : Nat) {ty : Nat → Nat} {h : gH} (hJ : gJ rT 1027 ty h) (x : Nat) (tx : ty x = 200) (nx : 1027 ≤ x) (lx : x < h.1) (kx : h.2.2.1 x = some (.inr 8)) (zx : h.2.2.2.1 x = 0) (dx : ∀ k, h.2.2.2.2 x k = defaultValue (gGG.2.1 8 k)) (no0 : gNo [56] ty) (uq : gUq ty) : gz gPP gGG gcn (d + 1) gt6 0 (gent [.ref x] 1) [] h (fun q _ => ∃ ty9 : Nat → Nat, gSg [56, 114, 200] [x] [] ty h ty9 q.2.2 ∧ ∃ bt2 : Nat, True ∧ ∃ c1 : Int, q.2.2.2.2.2.2 x 0 = .ref bt2 ∧ ty9 bt2 = 114 ∧ ty9 x = 56 ∧ gfin gt6 q.1 q.2.1 = some none ∧ q.2.2.2.2.2.2 x 1 = .int (zi c1) ∧ 0 ≤ c1 ∧ c1 ≤ 500000 ∧ ((q.2.2.1 : Int) = h.1 + 1) ∧ ((q.2.2.2.1 : Int) = h.2.1 + 1024) ∧ (c1 = 0) ∧ (((q.2.2.2.2.2.1 bt2 : Int) = 1024)) ∧ gUq ty9) := by
  have hS : gSs rT 1027 ty [] h h := gSs.rf hJ
  have G0 : gSg [56, 114, 200] [x] [] ty h ty h := gSg.rf hJ (fun x hx => by rw [List.mem_singleton.mp hx, tx]; rfl)
  refine gz_s 1 (pc' := 1) (L' := [some (.ref x)]) (S' := [.ref x]) rfl ?_
  refine gz_obj rfl (by decide) (by omega) rfl (by decide) ?_
  refine gz_s 2 (pc' := 8) (L' := [some (.ref x)]) (S' := [.int (zi 1024), .ref x]) rfl ?_
  refine gs_newr 114 rfl (by decide) rfl hS.1 (Nat.le_of_lt (Nat.lt_of_le_of_lt nx lx)) (by omega) (by omega) rfl rfl (by show (1024 : Int) ≤ _; omega) (by show _ ≤ (1000000 : Int); omega) (fun _ _ => gos_i (by decide) (by decide)) (fun ty1 h2 c3 g4 tc3 lc3 nc3 mc3 ec3 dc3 uc3 => ?_)
  have gac3 : h.1 ≤ c3 := by have h8 := G0.2.1; have h9 := hS.2.1; omega
  have uq5 := uc3 uq (Or.inl (by decide))
  have G6 : gSg [56, 114, 200] [x] [] ty h ty1 h2 := gSg.tr (gSg.ss G0 hS (by decide)) g4 (by decide) (by decide) (fun x hx => by cases hx)
  have rw7 := gSg.raw g4 lx (fun w => by cases w)
  have rf8 := (rw7.2.2.1.trans kx)
  have rf9 := (rw7.2.2.2.trans zx)
  have dd10 := gSg.rawd (ci := 8) (ps := []) g4 lx (fun w => by cases w) tx (by decide) (fun k _ => dx k)
  have t11 : ty1 x = 200 := rw7.1.trans tx
  have pr12 : gNo [56] ty1 := gNo.gr g4 (by decide) (gNo.sub (by decide) no0)
  have sS13 : gSs rT 1027 ty1 [] h2 h2 := gSs.rf g4.1
  refine gs_rput rfl (by decide) rfl sS13.1 t11 nx rw7.2.1 rf8 rfl (Or.inl rfl) (fun h14 g15 nh14 mh14 kh14 zh14 eh14 fh14 => ?_)
  have G16 : gSg [56, 114, 200] [x] [] ty h ty1 h14 := gSg.tr (gSg.ss G6 sS13 (by decide)) g15 (by decide) (by decide) (fun x hx => Or.inr hx)
  have hl17 : h14.2.2.2.1 c3 = h2.2.2.2.1 c3 := gSg.len g15 sS13.1 tc3 rfl
  have sS18 : gSs rT 1027 ty1 [] h14 h14 := gSs.rf g15.1
  have rf19 := Nat.lt_of_lt_of_eq rw7.2.1 nh14.symm
  have rf20 := zh14.trans rf9
  have dd21 : ∀ k, ¬ k ∈ ([0] : List Nat) → h14.2.2.2.2 x k = defaultValue (gGG.2.1 8 k) := raw_dp fh14 dd10
  have df22 := (show h14.2.2.2.2 x 1 = .int (zi 0) from dd21 1 (by decide))
  have df23 := (show h14.2.2.2.2 x 2 = .int (zi 0) from dd21 2 (by decide))
  have df24 := (show h14.2.2.2.2 x 3 = .int (zi 0) from dd21 3 (by decide))
  obtain ⟨ty26, g25, tg25, ug25⟩ := gSg.adx 56 sS18.1 t11 nx rf19 rfl kh14 (by show (0 : Nat) ≤ _; have h9 := rf20; omega) (by show _ ≤ (0 : Nat); have h9 := rf20; omega) (fun ty9 w9 k hk => ad56 (by rw [eh14]; exact ⟨c3, rfl, w9 c3 _ tc3 (by decide)⟩) (by rw [df22]; exact ⟨0, rfl, by show (0 : Int) ≤ _; omega, by show _ ≤ (500000 : Int); omega⟩) (by rw [df23]; exact ⟨0, rfl, by show ((-2147483648) : Int) ≤ _; omega, by show _ ≤ (2147483647 : Int); omega⟩) (by rw [df24]; exact ⟨0, rfl, by show (0 : Int) ≤ _; omega, by show _ ≤ (8 : Int); omega⟩) k)
  have uq27 := ug25 uq5 (Or.inr pr12)
  have G28 : gSg [56, 114, 200] [x] [] ty h ty26 h14 := gSg.tr (gSg.ss G16 sS18 (by decide)) g25 (by decide) (by decide) (fun x hx => Or.inr hx)
  have t29 : ty26 c3 = 114 := gSg.typ g25 sS18.1 tc3 rfl
  have sS30 : gSs rT 1027 ty26 [] h14 h14 := gSs.rf g25.1
  have hl31 : 1024 ≤ h14.2.2.2.1 c3 ∧ h14.2.2.2.1 c3 ≤ 1000000 := gJ.rowl (G := gGG) sS30.1 t29 rfl
  have G32 : gSg [56, 114, 200] [x] [] ty h ty26 h14 := gSg.ss G28 sS30 (by decide)
  exact gz_end (I := .return_) (len := 1) rfl (Or.inl rfl) ⟨ty26, G32, c3, trivial, 0, eh14, t29, tg25, rfl, df22, (by omega), (by omega), (by dsimp only; omega), (by dsimp only; omega), (by omega), (by dsimp only; omega), uq27⟩
set_option maxRecDepth 20000 in
set_option maxHeartbeats 4000000 in
theorem ct_Draft (d : Nat) {ty : Nat → Nat} {h : gH} (hJ : gJ rT 1027 ty h) (x : Nat) (tx : ty x = 200) (nx : 1027 ≤ x) (lx : x < h.1) (kx : h.2.2.1 x = some (.inr 4)) (zx : h.2.2.2.1 x = 0) (dx : ∀ k, h.2.2.2.2 x k = defaultValue (gGG.2.1 4 k)) (no0 : gNo [55, 59, 60, 61, 62, 63, 64] ty) (uq : gUq ty) : gz gPP gGG gcn (d + 2) gt4 0 (gent [.ref x] 1) [] h (fun q _ => ∃ ty9 : Nat → Nat, gSg [55, 59, 60, 61, 62, 63, 64, 200] [x] [64999] ty h ty9 q.2.2 ∧ ∃ n1 iv1 w1 h1 : Int, ty9 x = 55 ∧ gfin gt4 q.1 q.2.1 = some none ∧ q.2.2.2.2.2.2 x 8 = .int (zi n1) ∧ 0 ≤ n1 ∧ n1 ≤ 10 ∧ q.2.2.2.2.2.2 x 3 = .int (zi iv1) ∧ 0 ≤ iv1 ∧ iv1 ≤ 100 ∧ q.2.2.2.2.2.2 x 1 = .int (zi w1) ∧ 0 ≤ w1 ∧ w1 ≤ 32 ∧ q.2.2.2.2.2.2 x 2 = .int (zi h1) ∧ 0 ≤ h1 ∧ h1 ≤ 32 ∧ ((q.2.2.1 : Int) = h.1 + 6) ∧ ((q.2.2.2.1 : Int) = h.2.1 + 1128) ∧ (n1 = 0) ∧ (iv1 = 0) ∧ (w1 = 0) ∧ (h1 = 0) ∧ (gTc ty9 0 q.2.2) ∧ (gOy ty9 64 (-1) 64 q.2.2) ∧ (gRn 1024 ty9 59 (fun _ => 0) q.2.2) ∧ (gRn 10 ty9 60 (fun _ => 0) q.2.2) ∧ (gRn 10 ty9 61 (fun _ => 0) q.2.2) ∧ (gRn 10 ty9 62 (fun _ => 0) q.2.2) ∧ (gRn 10 ty9 63 (fun _ => 0) q.2.2) ∧ gUq ty9) := by
  have hS : gSs rT 1027 ty [64999] h h := gSs.rf hJ
  have G0 : gSg [55, 59, 60, 61, 62, 63, 64, 200] [x] [64999] ty h ty h := gSg.rf hJ (fun x hx => by rw [List.mem_singleton.mp hx, tx]; rfl)
  refine gz_s 1 (pc' := 1) (L' := [some (.ref x)]) (S' := [.ref x]) rfl ?_
  refine gz_obj rfl (by decide) (by omega) rfl (by decide) ?_
  refine gz_s 2 (pc' := 8) (L' := [some (.ref x)]) (S' := [.int (zi 1024), .ref x]) rfl ?_
  refine gs_newr 59 rfl (by decide) rfl hS.1 (Nat.le_of_lt (Nat.lt_of_le_of_lt nx lx)) (by omega) (by omega) rfl rfl (by show (1024 : Int) ≤ _; omega) (by show _ ≤ (1024 : Int); omega) (fun _ _ => gos_i (by decide) (by decide)) (fun ty1 h2 c3 g4 tc3 lc3 nc3 mc3 ec3 dc3 uc3 => ?_)
  have gac3 : h.1 ≤ c3 := by have h8 := G0.2.1; have h9 := hS.2.1; omega
  have uq5 := uc3 uq (Or.inr (gNo.sub (by decide) no0))
  have G6 : gSg [55, 59, 60, 61, 62, 63, 64, 200] [x] [64999] ty h ty1 h2 := gSg.tr (gSg.ss G0 hS (by decide)) g4 (by decide) (by decide) (fun x hx => by cases hx)
  have rw7 := gSg.raw g4 lx (fun w => by cases w)
  have rf8 := (rw7.2.2.1.trans kx)
  have rf9 := (rw7.2.2.2.trans zx)
  have dd10 := gSg.rawd (ci := 4) (ps := []) g4 lx (fun w => by cases w) tx (by decide) (fun k _ => dx k)
  have t11 : ty1 x = 200 := rw7.1.trans tx
  have pr12 : gNo [55, 60, 61, 62, 63, 64] ty1 := gNo.gr g4 (by decide) (gNo.sub (by decide) no0)
  have sS13 : gSs rT 1027 ty1 [64999] h2 h2 := gSs.rf g4.1
  have hoz14 : gRn 1024 ty1 59 (fun _ => 0) h2 := gRn.new uq5 tc3 (by decide) (fun _ => rfl) (fun k => dc3 k)
  refine gs_rput rfl (by decide) rfl sS13.1 t11 nx rw7.2.1 rf8 rfl (Or.inr rfl) (fun h15 g16 nh15 mh15 kh15 zh15 eh15 fh15 => ?_)
  have G17 : gSg [55, 59, 60, 61, 62, 63, 64, 200] [x] [64999] ty h ty1 h15 := gSg.tr (gSg.ss G6 sS13 (by decide)) g16 (by decide) (by decide) (fun x hx => Or.inr hx)
  have pr18 := gRn.gr g16 sS13.1 rfl (by decide) (by decide) hoz14
  have sS19 : gSs rT 1027 ty1 [64999] h15 h15 := gSs.rf g16.1
  have rf20 := Nat.lt_of_lt_of_eq rw7.2.1 nh15.symm
  have rf21 := zh15.trans rf9
  have dd22 : ∀ k, ¬ k ∈ ([0] : List Nat) → h15.2.2.2.2 x k = defaultValue (gGG.2.1 4 k) := raw_dp fh15 dd10
  refine gz_s 2 (pc' := 16) (L' := [some (.ref x)]) (S' := [.int (zi 10), .ref x]) rfl ?_
  refine gs_newr 60 rfl (by decide) rfl sS19.1 (Nat.le_of_lt (Nat.lt_of_le_of_lt (gJ.cell sS19.1 tc3 rfl).1 (gJ.cell sS19.1 tc3 rfl).2.1)) (by omega) (by omega) rfl rfl (by show (10 : Int) ≤ _; omega) (by show _ ≤ (10 : Int); omega) (fun _ _ => gos_i (by decide) (by decide)) (fun ty23 h24 c25 g26 tc25 lc25 nc25 mc25 ec25 dc25 uc25 => ?_)
  have gac25 : h.1 ≤ c25 := by have h8 := G17.2.1; have h9 := sS19.2.1; omega
  have uq27 := uc25 uq5 (Or.inr (gNo.sub (by decide) pr12))
  have G28 : gSg [55, 59, 60, 61, 62, 63, 64, 200] [x] [64999] ty h ty23 h24 := gSg.tr (gSg.ss G17 sS19 (by decide)) g26 (by decide) (by decide) (fun x hx => by cases hx)
  have rw29 := gSg.raw g26 rf20 (fun w => by cases w)
  have rf30 := (rw29.2.2.1.trans kh15)
  have rf31 := (rw29.2.2.2.trans rf21)
  have dd32 := gSg.rawd (ci := 4) (ps := [0]) g26 rf20 (fun w => by cases w) t11 (by decide) dd22
  have t33 : ty23 x = 200 := rw29.1.trans t11
  have t34 : ty23 c3 = 59 := gSg.typ g26 sS19.1 tc3 rfl
  have s35 := gSg.rawat g26 rf20 (fun w => by cases w) t11 (by decide) eh15
  have pr36 : gNo [55, 61, 62, 63, 64] ty23 := gNo.gr g26 (by decide) (gNo.sub (by decide) pr12)
  have pr37 := gRn.gr g26 sS19.1 rfl (by decide) (by decide) pr18
  have sS38 : gSs rT 1027 ty23 [64999] h24 h24 := gSs.rf g26.1
  have hoz39 : gRn 10 ty23 60 (fun _ => 0) h24 := gRn.new uq27 tc25 (by decide) (fun _ => rfl) (fun k => dc25 k)
  refine gs_rput rfl (by decide) rfl sS38.1 t33 nx rw29.2.1 rf30 rfl (Or.inr rfl) (fun h40 g41 nh40 mh40 kh40 zh40 eh40 fh40 => ?_)
  have G42 : gSg [55, 59, 60, 61, 62, 63, 64, 200] [x] [64999] ty h ty23 h40 := gSg.tr (gSg.ss G28 sS38 (by decide)) g41 (by decide) (by decide) (fun x hx => Or.inr hx)
  have pr43 := gRn.gr g41 sS38.1 rfl (by decide) (by decide) pr37
  have pr44 := gRn.gr g41 sS38.1 rfl (by decide) (by decide) hoz39
  have sS45 : gSs rT 1027 ty23 [64999] h40 h40 := gSs.rf g41.1
  have rf46 := Nat.lt_of_lt_of_eq rw29.2.1 nh40.symm
  have rf47 := zh40.trans rf31
  have dd48 : ∀ k, ¬ k ∈ ([4, 0] : List Nat) → h40.2.2.2.2 x k = defaultValue (gGG.2.1 4 k) := raw_dp fh40 dd32
  have s49 := (fh40 0 (by decide)).trans s35
  refine gz_s 2 (pc' := 24) (L' := [some (.ref x)]) (S' := [.int (zi 10), .ref x]) rfl ?_
  refine gs_newr 61 rfl (by decide) rfl sS45.1 (Nat.le_of_lt (Nat.lt_of_le_of_lt (gJ.cell sS45.1 t34 rfl).1 (gJ.cell sS45.1 t34 rfl).2.1)) (by omega) (by omega) rfl rfl (by show (10 : Int) ≤ _; omega) (by show _ ≤ (10 : Int); omega) (fun _ _ => gos_i (by decide) (by decide)) (fun ty50 h51 c52 g53 tc52 lc52 nc52 mc52 ec52 dc52 uc52 => ?_)
  have gac52 : h.1 ≤ c52 := by have h8 := G42.2.1; have h9 := sS45.2.1; omega
  have uq54 := uc52 uq27 (Or.inr (gNo.sub (by decide) pr36))
  have G55 : gSg [55, 59, 60, 61, 62, 63, 64, 200] [x] [64999] ty h ty50 h51 := gSg.tr (gSg.ss G42 sS45 (by decide)) g53 (by decide) (by decide) (fun x hx => by cases hx)
  have rw56 := gSg.raw g53 rf46 (fun w => by cases w)
  have rf57 := (rw56.2.2.1.trans kh40)
  have rf58 := (rw56.2.2.2.trans rf47)
  have dd59 := gSg.rawd (ci := 4) (ps := [4, 0]) g53 rf46 (fun w => by cases w) t33 (by decide) dd48
  have t60 : ty50 x = 200 := rw56.1.trans t33
  have t61 : ty50 c3 = 59 := gSg.typ g53 sS45.1 t34 rfl
  have t62 : ty50 c25 = 60 := gSg.typ g53 sS45.1 tc25 rfl
  have s63 := gSg.rawat g53 rf46 (fun w => by cases w) t33 (by decide) s49
  have s64 := gSg.rawat g53 rf46 (fun w => by cases w) t33 (by decide) eh40
  have pr65 : gNo [55, 62, 63, 64] ty50 := gNo.gr g53 (by decide) (gNo.sub (by decide) pr36)
  have pr66 := gRn.gr g53 sS45.1 rfl (by decide) (by decide) pr43
  have pr67 := gRn.gr g53 sS45.1 rfl (by decide) (by decide) pr44
  have sS68 : gSs rT 1027 ty50 [64999] h51 h51 := gSs.rf g53.1
  have hoz69 : gRn 10 ty50 61 (fun _ => 0) h51 := gRn.new uq54 tc52 (by decide) (fun _ => rfl) (fun k => dc52 k)
  refine gs_rput rfl (by decide) rfl sS68.1 t60 nx rw56.2.1 rf57 rfl (Or.inr rfl) (fun h70 g71 nh70 mh70 kh70 zh70 eh70 fh70 => ?_)
  have G72 : gSg [55, 59, 60, 61, 62, 63, 64, 200] [x] [64999] ty h ty50 h70 := gSg.tr (gSg.ss G55 sS68 (by decide)) g71 (by decide) (by decide) (fun x hx => Or.inr hx)
  have pr73 := gRn.gr g71 sS68.1 rfl (by decide) (by decide) pr66
  have pr74 := gRn.gr g71 sS68.1 rfl (by decide) (by decide) pr67
  have pr75 := gRn.gr g71 sS68.1 rfl (by decide) (by decide) hoz69
  have sS76 : gSs rT 1027 ty50 [64999] h70 h70 := gSs.rf g71.1
  have rf77 := Nat.lt_of_lt_of_eq rw56.2.1 nh70.symm
  have rf78 := zh70.trans rf58
  have dd79 : ∀ k, ¬ k ∈ ([5, 4, 0] : List Nat) → h70.2.2.2.2 x k = defaultValue (gGG.2.1 4 k) := raw_dp fh70 dd59
  have s80 := (fh70 0 (by decide)).trans s63
  have s81 := (fh70 4 (by decide)).trans s64
  refine gz_s 2 (pc' := 32) (L' := [some (.ref x)]) (S' := [.int (zi 10), .ref x]) rfl ?_
  refine gs_newr 62 rfl (by decide) rfl sS76.1 (Nat.le_of_lt (Nat.lt_of_le_of_lt (gJ.cell sS76.1 t61 rfl).1 (gJ.cell sS76.1 t61 rfl).2.1)) (by omega) (by omega) rfl rfl (by show (10 : Int) ≤ _; omega) (by show _ ≤ (10 : Int); omega) (fun _ _ => gos_i (by decide) (by decide)) (fun ty82 h83 c84 g85 tc84 lc84 nc84 mc84 ec84 dc84 uc84 => ?_)
  have gac84 : h.1 ≤ c84 := by have h8 := G72.2.1; have h9 := sS76.2.1; omega
  have uq86 := uc84 uq54 (Or.inr (gNo.sub (by decide) pr65))
  have G87 : gSg [55, 59, 60, 61, 62, 63, 64, 200] [x] [64999] ty h ty82 h83 := gSg.tr (gSg.ss G72 sS76 (by decide)) g85 (by decide) (by decide) (fun x hx => by cases hx)
  have rw88 := gSg.raw g85 rf77 (fun w => by cases w)
  have rf89 := (rw88.2.2.1.trans kh70)
  have rf90 := (rw88.2.2.2.trans rf78)
  have dd91 := gSg.rawd (ci := 4) (ps := [5, 4, 0]) g85 rf77 (fun w => by cases w) t60 (by decide) dd79
  have t92 : ty82 x = 200 := rw88.1.trans t60
  have t93 : ty82 c3 = 59 := gSg.typ g85 sS76.1 t61 rfl
  have t94 : ty82 c25 = 60 := gSg.typ g85 sS76.1 t62 rfl
  have t95 : ty82 c52 = 61 := gSg.typ g85 sS76.1 tc52 rfl
  have s96 := gSg.rawat g85 rf77 (fun w => by cases w) t60 (by decide) s80
  have s97 := gSg.rawat g85 rf77 (fun w => by cases w) t60 (by decide) s81
  have s98 := gSg.rawat g85 rf77 (fun w => by cases w) t60 (by decide) eh70
  have pr99 : gNo [55, 63, 64] ty82 := gNo.gr g85 (by decide) (gNo.sub (by decide) pr65)
  have pr100 := gRn.gr g85 sS76.1 rfl (by decide) (by decide) pr73
  have pr101 := gRn.gr g85 sS76.1 rfl (by decide) (by decide) pr74
  have pr102 := gRn.gr g85 sS76.1 rfl (by decide) (by decide) pr75
  have sS103 : gSs rT 1027 ty82 [64999] h83 h83 := gSs.rf g85.1
  have hoz104 : gRn 10 ty82 62 (fun _ => 0) h83 := gRn.new uq86 tc84 (by decide) (fun _ => rfl) (fun k => dc84 k)
  refine gs_rput rfl (by decide) rfl sS103.1 t92 nx rw88.2.1 rf89 rfl (Or.inr rfl) (fun h105 g106 nh105 mh105 kh105 zh105 eh105 fh105 => ?_)
  have G107 : gSg [55, 59, 60, 61, 62, 63, 64, 200] [x] [64999] ty h ty82 h105 := gSg.tr (gSg.ss G87 sS103 (by decide)) g106 (by decide) (by decide) (fun x hx => Or.inr hx)
  have pr108 := gRn.gr g106 sS103.1 rfl (by decide) (by decide) pr100
  have pr109 := gRn.gr g106 sS103.1 rfl (by decide) (by decide) pr101
  have pr110 := gRn.gr g106 sS103.1 rfl (by decide) (by decide) pr102
  have pr111 := gRn.gr g106 sS103.1 rfl (by decide) (by decide) hoz104
  have sS112 : gSs rT 1027 ty82 [64999] h105 h105 := gSs.rf g106.1
  have rf113 := Nat.lt_of_lt_of_eq rw88.2.1 nh105.symm
  have rf114 := zh105.trans rf90
  have dd115 : ∀ k, ¬ k ∈ ([6, 5, 4, 0] : List Nat) → h105.2.2.2.2 x k = defaultValue (gGG.2.1 4 k) := raw_dp fh105 dd91
  have s116 := (fh105 0 (by decide)).trans s96
  have s117 := (fh105 4 (by decide)).trans s97
  have s118 := (fh105 5 (by decide)).trans s98
  refine gz_s 2 (pc' := 40) (L' := [some (.ref x)]) (S' := [.int (zi 10), .ref x]) rfl ?_
  refine gs_newr 63 rfl (by decide) rfl sS112.1 (Nat.le_of_lt (Nat.lt_of_le_of_lt (gJ.cell sS112.1 t93 rfl).1 (gJ.cell sS112.1 t93 rfl).2.1)) (by omega) (by omega) rfl rfl (by show (10 : Int) ≤ _; omega) (by show _ ≤ (10 : Int); omega) (fun _ _ => gos_i (by decide) (by decide)) (fun ty119 h120 c121 g122 tc121 lc121 nc121 mc121 ec121 dc121 uc121 => ?_)
  have gac121 : h.1 ≤ c121 := by have h8 := G107.2.1; have h9 := sS112.2.1; omega
  have uq123 := uc121 uq86 (Or.inr (gNo.sub (by decide) pr99))
  have G124 : gSg [55, 59, 60, 61, 62, 63, 64, 200] [x] [64999] ty h ty119 h120 := gSg.tr (gSg.ss G107 sS112 (by decide)) g122 (by decide) (by decide) (fun x hx => by cases hx)
  have rw125 := gSg.raw g122 rf113 (fun w => by cases w)
  have rf126 := (rw125.2.2.1.trans kh105)
  have rf127 := (rw125.2.2.2.trans rf114)
  have dd128 := gSg.rawd (ci := 4) (ps := [6, 5, 4, 0]) g122 rf113 (fun w => by cases w) t92 (by decide) dd115
  have t129 : ty119 x = 200 := rw125.1.trans t92
  have t130 : ty119 c3 = 59 := gSg.typ g122 sS112.1 t93 rfl
  have t131 : ty119 c25 = 60 := gSg.typ g122 sS112.1 t94 rfl
  have t132 : ty119 c52 = 61 := gSg.typ g122 sS112.1 t95 rfl
  have t133 : ty119 c84 = 62 := gSg.typ g122 sS112.1 tc84 rfl
  have s134 := gSg.rawat g122 rf113 (fun w => by cases w) t92 (by decide) s116
  have s135 := gSg.rawat g122 rf113 (fun w => by cases w) t92 (by decide) s117
  have s136 := gSg.rawat g122 rf113 (fun w => by cases w) t92 (by decide) s118
  have s137 := gSg.rawat g122 rf113 (fun w => by cases w) t92 (by decide) eh105
  have pr138 : gNo [55, 64] ty119 := gNo.gr g122 (by decide) (gNo.sub (by decide) pr99)
  have pr139 := gRn.gr g122 sS112.1 rfl (by decide) (by decide) pr108
  have pr140 := gRn.gr g122 sS112.1 rfl (by decide) (by decide) pr109
  have pr141 := gRn.gr g122 sS112.1 rfl (by decide) (by decide) pr110
  have pr142 := gRn.gr g122 sS112.1 rfl (by decide) (by decide) pr111
  have sS143 : gSs rT 1027 ty119 [64999] h120 h120 := gSs.rf g122.1
  have hoz144 : gRn 10 ty119 63 (fun _ => 0) h120 := gRn.new uq123 tc121 (by decide) (fun _ => rfl) (fun k => dc121 k)
  refine gs_rput rfl (by decide) rfl sS143.1 t129 nx rw125.2.1 rf126 rfl (Or.inr rfl) (fun h145 g146 nh145 mh145 kh145 zh145 eh145 fh145 => ?_)
  have G147 : gSg [55, 59, 60, 61, 62, 63, 64, 200] [x] [64999] ty h ty119 h145 := gSg.tr (gSg.ss G124 sS143 (by decide)) g146 (by decide) (by decide) (fun x hx => Or.inr hx)
  have pr148 := gRn.gr g146 sS143.1 rfl (by decide) (by decide) pr139
  have pr149 := gRn.gr g146 sS143.1 rfl (by decide) (by decide) pr140
  have pr150 := gRn.gr g146 sS143.1 rfl (by decide) (by decide) pr141
  have pr151 := gRn.gr g146 sS143.1 rfl (by decide) (by decide) pr142
  have pr152 := gRn.gr g146 sS143.1 rfl (by decide) (by decide) hoz144
  have sS153 : gSs rT 1027 ty119 [64999] h145 h145 := gSs.rf g146.1
  have rf154 := Nat.lt_of_lt_of_eq rw125.2.1 nh145.symm
  have rf155 := zh145.trans rf127
  have dd156 : ∀ k, ¬ k ∈ ([7, 6, 5, 4, 0] : List Nat) → h145.2.2.2.2 x k = defaultValue (gGG.2.1 4 k) := raw_dp fh145 dd128
  have s157 := (fh145 0 (by decide)).trans s134
  have s158 := (fh145 4 (by decide)).trans s135
  have s159 := (fh145 5 (by decide)).trans s136
  have s160 := (fh145 6 (by decide)).trans s137
  refine gz_s 2 (pc' := 48) (L' := [some (.ref x)]) (S' := [.int (zi 64), .ref x]) rfl ?_
  refine gs_newr 64 rfl (by decide) rfl sS153.1 (Nat.le_of_lt (Nat.lt_of_le_of_lt (gJ.cell sS153.1 t130 rfl).1 (gJ.cell sS153.1 t130 rfl).2.1)) (by omega) (by omega) rfl rfl (by show (64 : Int) ≤ _; omega) (by show _ ≤ (64 : Int); omega) (fun _ _ => gos_i (by decide) (by decide)) (fun ty161 h162 c163 g164 tc163 lc163 nc163 mc163 ec163 dc163 uc163 => ?_)
  have gac163 : h.1 ≤ c163 := by have h8 := G147.2.1; have h9 := sS153.2.1; omega
  have uq165 := uc163 uq123 (Or.inr (gNo.sub (by decide) pr138))
  have G166 : gSg [55, 59, 60, 61, 62, 63, 64, 200] [x] [64999] ty h ty161 h162 := gSg.tr (gSg.ss G147 sS153 (by decide)) g164 (by decide) (by decide) (fun x hx => by cases hx)
  have rw167 := gSg.raw g164 rf154 (fun w => by cases w)
  have rf168 := (rw167.2.2.1.trans kh145)
  have rf169 := (rw167.2.2.2.trans rf155)
  have dd170 := gSg.rawd (ci := 4) (ps := [7, 6, 5, 4, 0]) g164 rf154 (fun w => by cases w) t129 (by decide) dd156
  have t171 : ty161 x = 200 := rw167.1.trans t129
  have t172 : ty161 c3 = 59 := gSg.typ g164 sS153.1 t130 rfl
  have t173 : ty161 c25 = 60 := gSg.typ g164 sS153.1 t131 rfl
  have t174 : ty161 c52 = 61 := gSg.typ g164 sS153.1 t132 rfl
  have t175 : ty161 c84 = 62 := gSg.typ g164 sS153.1 t133 rfl
  have t176 : ty161 c121 = 63 := gSg.typ g164 sS153.1 tc121 rfl
  have s177 := gSg.rawat g164 rf154 (fun w => by cases w) t129 (by decide) s157
  have s178 := gSg.rawat g164 rf154 (fun w => by cases w) t129 (by decide) s158
  have s179 := gSg.rawat g164 rf154 (fun w => by cases w) t129 (by decide) s159
  have s180 := gSg.rawat g164 rf154 (fun w => by cases w) t129 (by decide) s160
  have s181 := gSg.rawat g164 rf154 (fun w => by cases w) t129 (by decide) eh145
  have pr182 : gNo [55] ty161 := gNo.gr g164 (by decide) (gNo.sub (by decide) pr138)
  have pr183 := gRn.gr g164 sS153.1 rfl (by decide) (by decide) pr148
  have pr184 := gRn.gr g164 sS153.1 rfl (by decide) (by decide) pr149
  have pr185 := gRn.gr g164 sS153.1 rfl (by decide) (by decide) pr150
  have pr186 := gRn.gr g164 sS153.1 rfl (by decide) (by decide) pr151
  have pr187 := gRn.gr g164 sS153.1 rfl (by decide) (by decide) pr152
  have sS188 : gSs rT 1027 ty161 [64999] h162 h162 := gSs.rf g164.1
  refine gs_rput rfl (by decide) rfl sS188.1 t171 nx rw167.2.1 rf168 rfl (Or.inr rfl) (fun h189 g190 nh189 mh189 kh189 zh189 eh189 fh189 => ?_)
  have G191 : gSg [55, 59, 60, 61, 62, 63, 64, 200] [x] [64999] ty h ty161 h189 := gSg.tr (gSg.ss G166 sS188 (by decide)) g190 (by decide) (by decide) (fun x hx => Or.inr hx)
  have pr192 := gRn.gr g190 sS188.1 rfl (by decide) (by decide) pr183
  have pr193 := gRn.gr g190 sS188.1 rfl (by decide) (by decide) pr184
  have pr194 := gRn.gr g190 sS188.1 rfl (by decide) (by decide) pr185
  have pr195 := gRn.gr g190 sS188.1 rfl (by decide) (by decide) pr186
  have pr196 := gRn.gr g190 sS188.1 rfl (by decide) (by decide) pr187
  have sS197 : gSs rT 1027 ty161 [64999] h189 h189 := gSs.rf g190.1
  have rf198 := Nat.lt_of_lt_of_eq rw167.2.1 nh189.symm
  have rf199 := zh189.trans rf169
  have dd200 : ∀ k, ¬ k ∈ ([9, 7, 6, 5, 4, 0] : List Nat) → h189.2.2.2.2 x k = defaultValue (gGG.2.1 4 k) := raw_dp fh189 dd170
  have s201 := (fh189 0 (by decide)).trans s177
  have s202 := (fh189 4 (by decide)).trans s178
  have s203 := (fh189 5 (by decide)).trans s179
  have s204 := (fh189 6 (by decide)).trans s180
  have s205 := (fh189 7 (by decide)).trans s181
  refine gz_s 1 (pc' := 54) (L' := [some (.ref x)]) (S' := [.ref x]) rfl ?_
  refine gz_get rfl (by decide) rfl nx rf198 kh189 eh189 ?_
  refine gz_s 1 (pc' := 58) (L' := [some (.ref x)]) (S' := [.int (zi (-1)), .ref c163]) rfl ?_
  refine gz_call rfl (by decide) rfl (by decide) (by decide) (gcal_of rfl rfl rfl (Nat.le_of_ble_eq_true rfl) rfl) (cl_fill_lowest _ sS197.1 c163 tc163 (-1) ⟨by omega, by omega⟩ uq165) (fun q206 _ wq206 => ?_)
  obtain ⟨pq206, oq206, hq206⟩ := q206
  obtain ⟨xq206, gq206, yq206_0⟩ := wq206
  refine ⟨_, gq206, ?_⟩
  show gz gPP gGG gcn _ _ 61 [some (.ref x)] [] hq206 _
  have sq206 : gSs rT 1027 ty161 [64999] h189 hq206 := gSs.tr sS197 xq206 (by decide)
  have s207 := (xq206.2.2.2.2.2 x 0 (by rw [t171]; decide)).trans s201
  have s208 := (xq206.2.2.2.2.2 x 4 (by rw [t171]; decide)).trans s202
  have s209 := (xq206.2.2.2.2.2 x 5 (by rw [t171]; decide)).trans s203
  have s210 := (xq206.2.2.2.2.2 x 6 (by rw [t171]; decide)).trans s204
  have s211 := (xq206.2.2.2.2.2 x 7 (by rw [t171]; decide)).trans s205
  have s212 := (xq206.2.2.2.2.2 x 9 (by rw [t171]; decide)).trans eh189
  have dd213 : ∀ k, ¬ k ∈ ([9, 7, 6, 5, 4, 0] : List Nat) → hq206.2.2.2.2 x k = defaultValue (gGG.2.1 4 k) := gFr.rawd xq206.2 t171 (by decide) dd200
  have pr214 := gRn.fr xq206.2 (by decide) pr192
  have pr215 := gRn.fr xq206.2 (by decide) pr193
  have pr216 := gRn.fr xq206.2 (by decide) pr194
  have pr217 := gRn.fr xq206.2 (by decide) pr195
  have pr218 := gRn.fr xq206.2 (by decide) pr196
  have df219 := (show hq206.2.2.2.2 x 1 = .int (zi 0) from dd213 1 (by decide))
  have df220 := (show hq206.2.2.2.2 x 2 = .int (zi 0) from dd213 2 (by decide))
  have df221 := (show hq206.2.2.2.2 x 3 = .int (zi 0) from dd213 3 (by decide))
  have df222 := (show hq206.2.2.2.2 x 8 = .int (zi 0) from dd213 8 (by decide))
  obtain ⟨ty224, g223, tg223, ug223⟩ := gSg.adx 55 sq206.1 t171 nx (Nat.lt_of_lt_of_eq rf198 sq206.2.1.symm) rfl ((congrFun sq206.2.2.2.1 x).trans kh189) (by show (0 : Nat) ≤ _; have h9 := ((congrFun sq206.2.2.2.2.1 x).trans rf199); omega) (by show _ ≤ (0 : Nat); have h9 := ((congrFun sq206.2.2.2.2.1 x).trans rf199); omega) (fun ty9 w9 k hk => ad55 (by rw [s207]; exact ⟨c3, rfl, w9 c3 _ t172 (by decide)⟩) (by rw [df219]; exact ⟨0, rfl, by show (0 : Int) ≤ _; omega, by show _ ≤ (32 : Int); omega⟩) (by rw [df220]; exact ⟨0, rfl, by show (0 : Int) ≤ _; omega, by show _ ≤ (32 : Int); omega⟩) (by rw [df221]; exact ⟨0, rfl, by show (0 : Int) ≤ _; omega, by show _ ≤ (100 : Int); omega⟩) (by rw [s208]; exact ⟨c25, rfl, w9 c25 _ t173 (by decide)⟩) (by rw [s209]; exact ⟨c52, rfl, w9 c52 _ t174 (by decide)⟩) (by rw [s210]; exact ⟨c84, rfl, w9 c84 _ t175 (by decide)⟩) (by rw [s211]; exact ⟨c121, rfl, w9 c121 _ t176 (by decide)⟩) (by rw [df222]; exact ⟨0, rfl, by show (0 : Int) ≤ _; omega, by show _ ≤ (10 : Int); omega⟩) (by rw [s212]; exact ⟨c163, rfl, w9 c163 _ tc163 (by decide)⟩) k)
  have uq225 := ug223 uq165 (Or.inr pr182)
  have k226 := sq206.2.1
  have k226b := sq206.2.2.1
  have G227 : gSg [55, 59, 60, 61, 62, 63, 64, 200] [x] [64999] ty h ty224 hq206 := gSg.tr (gSg.ss G191 sq206 (by decide)) g223 (by decide) (by decide) (fun x hx => Or.inr hx)
  have t228 : ty224 c3 = 59 := gSg.typ g223 sq206.1 t172 rfl
  have t229 : ty224 c25 = 60 := gSg.typ g223 sq206.1 t173 rfl
  have t230 : ty224 c52 = 61 := gSg.typ g223 sq206.1 t174 rfl
  have t231 : ty224 c84 = 62 := gSg.typ g223 sq206.1 t175 rfl
  have t232 : ty224 c121 = 63 := gSg.typ g223 sq206.1 t176 rfl
  have t233 : ty224 c163 = 64 := gSg.typ g223 sq206.1 tc163 rfl
  have pr234 := gRn.gr g223 sq206.1 rfl (by decide) (by decide) pr214
  have pr235 := gRn.gr g223 sq206.1 rfl (by decide) (by decide) pr215
  have pr236 := gRn.gr g223 sq206.1 rfl (by decide) (by decide) pr216
  have pr237 := gRn.gr g223 sq206.1 rfl (by decide) (by decide) pr217
  have pr238 := gRn.gr g223 sq206.1 rfl (by decide) (by decide) pr218
  have pr239 := gOy.gr g223 sq206.1 rfl (by decide) (by decide) yq206_0
  have sS240 : gSs rT 1027 ty224 [64999] hq206 hq206 := gSs.rf g223.1
  have hts241 : gTc ty224 0 hq206 := gTc.anew (gRow.mk uq225 t229 (by decide) (fun _ => rfl)) (gRow.mk uq225 t230 (by decide) (fun _ => rfl)) pr239
  have G242 : gSg [55, 59, 60, 61, 62, 63, 64, 200] [x] [64999] ty h ty224 hq206 := gSg.ss G227 sS240 (by decide)
  exact gz_end (I := .return_) (len := 1) rfl (Or.inl rfl) ⟨ty224, G242, 0, 0, 0, 0, tg223, rfl, df222, (by omega), (by omega), df221, (by omega), (by omega), df219, (by omega), (by omega), df220, (by omega), (by omega), (by dsimp only; omega), (by dsimp only; omega), (by omega), (by omega), (by omega), (by omega), hts241, pr239, pr234, pr235, pr236, pr237, pr238, uq225⟩
set_option maxRecDepth 20000 in
set_option maxHeartbeats 4000000 in
theorem ct_Picture (d : Nat) {ty : Nat → Nat} {h : gH} (hJ : gJ rT 1027 ty h) (x : Nat) (tx : ty x = 200) (nx : 1027 ≤ x) (lx : x < h.1) (kx : h.2.2.1 x = some (.inr 5)) (zx : h.2.2.2.1 x = 0) (dx : ∀ k, h.2.2.2.2 x k = defaultValue (gGG.2.1 5 k)) (no0 : gNo [54, 57, 58, 82, 83, 84] ty) (uq : gUq ty) : gz gPP gGG gcn (d + 2) gt2 0 (gent [.ref x] 1) [] h (fun q _ => ∃ ty9 : Nat → Nat, gSg [54, 57, 58, 82, 83, 84, 112, 113, 200] [x] [] ty h ty9 q.2.2 ∧ ∃ bn b0 b1 b2 : Nat, True ∧ q.2.2.2.2.2.2 x 0 = .ref bn ∧ ty9 bn = 57 ∧ q.2.2.2.2.2.2 bn 0 = .ref b0 ∧ ty9 b0 = 82 ∧ q.2.2.2.2.2.2 bn 1 = .ref b1 ∧ ty9 b1 = 83 ∧ q.2.2.2.2.2.2 bn 2 = .ref b2 ∧ ty9 b2 = 84 ∧ ty9 x = 54 ∧ gfin gt2 q.1 q.2.1 = some none ∧ ((q.2.2.1 : Int) = h.1 + 7) ∧ ((q.2.2.2.1 : Int) = h.2.1 + 295) ∧ (gPC ty9 x b0 b1 b2 0 q.2.2) ∧ gUq ty9) := by
  have hS : gSs rT 1027 ty [] h h := gSs.rf hJ
  have G0 : gSg [54, 57, 58, 82, 83, 84, 112, 113, 200] [x] [] ty h ty h := gSg.rf hJ (fun x hx => by rw [List.mem_singleton.mp hx, tx]; rfl)
  refine gz_s 1 (pc' := 1) (L' := [some (.ref x)]) (S' := [.ref x]) rfl ?_
  refine gz_obj rfl (by decide) (by omega) rfl (by decide) ?_
  refine gz_s 2 (pc' := 6) (L' := [some (.ref x)]) (S' := [.int (zi 3), .ref x]) rfl ?_
  refine gs_newq rfl (by decide) rfl hS.1 (Nat.le_of_lt (Nat.lt_of_le_of_lt nx lx)) (by omega) (by omega) (fun ty1 h2 c3 g4 tc3 kc3 zc3 nc3 mc3 ec3 => ?_)
  have gac3 : h.1 ≤ c3 := by have h8 := G0.2.1; have h9 := hS.2.1; omega
  have nnc3 : 1027 ≤ c3 := by have h8 := (Nat.le_of_lt (Nat.lt_of_le_of_lt nx lx)); omega
  have llc3 := Nat.lt_of_lt_of_eq (Nat.lt_succ_of_le (Nat.le_of_eq ec3)) nc3.symm
  have nex_c3 : x ≠ c3 := by have h8 := lx; omega
  have G5 : gSg [54, 57, 58, 82, 83, 84, 112, 113, 200] [x] [] ty h ty1 h2 := gSg.tr (gSg.ss G0 hS (by decide)) g4 (by decide) (by decide) (fun x hx => by cases hx)
  have rw6 := gSg.raw g4 lx (fun w => by cases w)
  have rf7 := (rw6.2.2.1.trans kx)
  have rf8 := (rw6.2.2.2.trans zx)
  have dd9 := gSg.rawd (ci := 5) (ps := []) g4 lx (fun w => by cases w) tx (by decide) (fun k _ => dx k)
  have t10 : ty1 x = 200 := rw6.1.trans tx
  have pr11 : gNo [54, 57, 58, 82, 83, 84] ty1 := gNo.gr g4 (by decide) (gNo.sub (by decide) no0)
  have uq12 := gSg.uq g4 uq (by decide)
  have sS13 : gSs rT 1027 ty1 [] h2 h2 := gSs.rf g4.1
  refine gz_s 2 (pc' := 11) (L' := [some (.ref x)]) (S' := [.int (zi 0), .ref c3, .ref c3, .ref x]) rfl ?_
  refine gs_newo rfl (by decide) rfl sS13.1 (Nat.le_of_lt (Nat.lt_of_le_of_lt nx rw6.2.1)) (fun ty14 h15 c16 g17 tc16 kc16 zc16 nc16 mc16 ec16 dc16 => ?_)
  have mfc16 : h15.2.1 = h2.2.1 + 12 := mc16
  have gac16 : h.1 ≤ c16 := by have h8 := G5.2.1; have h9 := sS13.2.1; omega
  have nnc16 : 1027 ≤ c16 := by have h8 := (Nat.le_of_lt (Nat.lt_of_le_of_lt nx rw6.2.1)); omega
  have llc16 := Nat.lt_of_lt_of_eq (Nat.lt_succ_of_le (Nat.le_of_eq ec16)) nc16.symm
  have nex_c16 : x ≠ c16 := by have h8 := rw6.2.1; omega
  have nec3_c16 : c3 ≠ c16 := by have h8 := llc3; omega
  have G18 : gSg [54, 57, 58, 82, 83, 84, 112, 113, 200] [x] [] ty h ty14 h15 := gSg.tr (gSg.ss G5 sS13 (by decide)) g17 (by decide) (by decide) (fun x hx => by cases hx)
  have rw19 := gSg.raw g17 rw6.2.1 (fun w => by cases w)
  have rf20 := (rw19.2.2.1.trans rf7)
  have rf21 := (rw19.2.2.2.trans rf8)
  have dd22 := gSg.rawd (ci := 5) (ps := []) g17 rw6.2.1 (fun w => by cases w) t10 (by decide) dd9
  have t23 : ty14 x = 200 := rw19.1.trans t10
  have rw24 := gSg.raw g17 llc3 (fun w => by cases w)
  have rf25 := (rw24.2.2.1.trans kc3)
  have rf26 := (gcst rw24.2.2.2 zc3)
  have t27 : ty14 c3 = 200 := rw24.1.trans tc3
  have pr28 : gNo [54, 57, 58, 82, 83, 84] ty14 := gNo.gr g17 (by decide) (gNo.sub (by decide) pr11)
  have uq29 := gSg.uq g17 uq12 (by decide)
  have sS30 : gSs rT 1027 ty14 [] h15 h15 := gSs.rf g17.1
  refine gz_s 1 (pc' := 15) (L' := [some (.ref x)]) (S' := [.ref c16, .ref c16, .int (zi 0), .ref c3, .ref c3, .ref x]) rfl ?_
  refine gz_call rfl (by decide) rfl (by decide) (by decide) (gcal_of rfl rfl rfl (Nat.le_of_ble_eq_true rfl) rfl) (ct_Band0 _ sS30.1 c16 tc16 nnc16 llc16 kc16 zc16 dc16 (gNo.sub (by decide) pr28) uq29) (fun q31 _ wq31 => ?_)
  obtain ⟨pq31, oq31, hq31⟩ := q31
  obtain ⟨tyq31, xq31, trq31_0, gq31, uq31_0, uq31_1, uqq31⟩ := wq31
  dsimp only at uq31_0 uq31_1
  refine ⟨_, gq31, ?_⟩
  show gz gPP gGG gcn _ _ 18 [some (.ref x)] [.ref c16, .int (zi 0), .ref c3, .ref c3, .ref x] hq31 _
  have G32 : gSg [54, 57, 58, 82, 83, 84, 112, 113, 200] [x] [] ty h tyq31 hq31 := gSg.tr (gSg.ss G18 sS30 (by decide)) xq31 (by decide) (by decide) (fun x hx => Or.inl (by rw [List.mem_singleton.mp hx]; exact gac16))
  have rw33 := gSg.raw xq31 rw19.2.1 (fun w => nex_c16 (List.mem_singleton.mp w))
  have rf34 := (rw33.2.2.1.trans rf20)
  have rf35 := (rw33.2.2.2.trans rf21)
  have dd36 := gSg.rawd (ci := 5) (ps := []) xq31 rw19.2.1 (fun w => nex_c16 (List.mem_singleton.mp w)) t23 (by decide) dd22
  have t37 : tyq31 x = 200 := rw33.1.trans t23
  have rw38 := gSg.raw xq31 rw24.2.1 (fun w => nec3_c16 (List.mem_singleton.mp w))
  have rf39 := (rw38.2.2.1.trans rf25)
  have rf40 := (gcst rw38.2.2.2 rf26)
  have t41 : tyq31 c3 = 200 := rw38.1.trans t27
  have pr42 : gNo [54, 57, 58, 83, 84] tyq31 := gNo.gr xq31 (by decide) (gNo.sub (by decide) pr28)
  have sS43 : gSs rT 1027 tyq31 [] hq31 hq31 := gSs.rf xq31.1
  refine gs_rast (j := 0) rfl (by decide) sS43.1 t41 nnc3 rw38.2.1 rf39 rfl (gJ.cell sS43.1 trq31_0 rfl).1 (gJ.cell sS43.1 trq31_0 rfl).2.1 (gJ.cell sS43.1 trq31_0 rfl).2.2 rfl (by have h9 : (hq31.2.2.2.1 c3 : Int) = 3 := rf40; omega) (by have h9 : (hq31.2.2.2.1 c3 : Int) = 3 := rf40; omega) (fun h44 g45 nh44 mh44 kh44 zh44 eh44 fh44 => ?_)
  have G46 : gSg [54, 57, 58, 82, 83, 84, 112, 113, 200] [x] [] ty h tyq31 h44 := gSg.tr (gSg.ss G32 sS43 (by decide)) g45 (by decide) (by decide) (fun x hx => Or.inl (by rw [List.mem_singleton.mp hx]; exact gac3))
  have rw47 := gSg.raw g45 rw33.2.1 (fun w => nex_c3 (List.mem_singleton.mp w))
  have rf48 := (rw47.2.2.1.trans rf34)
  have rf49 := (rw47.2.2.2.trans rf35)
  have dd50 := gSg.rawd (ci := 5) (ps := []) g45 rw33.2.1 (fun w => nex_c3 (List.mem_singleton.mp w)) t37 (by decide) dd36
  have sS51 : gSs rT 1027 tyq31 [] h44 h44 := gSs.rf g45.1
  have rf52 := Nat.lt_of_lt_of_eq rw38.2.1 nh44.symm
  have rf53 := gcst zh44 rf40
  refine gz_s 2 (pc' := 21) (L' := [some (.ref x)]) (S' := [.int (zi 1), .ref c3, .ref c3, .ref x]) rfl ?_
  refine gs_newo rfl (by decide) rfl sS51.1 (Nat.le_of_lt (Nat.lt_of_le_of_lt (gJ.cell sS51.1 trq31_0 rfl).1 (gJ.cell sS51.1 trq31_0 rfl).2.1)) (fun ty54 h55 c56 g57 tc56 kc56 zc56 nc56 mc56 ec56 dc56 => ?_)
  have mfc56 : h55.2.1 = h44.2.1 + 12 := mc56
  have gac56 : h.1 ≤ c56 := by have h8 := G46.2.1; have h9 := sS51.2.1; omega
  have nnc56 : 1027 ≤ c56 := by have h8 := (Nat.le_of_lt (Nat.lt_of_le_of_lt (gJ.cell sS51.1 trq31_0 rfl).1 (gJ.cell sS51.1 trq31_0 rfl).2.1)); omega
  have llc56 := Nat.lt_of_lt_of_eq (Nat.lt_succ_of_le (Nat.le_of_eq ec56)) nc56.symm
  have nex_c56 : x ≠ c56 := by have h8 := rw47.2.1; omega
  have nec3_c56 : c3 ≠ c56 := by have h8 := rf52; omega
  have G58 : gSg [54, 57, 58, 82, 83, 84, 112, 113, 200] [x] [] ty h ty54 h55 := gSg.tr (gSg.ss G46 sS51 (by decide)) g57 (by decide) (by decide) (fun x hx => by cases hx)
  have rw59 := gSg.raw g57 rw47.2.1 (fun w => by cases w)
  have rf60 := (rw59.2.2.1.trans rf48)
  have rf61 := (rw59.2.2.2.trans rf49)
  have dd62 := gSg.rawd (ci := 5) (ps := []) g57 rw47.2.1 (fun w => by cases w) t37 (by decide) dd50
  have t63 : ty54 x = 200 := rw59.1.trans t37
  have rw64 := gSg.raw g57 rf52 (fun w => by cases w)
  have rf65 := (rw64.2.2.1.trans kh44)
  have rf66 := (gcst rw64.2.2.2 rf53)
  have t67 : ty54 c3 = 200 := rw64.1.trans t41
  have t68 : ty54 c16 = 82 := gSg.typ g57 sS51.1 trq31_0 rfl
  have s69 := gSg.rawat g57 rf52 (fun w => by cases w) t41 (by decide) eh44
  have pr70 : gNo [54, 57, 58, 83, 84] ty54 := gNo.gr g57 (by decide) (gNo.sub (by decide) pr42)
  have uq71 := gSg.uq g57 uqq31 (by decide)
  have sS72 : gSs rT 1027 ty54 [] h55 h55 := gSs.rf g57.1
  refine gz_s 1 (pc' := 25) (L' := [some (.ref x)]) (S' := [.ref c56, .ref c56, .int (zi 1), .ref c3, .ref c3, .ref x]) rfl ?_
  refine gz_call rfl (by decide) rfl (by decide) (by decide) (gcal_of rfl rfl rfl (Nat.le_of_ble_eq_true rfl) rfl) (ct_Band1 _ sS72.1 c56 tc56 nnc56 llc56 kc56 zc56 dc56 (gNo.sub (by decide) pr70) uq71) (fun q73 _ wq73 => ?_)
  obtain ⟨pq73, oq73, hq73⟩ := q73
  obtain ⟨tyq73, xq73, trq73_0, gq73, uq73_0, uq73_1, uqq73⟩ := wq73
  dsimp only at uq73_0 uq73_1
  refine ⟨_, gq73, ?_⟩
  show gz gPP gGG gcn _ _ 28 [some (.ref x)] [.ref c56, .int (zi 1), .ref c3, .ref c3, .ref x] hq73 _
  have G74 : gSg [54, 57, 58, 82, 83, 84, 112, 113, 200] [x] [] ty h tyq73 hq73 := gSg.tr (gSg.ss G58 sS72 (by decide)) xq73 (by decide) (by decide) (fun x hx => Or.inl (by rw [List.mem_singleton.mp hx]; exact gac56))
  have rw75 := gSg.raw xq73 rw59.2.1 (fun w => nex_c56 (List.mem_singleton.mp w))
  have rf76 := (rw75.2.2.1.trans rf60)
  have rf77 := (rw75.2.2.2.trans rf61)
  have dd78 := gSg.rawd (ci := 5) (ps := []) xq73 rw59.2.1 (fun w => nex_c56 (List.mem_singleton.mp w)) t63 (by decide) dd62
  have t79 : tyq73 x = 200 := rw75.1.trans t63
  have rw80 := gSg.raw xq73 rw64.2.1 (fun w => nec3_c56 (List.mem_singleton.mp w))
  have rf81 := (rw80.2.2.1.trans rf65)
  have rf82 := (gcst rw80.2.2.2 rf66)
  have t83 : tyq73 c3 = 200 := rw80.1.trans t67
  have t84 : tyq73 c16 = 82 := gSg.typ xq73 sS72.1 t68 rfl
  have s85 := gSg.rawat xq73 rw64.2.1 (fun w => nec3_c56 (List.mem_singleton.mp w)) t67 (by decide) s69
  have pr86 : gNo [54, 57, 58, 84] tyq73 := gNo.gr xq73 (by decide) (gNo.sub (by decide) pr70)
  have sS87 : gSs rT 1027 tyq73 [] hq73 hq73 := gSs.rf xq73.1
  refine gs_rast (j := 1) rfl (by decide) sS87.1 t83 nnc3 rw80.2.1 rf81 rfl (gJ.cell sS87.1 trq73_0 rfl).1 (gJ.cell sS87.1 trq73_0 rfl).2.1 (gJ.cell sS87.1 trq73_0 rfl).2.2 rfl (by have h9 : (hq73.2.2.2.1 c3 : Int) = 3 := rf82; omega) (by have h9 : (hq73.2.2.2.1 c3 : Int) = 3 := rf82; omega) (fun h88 g89 nh88 mh88 kh88 zh88 eh88 fh88 => ?_)
  have G90 : gSg [54, 57, 58, 82, 83, 84, 112, 113, 200] [x] [] ty h tyq73 h88 := gSg.tr (gSg.ss G74 sS87 (by decide)) g89 (by decide) (by decide) (fun x hx => Or.inl (by rw [List.mem_singleton.mp hx]; exact gac3))
  have rw91 := gSg.raw g89 rw75.2.1 (fun w => nex_c3 (List.mem_singleton.mp w))
  have rf92 := (rw91.2.2.1.trans rf76)
  have rf93 := (rw91.2.2.2.trans rf77)
  have dd94 := gSg.rawd (ci := 5) (ps := []) g89 rw75.2.1 (fun w => nex_c3 (List.mem_singleton.mp w)) t79 (by decide) dd78
  have sS95 : gSs rT 1027 tyq73 [] h88 h88 := gSs.rf g89.1
  have rf96 := Nat.lt_of_lt_of_eq rw80.2.1 nh88.symm
  have rf97 := gcst zh88 rf82
  have s98 := (fh88 0 (by decide)).trans s85
  refine gz_s 2 (pc' := 31) (L' := [some (.ref x)]) (S' := [.int (zi 2), .ref c3, .ref c3, .ref x]) rfl ?_
  refine gs_newo rfl (by decide) rfl sS95.1 (Nat.le_of_lt (Nat.lt_of_le_of_lt (gJ.cell sS95.1 t84 rfl).1 (gJ.cell sS95.1 t84 rfl).2.1)) (fun ty99 h100 c101 g102 tc101 kc101 zc101 nc101 mc101 ec101 dc101 => ?_)
  have mfc101 : h100.2.1 = h88.2.1 + 12 := mc101
  have gac101 : h.1 ≤ c101 := by have h8 := G90.2.1; have h9 := sS95.2.1; omega
  have nnc101 : 1027 ≤ c101 := by have h8 := (Nat.le_of_lt (Nat.lt_of_le_of_lt (gJ.cell sS95.1 t84 rfl).1 (gJ.cell sS95.1 t84 rfl).2.1)); omega
  have llc101 := Nat.lt_of_lt_of_eq (Nat.lt_succ_of_le (Nat.le_of_eq ec101)) nc101.symm
  have nex_c101 : x ≠ c101 := by have h8 := rw91.2.1; omega
  have nec3_c101 : c3 ≠ c101 := by have h8 := rf96; omega
  have G103 : gSg [54, 57, 58, 82, 83, 84, 112, 113, 200] [x] [] ty h ty99 h100 := gSg.tr (gSg.ss G90 sS95 (by decide)) g102 (by decide) (by decide) (fun x hx => by cases hx)
  have rw104 := gSg.raw g102 rw91.2.1 (fun w => by cases w)
  have rf105 := (rw104.2.2.1.trans rf92)
  have rf106 := (rw104.2.2.2.trans rf93)
  have dd107 := gSg.rawd (ci := 5) (ps := []) g102 rw91.2.1 (fun w => by cases w) t79 (by decide) dd94
  have t108 : ty99 x = 200 := rw104.1.trans t79
  have rw109 := gSg.raw g102 rf96 (fun w => by cases w)
  have rf110 := (rw109.2.2.1.trans kh88)
  have rf111 := (gcst rw109.2.2.2 rf97)
  have t112 : ty99 c3 = 200 := rw109.1.trans t83
  have t113 : ty99 c16 = 82 := gSg.typ g102 sS95.1 t84 rfl
  have t114 : ty99 c56 = 83 := gSg.typ g102 sS95.1 trq73_0 rfl
  have s115 := gSg.rawat g102 rf96 (fun w => by cases w) t83 (by decide) s98
  have s116 := gSg.rawat g102 rf96 (fun w => by cases w) t83 (by decide) eh88
  have pr117 : gNo [54, 57, 58, 84] ty99 := gNo.gr g102 (by decide) (gNo.sub (by decide) pr86)
  have uq118 := gSg.uq g102 uqq73 (by decide)
  have sS119 : gSs rT 1027 ty99 [] h100 h100 := gSs.rf g102.1
  refine gz_s 1 (pc' := 35) (L' := [some (.ref x)]) (S' := [.ref c101, .ref c101, .int (zi 2), .ref c3, .ref c3, .ref x]) rfl ?_
  refine gz_call rfl (by decide) rfl (by decide) (by decide) (gcal_of rfl rfl rfl (Nat.le_of_ble_eq_true rfl) rfl) (ct_Band2 _ sS119.1 c101 tc101 nnc101 llc101 kc101 zc101 dc101 (gNo.sub (by decide) pr117) uq118) (fun q120 _ wq120 => ?_)
  obtain ⟨pq120, oq120, hq120⟩ := q120
  obtain ⟨tyq120, xq120, trq120_0, gq120, uq120_0, uq120_1, uqq120⟩ := wq120
  dsimp only at uq120_0 uq120_1
  refine ⟨_, gq120, ?_⟩
  show gz gPP gGG gcn _ _ 38 [some (.ref x)] [.ref c101, .int (zi 2), .ref c3, .ref c3, .ref x] hq120 _
  have G121 : gSg [54, 57, 58, 82, 83, 84, 112, 113, 200] [x] [] ty h tyq120 hq120 := gSg.tr (gSg.ss G103 sS119 (by decide)) xq120 (by decide) (by decide) (fun x hx => Or.inl (by rw [List.mem_singleton.mp hx]; exact gac101))
  have rw122 := gSg.raw xq120 rw104.2.1 (fun w => nex_c101 (List.mem_singleton.mp w))
  have rf123 := (rw122.2.2.1.trans rf105)
  have rf124 := (rw122.2.2.2.trans rf106)
  have dd125 := gSg.rawd (ci := 5) (ps := []) xq120 rw104.2.1 (fun w => nex_c101 (List.mem_singleton.mp w)) t108 (by decide) dd107
  have t126 : tyq120 x = 200 := rw122.1.trans t108
  have rw127 := gSg.raw xq120 rw109.2.1 (fun w => nec3_c101 (List.mem_singleton.mp w))
  have rf128 := (rw127.2.2.1.trans rf110)
  have rf129 := (gcst rw127.2.2.2 rf111)
  have t130 : tyq120 c3 = 200 := rw127.1.trans t112
  have t131 : tyq120 c16 = 82 := gSg.typ xq120 sS119.1 t113 rfl
  have t132 : tyq120 c56 = 83 := gSg.typ xq120 sS119.1 t114 rfl
  have s133 := gSg.rawat xq120 rw109.2.1 (fun w => nec3_c101 (List.mem_singleton.mp w)) t112 (by decide) s115
  have s134 := gSg.rawat xq120 rw109.2.1 (fun w => nec3_c101 (List.mem_singleton.mp w)) t112 (by decide) s116
  have pr135 : gNo [54, 57, 58] tyq120 := gNo.gr xq120 (by decide) (gNo.sub (by decide) pr117)
  have sS136 : gSs rT 1027 tyq120 [] hq120 hq120 := gSs.rf xq120.1
  refine gs_rast (j := 2) rfl (by decide) sS136.1 t130 nnc3 rw127.2.1 rf128 rfl (gJ.cell sS136.1 trq120_0 rfl).1 (gJ.cell sS136.1 trq120_0 rfl).2.1 (gJ.cell sS136.1 trq120_0 rfl).2.2 rfl (by have h9 : (hq120.2.2.2.1 c3 : Int) = 3 := rf129; omega) (by have h9 : (hq120.2.2.2.1 c3 : Int) = 3 := rf129; omega) (fun h137 g138 nh137 mh137 kh137 zh137 eh137 fh137 => ?_)
  have G139 : gSg [54, 57, 58, 82, 83, 84, 112, 113, 200] [x] [] ty h tyq120 h137 := gSg.tr (gSg.ss G121 sS136 (by decide)) g138 (by decide) (by decide) (fun x hx => Or.inl (by rw [List.mem_singleton.mp hx]; exact gac3))
  have rw140 := gSg.raw g138 rw122.2.1 (fun w => nex_c3 (List.mem_singleton.mp w))
  have rf141 := (rw140.2.2.1.trans rf123)
  have rf142 := (rw140.2.2.2.trans rf124)
  have dd143 := gSg.rawd (ci := 5) (ps := []) g138 rw122.2.1 (fun w => nex_c3 (List.mem_singleton.mp w)) t126 (by decide) dd125
  have sS144 : gSs rT 1027 tyq120 [] h137 h137 := gSs.rf g138.1
  have rf145 := Nat.lt_of_lt_of_eq rw127.2.1 nh137.symm
  have rf146 := gcst zh137 rf129
  have s147 := (fh137 0 (by decide)).trans s133
  have s148 := (fh137 1 (by decide)).trans s134
  refine gs_rput rfl (by decide) rfl sS144.1 t126 nx rw140.2.1 rf141 rfl (Or.inr rfl) (fun h149 g150 nh149 mh149 kh149 zh149 eh149 fh149 => ?_)
  have G151 : gSg [54, 57, 58, 82, 83, 84, 112, 113, 200] [x] [] ty h tyq120 h149 := gSg.tr (gSg.ss G139 sS144 (by decide)) g150 (by decide) (by decide) (fun x hx => Or.inr hx)
  have rw152 := gSg.raw g150 rf145 (fun w => nex_c3.symm (List.mem_singleton.mp w))
  have rf153 := (rw152.2.2.1.trans kh137)
  have rf154 := (gcst rw152.2.2.2 rf146)
  have s155 := gSg.rawat g150 rf145 (fun w => nex_c3.symm (List.mem_singleton.mp w)) t130 (by decide) s147
  have s156 := gSg.rawat g150 rf145 (fun w => nex_c3.symm (List.mem_singleton.mp w)) t130 (by decide) s148
  have s157 := gSg.rawat g150 rf145 (fun w => nex_c3.symm (List.mem_singleton.mp w)) t130 (by decide) eh137
  have sS158 : gSs rT 1027 tyq120 [] h149 h149 := gSs.rf g150.1
  have rf159 := Nat.lt_of_lt_of_eq rw140.2.1 nh149.symm
  have rf160 := zh149.trans rf142
  have dd161 : ∀ k, ¬ k ∈ ([0] : List Nat) → h149.2.2.2.2 x k = defaultValue (gGG.2.1 5 k) := raw_dp fh149 dd143
  refine gz_s 2 (pc' := 46) (L' := [some (.ref x)]) (S' := [.int (zi 256), .ref x]) rfl ?_
  refine gs_newr 58 rfl (by decide) rfl sS158.1 (Nat.le_of_lt (Nat.lt_of_le_of_lt (gJ.cell sS158.1 t131 rfl).1 (gJ.cell sS158.1 t131 rfl).2.1)) (by omega) (by omega) rfl rfl (by show (256 : Int) ≤ _; omega) (by show _ ≤ (256 : Int); omega) (fun _ _ => gos_i (by decide) (by decide)) (fun ty162 h163 c164 g165 tc164 lc164 nc164 mc164 ec164 dc164 uc164 => ?_)
  have gac164 : h.1 ≤ c164 := by have h8 := G151.2.1; have h9 := sS158.2.1; omega
  have uq166 := uc164 uqq120 (Or.inr (gNo.sub (by decide) pr135))
  have G167 : gSg [54, 57, 58, 82, 83, 84, 112, 113, 200] [x] [] ty h ty162 h163 := gSg.tr (gSg.ss G151 sS158 (by decide)) g165 (by decide) (by decide) (fun x hx => by cases hx)
  have rw168 := gSg.raw g165 rf159 (fun w => by cases w)
  have rf169 := (rw168.2.2.1.trans kh149)
  have rf170 := (rw168.2.2.2.trans rf160)
  have dd171 := gSg.rawd (ci := 5) (ps := [0]) g165 rf159 (fun w => by cases w) t126 (by decide) dd161
  have t172 : ty162 x = 200 := rw168.1.trans t126
  have rw173 := gSg.raw g165 rw152.2.1 (fun w => by cases w)
  have rf174 := (rw173.2.2.1.trans rf153)
  have rf175 := (gcst rw173.2.2.2 rf154)
  have t176 : ty162 c3 = 200 := rw173.1.trans t130
  have t177 : ty162 c16 = 82 := gSg.typ g165 sS158.1 t131 rfl
  have t178 : ty162 c56 = 83 := gSg.typ g165 sS158.1 t132 rfl
  have t179 : ty162 c101 = 84 := gSg.typ g165 sS158.1 trq120_0 rfl
  have s180 := gSg.rawat g165 rw152.2.1 (fun w => by cases w) t130 (by decide) s155
  have s181 := gSg.rawat g165 rw152.2.1 (fun w => by cases w) t130 (by decide) s156
  have s182 := gSg.rawat g165 rw152.2.1 (fun w => by cases w) t130 (by decide) s157
  have s183 := gSg.rawat g165 rf159 (fun w => by cases w) t126 (by decide) eh149
  have pr184 : gNo [54, 57] ty162 := gNo.gr g165 (by decide) (gNo.sub (by decide) pr135)
  have sS185 : gSs rT 1027 ty162 [] h163 h163 := gSs.rf g165.1
  refine gs_rput rfl (by decide) rfl sS185.1 t172 nx rw168.2.1 rf169 rfl (Or.inr rfl) (fun h186 g187 nh186 mh186 kh186 zh186 eh186 fh186 => ?_)
  have G188 : gSg [54, 57, 58, 82, 83, 84, 112, 113, 200] [x] [] ty h ty162 h186 := gSg.tr (gSg.ss G167 sS185 (by decide)) g187 (by decide) (by decide) (fun x hx => Or.inr hx)
  have rw189 := gSg.raw g187 rw173.2.1 (fun w => nex_c3.symm (List.mem_singleton.mp w))
  have rf190 := (rw189.2.2.1.trans rf174)
  have rf191 := (gcst rw189.2.2.2 rf175)
  have s192 := gSg.rawat g187 rw173.2.1 (fun w => nex_c3.symm (List.mem_singleton.mp w)) t176 (by decide) s180
  have s193 := gSg.rawat g187 rw173.2.1 (fun w => nex_c3.symm (List.mem_singleton.mp w)) t176 (by decide) s181
  have s194 := gSg.rawat g187 rw173.2.1 (fun w => nex_c3.symm (List.mem_singleton.mp w)) t176 (by decide) s182
  have sS195 : gSs rT 1027 ty162 [] h186 h186 := gSs.rf g187.1
  have rf196 := Nat.lt_of_lt_of_eq rw168.2.1 nh186.symm
  have rf197 := zh186.trans rf170
  have dd198 : ∀ k, ¬ k ∈ ([1, 0] : List Nat) → h186.2.2.2.2 x k = defaultValue (gGG.2.1 5 k) := raw_dp fh186 dd171
  have s199 := (fh186 0 (by decide)).trans s183
  refine gz_s 2 (pc' := 53) (L' := [some (.ref x)]) (S' := [.int (zi 0), .ref x]) rfl ?_
  refine gs_newr 112 rfl (by decide) rfl sS195.1 (Nat.le_of_lt (Nat.lt_of_le_of_lt (gJ.cell sS195.1 t177 rfl).1 (gJ.cell sS195.1 t177 rfl).2.1)) (by omega) (by omega) rfl rfl (by show (0 : Int) ≤ _; omega) (by show _ ≤ (12288 : Int); omega) (fun _ _ => gos_i (by decide) (by decide)) (fun ty200 h201 c202 g203 tc202 lc202 nc202 mc202 ec202 dc202 uc202 => ?_)
  have gac202 : h.1 ≤ c202 := by have h8 := G188.2.1; have h9 := sS195.2.1; omega
  have uq204 := uc202 uq166 (Or.inl (by decide))
  have G205 : gSg [54, 57, 58, 82, 83, 84, 112, 113, 200] [x] [] ty h ty200 h201 := gSg.tr (gSg.ss G188 sS195 (by decide)) g203 (by decide) (by decide) (fun x hx => by cases hx)
  have rw206 := gSg.raw g203 rf196 (fun w => by cases w)
  have rf207 := (rw206.2.2.1.trans kh186)
  have rf208 := (rw206.2.2.2.trans rf197)
  have dd209 := gSg.rawd (ci := 5) (ps := [1, 0]) g203 rf196 (fun w => by cases w) t172 (by decide) dd198
  have t210 : ty200 x = 200 := rw206.1.trans t172
  have rw211 := gSg.raw g203 rw189.2.1 (fun w => by cases w)
  have rf212 := (rw211.2.2.1.trans rf190)
  have rf213 := (gcst rw211.2.2.2 rf191)
  have t214 : ty200 c3 = 200 := rw211.1.trans t176
  have t215 : ty200 c16 = 82 := gSg.typ g203 sS195.1 t177 rfl
  have t216 : ty200 c56 = 83 := gSg.typ g203 sS195.1 t178 rfl
  have t217 : ty200 c101 = 84 := gSg.typ g203 sS195.1 t179 rfl
  have t218 : ty200 c164 = 58 := gSg.typ g203 sS195.1 tc164 rfl
  have s219 := gSg.rawat g203 rw189.2.1 (fun w => by cases w) t176 (by decide) s192
  have s220 := gSg.rawat g203 rw189.2.1 (fun w => by cases w) t176 (by decide) s193
  have s221 := gSg.rawat g203 rw189.2.1 (fun w => by cases w) t176 (by decide) s194
  have s222 := gSg.rawat g203 rf196 (fun w => by cases w) t172 (by decide) s199
  have s223 := gSg.rawat g203 rf196 (fun w => by cases w) t172 (by decide) eh186
  have pr224 : gNo [54, 57] ty200 := gNo.gr g203 (by decide) (gNo.sub (by decide) pr184)
  have sS225 : gSs rT 1027 ty200 [] h201 h201 := gSs.rf g203.1
  refine gs_rput rfl (by decide) rfl sS225.1 t210 nx rw206.2.1 rf207 rfl (Or.inl rfl) (fun h226 g227 nh226 mh226 kh226 zh226 eh226 fh226 => ?_)
  have G228 : gSg [54, 57, 58, 82, 83, 84, 112, 113, 200] [x] [] ty h ty200 h226 := gSg.tr (gSg.ss G205 sS225 (by decide)) g227 (by decide) (by decide) (fun x hx => Or.inr hx)
  have rw229 := gSg.raw g227 rw211.2.1 (fun w => nex_c3.symm (List.mem_singleton.mp w))
  have rf230 := (rw229.2.2.1.trans rf212)
  have rf231 := (gcst rw229.2.2.2 rf213)
  have hl232 : h226.2.2.2.1 c202 = h201.2.2.2.1 c202 := gSg.len g227 sS225.1 tc202 rfl
  have s233 := gSg.rawat g227 rw211.2.1 (fun w => nex_c3.symm (List.mem_singleton.mp w)) t214 (by decide) s219
  have s234 := gSg.rawat g227 rw211.2.1 (fun w => nex_c3.symm (List.mem_singleton.mp w)) t214 (by decide) s220
  have s235 := gSg.rawat g227 rw211.2.1 (fun w => nex_c3.symm (List.mem_singleton.mp w)) t214 (by decide) s221
  have sS236 : gSs rT 1027 ty200 [] h226 h226 := gSs.rf g227.1
  have rf237 := Nat.lt_of_lt_of_eq rw206.2.1 nh226.symm
  have rf238 := zh226.trans rf208
  have dd239 : ∀ k, ¬ k ∈ ([2, 1, 0] : List Nat) → h226.2.2.2.2 x k = defaultValue (gGG.2.1 5 k) := raw_dp fh226 dd209
  have s240 := (fh226 0 (by decide)).trans s222
  have s241 := (fh226 1 (by decide)).trans s223
  refine gz_s 2 (pc' := 60) (L' := [some (.ref x)]) (S' := [.int (zi 0), .ref x]) rfl ?_
  refine gs_newr 113 rfl (by decide) rfl sS236.1 (Nat.le_of_lt (Nat.lt_of_le_of_lt (gJ.cell sS236.1 t215 rfl).1 (gJ.cell sS236.1 t215 rfl).2.1)) (by omega) (by omega) rfl rfl (by show (0 : Int) ≤ _; omega) (by show _ ≤ (192 : Int); omega) (fun _ _ => gos_i (by decide) (by decide)) (fun ty242 h243 c244 g245 tc244 lc244 nc244 mc244 ec244 dc244 uc244 => ?_)
  have gac244 : h.1 ≤ c244 := by have h8 := G228.2.1; have h9 := sS236.2.1; omega
  have uq246 := uc244 uq204 (Or.inl (by decide))
  have G247 : gSg [54, 57, 58, 82, 83, 84, 112, 113, 200] [x] [] ty h ty242 h243 := gSg.tr (gSg.ss G228 sS236 (by decide)) g245 (by decide) (by decide) (fun x hx => by cases hx)
  have rw248 := gSg.raw g245 rf237 (fun w => by cases w)
  have rf249 := (rw248.2.2.1.trans kh226)
  have rf250 := (rw248.2.2.2.trans rf238)
  have dd251 := gSg.rawd (ci := 5) (ps := [2, 1, 0]) g245 rf237 (fun w => by cases w) t210 (by decide) dd239
  have t252 : ty242 x = 200 := rw248.1.trans t210
  have rw253 := gSg.raw g245 rw229.2.1 (fun w => by cases w)
  have rf254 := (rw253.2.2.1.trans rf230)
  have rf255 := (gcst rw253.2.2.2 rf231)
  have t256 : ty242 c3 = 200 := rw253.1.trans t214
  have t257 : ty242 c16 = 82 := gSg.typ g245 sS236.1 t215 rfl
  have t258 : ty242 c56 = 83 := gSg.typ g245 sS236.1 t216 rfl
  have t259 : ty242 c101 = 84 := gSg.typ g245 sS236.1 t217 rfl
  have t260 : ty242 c164 = 58 := gSg.typ g245 sS236.1 t218 rfl
  have t261 : ty242 c202 = 112 := gSg.typ g245 sS236.1 tc202 rfl
  have hl262 : h243.2.2.2.1 c202 = h226.2.2.2.1 c202 := gSg.len g245 sS236.1 tc202 rfl
  have s263 := gSg.rawat g245 rw229.2.1 (fun w => by cases w) t214 (by decide) s233
  have s264 := gSg.rawat g245 rw229.2.1 (fun w => by cases w) t214 (by decide) s234
  have s265 := gSg.rawat g245 rw229.2.1 (fun w => by cases w) t214 (by decide) s235
  have s266 := gSg.rawat g245 rf237 (fun w => by cases w) t210 (by decide) s240
  have s267 := gSg.rawat g245 rf237 (fun w => by cases w) t210 (by decide) s241
  have s268 := gSg.rawat g245 rf237 (fun w => by cases w) t210 (by decide) eh226
  have pr269 : gNo [54, 57] ty242 := gNo.gr g245 (by decide) (gNo.sub (by decide) pr224)
  have sS270 : gSs rT 1027 ty242 [] h243 h243 := gSs.rf g245.1
  refine gs_rput rfl (by decide) rfl sS270.1 t252 nx rw248.2.1 rf249 rfl (Or.inl rfl) (fun h271 g272 nh271 mh271 kh271 zh271 eh271 fh271 => ?_)
  have G273 : gSg [54, 57, 58, 82, 83, 84, 112, 113, 200] [x] [] ty h ty242 h271 := gSg.tr (gSg.ss G247 sS270 (by decide)) g272 (by decide) (by decide) (fun x hx => Or.inr hx)
  have rw274 := gSg.raw g272 rw253.2.1 (fun w => nex_c3.symm (List.mem_singleton.mp w))
  have rf275 := (rw274.2.2.1.trans rf254)
  have rf276 := (gcst rw274.2.2.2 rf255)
  have hl277 : h271.2.2.2.1 c202 = h243.2.2.2.1 c202 := gSg.len g272 sS270.1 t261 rfl
  have hl278 : h271.2.2.2.1 c244 = h243.2.2.2.1 c244 := gSg.len g272 sS270.1 tc244 rfl
  have s279 := gSg.rawat g272 rw253.2.1 (fun w => nex_c3.symm (List.mem_singleton.mp w)) t256 (by decide) s263
  have s280 := gSg.rawat g272 rw253.2.1 (fun w => nex_c3.symm (List.mem_singleton.mp w)) t256 (by decide) s264
  have s281 := gSg.rawat g272 rw253.2.1 (fun w => nex_c3.symm (List.mem_singleton.mp w)) t256 (by decide) s265
  have sS282 : gSs rT 1027 ty242 [] h271 h271 := gSs.rf g272.1
  have rf283 := Nat.lt_of_lt_of_eq rw248.2.1 nh271.symm
  have rf284 := zh271.trans rf250
  have dd285 : ∀ k, ¬ k ∈ ([3, 2, 1, 0] : List Nat) → h271.2.2.2.2 x k = defaultValue (gGG.2.1 5 k) := raw_dp fh271 dd251
  have s286 := (fh271 0 (by decide)).trans s266
  have s287 := (fh271 1 (by decide)).trans s267
  have s288 := (fh271 2 (by decide)).trans s268
  refine gz_s 2 (pc' := 67) (L' := [some (.ref x)]) (S' := [.int (zi 1), .ref x]) rfl ?_
  refine gs_rput rfl (by decide) rfl sS282.1 t252 nx rf283 kh271 rfl (Or.inl rfl) (fun h289 g290 nh289 mh289 kh289 zh289 eh289 fh289 => ?_)
  have G291 : gSg [54, 57, 58, 82, 83, 84, 112, 113, 200] [x] [] ty h ty242 h289 := gSg.tr (gSg.ss G273 sS282 (by decide)) g290 (by decide) (by decide) (fun x hx => Or.inr hx)
  have rw292 := gSg.raw g290 rw274.2.1 (fun w => nex_c3.symm (List.mem_singleton.mp w))
  have rf293 := (rw292.2.2.1.trans rf275)
  have rf294 := (gcst rw292.2.2.2 rf276)
  have hl295 : h289.2.2.2.1 c202 = h271.2.2.2.1 c202 := gSg.len g290 sS282.1 t261 rfl
  have hl296 : h289.2.2.2.1 c244 = h271.2.2.2.1 c244 := gSg.len g290 sS282.1 tc244 rfl
  have s297 := gSg.rawat g290 rw274.2.1 (fun w => nex_c3.symm (List.mem_singleton.mp w)) t256 (by decide) s279
  have s298 := gSg.rawat g290 rw274.2.1 (fun w => nex_c3.symm (List.mem_singleton.mp w)) t256 (by decide) s280
  have s299 := gSg.rawat g290 rw274.2.1 (fun w => nex_c3.symm (List.mem_singleton.mp w)) t256 (by decide) s281
  have sS300 : gSs rT 1027 ty242 [] h289 h289 := gSs.rf g290.1
  have rf301 := Nat.lt_of_lt_of_eq rf283 nh289.symm
  have rf302 := zh289.trans rf284
  have dd303 : ∀ k, ¬ k ∈ ([10, 3, 2, 1, 0] : List Nat) → h289.2.2.2.2 x k = defaultValue (gGG.2.1 5 k) := raw_dp fh289 dd285
  have s304 := (fh289 0 (by decide)).trans s286
  have s305 := (fh289 1 (by decide)).trans s287
  have s306 := (fh289 2 (by decide)).trans s288
  have s307 := (fh289 3 (by decide)).trans eh271
  refine gz_s 2 (pc' := 72) (L' := [some (.ref x)]) (S' := [.int (zi 1), .ref x]) rfl ?_
  refine gs_rput rfl (by decide) rfl sS300.1 t252 nx rf301 kh289 rfl (Or.inl rfl) (fun h308 g309 nh308 mh308 kh308 zh308 eh308 fh308 => ?_)
  have G310 : gSg [54, 57, 58, 82, 83, 84, 112, 113, 200] [x] [] ty h ty242 h308 := gSg.tr (gSg.ss G291 sS300 (by decide)) g309 (by decide) (by decide) (fun x hx => Or.inr hx)
  have rw311 := gSg.raw g309 rw292.2.1 (fun w => nex_c3.symm (List.mem_singleton.mp w))
  have rf312 := (rw311.2.2.1.trans rf293)
  have rf313 := (gcst rw311.2.2.2 rf294)
  have hl314 : h308.2.2.2.1 c202 = h289.2.2.2.1 c202 := gSg.len g309 sS300.1 t261 rfl
  have hl315 : h308.2.2.2.1 c244 = h289.2.2.2.1 c244 := gSg.len g309 sS300.1 tc244 rfl
  have s316 := gSg.rawat g309 rw292.2.1 (fun w => nex_c3.symm (List.mem_singleton.mp w)) t256 (by decide) s297
  have s317 := gSg.rawat g309 rw292.2.1 (fun w => nex_c3.symm (List.mem_singleton.mp w)) t256 (by decide) s298
  have s318 := gSg.rawat g309 rw292.2.1 (fun w => nex_c3.symm (List.mem_singleton.mp w)) t256 (by decide) s299
  have sS319 : gSs rT 1027 ty242 [] h308 h308 := gSs.rf g309.1
  have rf320 := Nat.lt_of_lt_of_eq rf301 nh308.symm
  have rf321 := zh308.trans rf302
  have dd322 : ∀ k, ¬ k ∈ ([11, 10, 3, 2, 1, 0] : List Nat) → h308.2.2.2.2 x k = defaultValue (gGG.2.1 5 k) := raw_dp fh308 dd303
  have s323 := (fh308 0 (by decide)).trans s304
  have s324 := (fh308 1 (by decide)).trans s305
  have s325 := (fh308 2 (by decide)).trans s306
  have s326 := (fh308 3 (by decide)).trans s307
  have s327 := (fh308 10 (by decide)).trans eh289
  obtain ⟨ty329, g328, tg328, ug328⟩ := gSg.adx 57 sS319.1 t256 nnc3 rw311.2.1 rfl rf312 (by show (3 : Nat) ≤ _; have h9 := rf313; omega) (by show _ ≤ (3 : Nat); have h9 := rf313; omega) (fun ty9 w9 k hk => ad57 (by rw [s316]; exact ⟨c16, rfl, w9 c16 _ t257 (by decide)⟩) (by rw [s317]; exact ⟨c56, rfl, w9 c56 _ t258 (by decide)⟩) (by rw [s318]; exact ⟨c101, rfl, w9 c101 _ t259 (by decide)⟩) k (by have h8 : k < h308.2.2.2.1 c3 := hk; have h9 := rf313; omega))
  have uq330 := ug328 uq246 (Or.inr (gNo.sub (by decide) pr269))
  have G331 : gSg [54, 57, 58, 82, 83, 84, 112, 113, 200] [x] [] ty h ty329 h308 := gSg.tr (gSg.ss G310 sS319 (by decide)) g328 (by decide) (by decide) (fun x hx => Or.inl (by rw [List.mem_singleton.mp hx]; exact gac3))
  have rw332 := gSg.raw g328 rf320 (fun w => nex_c3 (List.mem_singleton.mp w))
  have rf333 := (rw332.2.2.1.trans kh308)
  have rf334 := (rw332.2.2.2.trans rf321)
  have t335 : ty329 x = 200 := rw332.1.trans t252
  have t336 : ty329 c16 = 82 := gSg.typ g328 sS319.1 t257 rfl
  have t337 : ty329 c56 = 83 := gSg.typ g328 sS319.1 t258 rfl
  have t338 : ty329 c101 = 84 := gSg.typ g328 sS319.1 t259 rfl
  have t339 : ty329 c164 = 58 := gSg.typ g328 sS319.1 t260 rfl
  have t340 : ty329 c202 = 112 := gSg.typ g328 sS319.1 t261 rfl
  have t341 : ty329 c244 = 113 := gSg.typ g328 sS319.1 tc244 rfl
  have pr342 : gNo [54] ty329 := gNo.gr g328 (by decide) (gNo.sub (by decide) pr269)
  have sS343 : gSs rT 1027 ty329 [] h308 h308 := gSs.rf g328.1
  have df344 := (show h308.2.2.2.2 x 4 = .int (zi 0) from dd322 4 (by decide))
  have df345 := (show h308.2.2.2.2 x 5 = .int (zi 0) from dd322 5 (by decide))
  have df346 := (show h308.2.2.2.2 x 6 = .int (zi 0) from dd322 6 (by decide))
  have df347 := (show h308.2.2.2.2 x 7 = .int (zi 0) from dd322 7 (by decide))
  have df348 := (show h308.2.2.2.2 x 8 = .int (zi 0) from dd322 8 (by decide))
  have df349 := (show h308.2.2.2.2 x 9 = .int (zi 0) from dd322 9 (by decide))
  have df350 := (show h308.2.2.2.2 x 12 = .int (zi 0) from dd322 12 (by decide))
  have df351 := (show h308.2.2.2.2 x 13 = .int (zi 0) from dd322 13 (by decide))
  obtain ⟨ty353, g352, tg352, ug352⟩ := gSg.adx 54 sS343.1 t335 nx rw332.2.1 rfl rf333 (by show (0 : Nat) ≤ _; have h9 := rf334; omega) (by show _ ≤ (0 : Nat); have h9 := rf334; omega) (fun ty9 w9 k hk => ad54 (by rw [s323]; exact ⟨c3, rfl, w9 c3 _ tg328 (by decide)⟩) (by rw [s324]; exact ⟨c164, rfl, w9 c164 _ t339 (by decide)⟩) (by rw [s325]; exact ⟨c202, rfl, w9 c202 _ t340 (by decide)⟩) (by rw [s326]; exact ⟨c244, rfl, w9 c244 _ t341 (by decide)⟩) (by rw [df344]; exact ⟨0, rfl, by show (0 : Int) ≤ _; omega, by show _ ≤ (1 : Int); omega⟩) (by rw [df345]; exact ⟨0, rfl, by show (0 : Int) ≤ _; omega, by show _ ≤ (64 : Int); omega⟩) (by rw [df346]; exact ⟨0, rfl, by show (0 : Int) ≤ _; omega, by show _ ≤ (64 : Int); omega⟩) (by rw [df347]; exact ⟨0, rfl, by show (0 : Int) ≤ _; omega, by show _ ≤ (3 : Int); omega⟩) (by rw [df348]; exact ⟨0, rfl, by show (0 : Int) ≤ _; omega, by show _ ≤ (192 : Int); omega⟩) (by rw [df349]; exact ⟨0, rfl, by show ((-2147483648) : Int) ≤ _; omega, by show _ ≤ (2147483647 : Int); omega⟩) (by rw [s327]; exact ⟨1, rfl, by show (1 : Int) ≤ _; omega, by show _ ≤ (2 : Int); omega⟩) (by rw [eh308]; exact ⟨1, rfl, by show (1 : Int) ≤ _; omega, by show _ ≤ (2 : Int); omega⟩) (by rw [df350]; exact ⟨0, rfl, by show (0 : Int) ≤ _; omega, by show _ ≤ (8 : Int); omega⟩) (by rw [df351]; exact ⟨0, rfl, by show (0 : Int) ≤ _; omega, by show _ ≤ (8 : Int); omega⟩) k)
  have uq354 := ug352 uq330 (Or.inr pr342)
  have G355 : gSg [54, 57, 58, 82, 83, 84, 112, 113, 200] [x] [] ty h ty353 h308 := gSg.tr (gSg.ss G331 sS343 (by decide)) g352 (by decide) (by decide) (fun x hx => Or.inr hx)
  have t356 : ty353 c3 = 57 := gSg.typ g352 sS343.1 tg328 rfl
  have t357 : ty353 c16 = 82 := gSg.typ g352 sS343.1 t336 rfl
  have t358 : ty353 c56 = 83 := gSg.typ g352 sS343.1 t337 rfl
  have t359 : ty353 c101 = 84 := gSg.typ g352 sS343.1 t338 rfl
  have t360 : ty353 c164 = 58 := gSg.typ g352 sS343.1 t339 rfl
  have t361 : ty353 c202 = 112 := gSg.typ g352 sS343.1 t340 rfl
  have t362 : ty353 c244 = 113 := gSg.typ g352 sS343.1 t341 rfl
  have sS363 : gSs rT 1027 ty353 [] h308 h308 := gSs.rf g352.1
  have hl364 : 0 ≤ h308.2.2.2.1 c202 ∧ h308.2.2.2.1 c202 ≤ 12288 := gJ.rowl (G := gGG) sS363.1 t361 rfl
  have hl365 : 0 ≤ h308.2.2.2.1 c244 ∧ h308.2.2.2.1 c244 ≤ 192 := gJ.rowl (G := gGG) sS363.1 t362 rfl
  have hpc366 : gPC ty353 x c16 c56 c101 0 h308 := gPC.zero sS363.1 tg352 s323 t356 s316 t357 s317 t358 s318 t359 s325 t361 s326 t362 df347 0 df348 (by omega) 0 df345 (by omega) (by omega) (by omega) (by omega) (by omega)
  have G367 : gSg [54, 57, 58, 82, 83, 84, 112, 113, 200] [x] [] ty h ty353 h308 := gSg.ss G355 sS363 (by decide)
  exact gz_end (I := .return_) (len := 1) rfl (Or.inl rfl) ⟨ty353, G367, c3, c16, c56, c101, trivial, s323, t356, s316, t357, s317, t358, s318, t359, tg352, rfl, (by dsimp only; omega), (by dsimp only; omega), hpc366, uq354⟩
