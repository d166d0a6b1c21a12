/-! ===== methods of the landed text (by program) ===== -/
set_option maxRecDepth 20000 in
set_option maxHeartbeats 4000000 in
theorem ct_ScanReader (d : Nat) {ty : Nat → Nat} {h : gH} (hJ : gJ rT 1027 ty h) (x : Nat) (tx : ty x = 200) (nx : 1027 ≤ x) (lx : x < h.1) (kx : h.2.2.1 x = some (.inr 7)) (zx : h.2.2.2.1 x = 0) (dx : ∀ k, h.2.2.2.2 x k = defaultValue (gGG.2.1 7 k)) (s : Nat) (ts : ty s = 51) (p : Nat) (tp : ty p = 54) (no0 : gNo [66, 67, 68, 69, 70] ty) (uq : gUq ty) : gz gPP gGG gcn (d + 2) gt9 0 (gent [.ref x, .ref s, .ref p] 4) [] h (fun q _ => ∃ ty9 : Nat → Nat, gSg [66, 67, 68, 69, 70, 101, 102, 103, 200] [x] [] ty h ty9 q.2.2 ∧ ty9 x = 66 ∧ gfin gt9 q.1 q.2.1 = some none ∧ ((q.2.2.1 : Int) = h.1 + 28) ∧ ((q.2.2.2.1 : Int) = h.2.1 + 2236) ∧ gUq ty9) := by
  have hS : gSs rT 1027 ty [] h h := gSs.rf hJ
  have G0 : gSg [66, 67, 68, 69, 70, 101, 102, 103, 200] [x] [] ty h ty h := gSg.rf hJ (fun x hx => by rw [List.mem_singleton.mp hx, tx]; rfl)
  refine gz_s 1 (pc' := 1) (L' := [some (.ref x), some (.ref s), some (.ref p), none]) (S' := [.ref x]) rfl ?_
  refine gz_obj rfl (by decide) (by omega) rfl (by decide) ?_
  refine gz_s 2 (pc' := 7) (L' := [some (.ref x), some (.ref s), some (.ref p), none]) (S' := [.int (zi 8), .ref x]) rfl ?_
  refine gs_newq rfl (by decide) rfl hS.1 (Nat.le_of_lt (Nat.lt_of_le_of_lt (gJ.cell hS.1 ts rfl).1 (gJ.cell hS.1 ts rfl).2.1)) (by omega) (by omega) (fun ty1 h2 c3 g4 tc3 kc3 zc3 nc3 mc3 ec3 => ?_)
  have gac3 : h.1 ≤ c3 := by have h8 := G0.2.1; have h9 := hS.2.1; omega
  have nnc3 : 1027 ≤ c3 := by have h8 := (Nat.le_of_lt (Nat.lt_of_le_of_lt (gJ.cell hS.1 ts rfl).1 (gJ.cell hS.1 ts rfl).2.1)); omega
  have llc3 : c3 < _ := by rw [nc3, ec3]; exact Nat.lt_succ_self _
  have nex_c3 : x ≠ c3 := by have h8 := lx; omega
  have G5 : gSg [66, 67, 68, 69, 70, 101, 102, 103, 200] [x] [] ty h ty1 h2 := gSg.tr (gSg.ss G0 hS (by decide)) g4 (by decide) (by decide) (fun x hx => by cases hx)
  have rw6 := gSg.raw g4 lx (fun w => by cases w)
  have rf7 := (rw6.2.2.1.trans kx)
  have rf8 := (rw6.2.2.2.trans zx)
  have t9 : ty1 x = 200 := rw6.1.trans tx
  have t10 : ty1 s = 51 := gSg.typ g4 hS.1 ts rfl
  have t11 : ty1 p = 54 := gSg.typ g4 hS.1 tp rfl
  have s12 := gSg.rawat g4 lx (fun w => by cases w) tx (by decide) (show h.2.2.2.2 x 0 = .null from dx 0)
  have s13 := gSg.rawat g4 lx (fun w => by cases w) tx (by decide) (show h.2.2.2.2 x 1 = .int (zi 0) from dx 1)
  have s14 := gSg.rawat g4 lx (fun w => by cases w) tx (by decide) (show h.2.2.2.2 x 2 = .int (zi 0) from dx 2)
  have s15 := gSg.rawat g4 lx (fun w => by cases w) tx (by decide) (show h.2.2.2.2 x 3 = .int (zi 0) from dx 3)
  have s16 := gSg.rawat g4 lx (fun w => by cases w) tx (by decide) (show h.2.2.2.2 x 4 = .int (zi 0) from dx 4)
  have s17 := gSg.rawat g4 lx (fun w => by cases w) tx (by decide) (show h.2.2.2.2 x 5 = .int (zi 0) from dx 5)
  have s18 := gSg.rawat g4 lx (fun w => by cases w) tx (by decide) (show h.2.2.2.2 x 6 = .null from dx 6)
  have s19 := gSg.rawat g4 lx (fun w => by cases w) tx (by decide) (show h.2.2.2.2 x 7 = .null from dx 7)
  have s20 := gSg.rawat g4 lx (fun w => by cases w) tx (by decide) (show h.2.2.2.2 x 8 = .null from dx 8)
  have s21 := gSg.rawat g4 lx (fun w => by cases w) tx (by decide) (show h.2.2.2.2 x 9 = .null from dx 9)
  have s22 := gSg.rawat g4 lx (fun w => by cases w) tx (by decide) (show h.2.2.2.2 x 10 = .int (zi 0) from dx 10)
  have s23 := gSg.rawat g4 lx (fun w => by cases w) tx (by decide) (show h.2.2.2.2 x 11 = .int (zi 0) from dx 11)
  have s24 := gSg.rawat g4 lx (fun w => by cases w) tx (by decide) (show h.2.2.2.2 x 12 = .int (zi 0) from dx 12)
  have s25 := gSg.rawat g4 lx (fun w => by cases w) tx (by decide) (show h.2.2.2.2 x 13 = .int (zi 0) from dx 13)
  have s26 := gSg.rawat g4 lx (fun w => by cases w) tx (by decide) (show h.2.2.2.2 x 14 = .int (zi 0) from dx 14)
  have pr27 : gNo [66, 67, 68, 69, 70] ty1 := gNo.gr g4 (by decide) (gNo.sub (by decide) no0)
  have uq28 := gSg.uq g4 uq (by decide)
  have sS29 : gSs rT 1027 ty1 [] h2 h2 := gSs.rf g4.1
  refine gs_rput rfl (by decide) rfl sS29.1 t9 nx rw6.2.1 rf7 rfl (Or.inr rfl) (fun h30 g31 nh30 mh30 kh30 zh30 eh30 fh30 => ?_)
  have G32 : gSg [66, 67, 68, 69, 70, 101, 102, 103, 200] [x] [] ty h ty1 h30 := gSg.tr (gSg.ss G5 sS29 (by decide)) g31 (by decide) (by decide) (fun x hx => Or.inr hx)
  have rw33 := gSg.raw g31 llc3 (fun w => nex_c3.symm (List.mem_singleton.mp w))
  have rf34 := (rw33.2.2.1.trans kc3)
  have rf35 := ((congrArg (fun n : Nat => (n : Int)) rw33.2.2.2).trans zc3)
  have sS36 : gSs rT 1027 ty1 [] h30 h30 := gSs.rf g31.1
  have rf37 := Nat.lt_of_lt_of_eq rw6.2.1 nh30.symm
  have rf38 := zh30.trans rf8
  have s39 := (fh30 0 (by decide)).trans s12
  have s40 := (fh30 1 (by decide)).trans s13
  have s41 := (fh30 2 (by decide)).trans s14
  have s42 := (fh30 3 (by decide)).trans s15
  have s43 := (fh30 4 (by decide)).trans s16
  have s44 := (fh30 5 (by decide)).trans s17
  have s45 := (fh30 7 (by decide)).trans s19
  have s46 := (fh30 8 (by decide)).trans s20
  have s47 := (fh30 9 (by decide)).trans s21
  have s48 := (fh30 10 (by decide)).trans s22
  have s49 := (fh30 11 (by decide)).trans s23
  have s50 := (fh30 12 (by decide)).trans s24
  have s51 := (fh30 13 (by decide)).trans s25
  have s52 := (fh30 14 (by decide)).trans s26
  refine gz_s 2 (pc' := 16) (L' := [some (.ref x), some (.ref s), some (.ref p), none]) (S' := [.int (zi 12), .ref x]) rfl ?_
  refine gs_newr 69 rfl (by decide) rfl sS36.1 (Nat.le_of_lt (Nat.lt_of_le_of_lt (gJ.cell sS36.1 t10 rfl).1 (gJ.cell sS36.1 t10 rfl).2.1)) (by omega) (by omega) rfl rfl (by show (12 : Int) ≤ _; omega) (by show _ ≤ (12 : Int); omega) (fun _ _ => gos_i (by decide) (by decide)) (fun ty53 h54 c55 g56 tc55 lc55 nc55 mc55 ec55 dc55 uc55 => ?_)
  have gac55 : h.1 ≤ c55 := by have h8 := G32.2.1; have h9 := sS36.2.1; omega
  have uq57 := uc55 uq28 (Or.inr (gNo.sub (by decide) pr27))
  have G58 : gSg [66, 67, 68, 69, 70, 101, 102, 103, 200] [x] [] ty h ty53 h54 := gSg.tr (gSg.ss G32 sS36 (by decide)) g56 (by decide) (by decide) (fun x hx => by cases hx)
  have rw59 := gSg.raw g56 rf37 (fun w => by cases w)
  have rf60 := (rw59.2.2.1.trans kh30)
  have rf61 := (rw59.2.2.2.trans rf38)
  have t62 : ty53 x = 200 := rw59.1.trans t9
  have t63 : ty53 s = 51 := gSg.typ g56 sS36.1 t10 rfl
  have t64 : ty53 p = 54 := gSg.typ g56 sS36.1 t11 rfl
  have rw65 := gSg.raw g56 rw33.2.1 (fun w => by cases w)
  have rf66 := (rw65.2.2.1.trans rf34)
  have rf67 := ((congrArg (fun n : Nat => (n : Int)) rw65.2.2.2).trans rf35)
  have t68 : ty53 c3 = 200 := rw65.1.trans tc3
  have s69 := gSg.rawat g56 rf37 (fun w => by cases w) t9 (by decide) s39
  have s70 := gSg.rawat g56 rf37 (fun w => by cases w) t9 (by decide) s40
  have s71 := gSg.rawat g56 rf37 (fun w => by cases w) t9 (by decide) s41
  have s72 := gSg.rawat g56 rf37 (fun w => by cases w) t9 (by decide) s42
  have s73 := gSg.rawat g56 rf37 (fun w => by cases w) t9 (by decide) s43
  have s74 := gSg.rawat g56 rf37 (fun w => by cases w) t9 (by decide) s44
  have s75 := gSg.rawat g56 rf37 (fun w => by cases w) t9 (by decide) s45
  have s76 := gSg.rawat g56 rf37 (fun w => by cases w) t9 (by decide) s46
  have s77 := gSg.rawat g56 rf37 (fun w => by cases w) t9 (by decide) s47
  have s78 := gSg.rawat g56 rf37 (fun w => by cases w) t9 (by decide) s48
  have s79 := gSg.rawat g56 rf37 (fun w => by cases w) t9 (by decide) s49
  have s80 := gSg.rawat g56 rf37 (fun w => by cases w) t9 (by decide) s50
  have s81 := gSg.rawat g56 rf37 (fun w => by cases w) t9 (by decide) s51
  have s82 := gSg.rawat g56 rf37 (fun w => by cases w) t9 (by decide) s52
  have s83 := gSg.rawat g56 rf37 (fun w => by cases w) t9 (by decide) eh30
  have pr84 : gNo [66, 67, 68, 70] ty53 := gNo.gr g56 (by decide) (gNo.sub (by decide) pr27)
  have sS85 : gSs rT 1027 ty53 [] h54 h54 := gSs.rf g56.1
  refine gs_rput rfl (by decide) rfl sS85.1 t62 nx rw59.2.1 rf60 rfl (Or.inr rfl) (fun h86 g87 nh86 mh86 kh86 zh86 eh86 fh86 => ?_)
  have G88 : gSg [66, 67, 68, 69, 70, 101, 102, 103, 200] [x] [] ty h ty53 h86 := gSg.tr (gSg.ss G58 sS85 (by decide)) g87 (by decide) (by decide) (fun x hx => Or.inr hx)
  have rw89 := gSg.raw g87 rw65.2.1 (fun w => nex_c3.symm (List.mem_singleton.mp w))
  have rf90 := (rw89.2.2.1.trans rf66)
  have rf91 := ((congrArg (fun n : Nat => (n : Int)) rw89.2.2.2).trans rf67)
  have sS92 : gSs rT 1027 ty53 [] h86 h86 := gSs.rf g87.1
  have rf93 := Nat.lt_of_lt_of_eq rw59.2.1 nh86.symm
  have rf94 := zh86.trans rf61
  have s95 := (fh86 0 (by decide)).trans s69
  have s96 := (fh86 1 (by decide)).trans s70
  have s97 := (fh86 2 (by decide)).trans s71
  have s98 := (fh86 3 (by decide)).trans s72
  have s99 := (fh86 4 (by decide)).trans s73
  have s100 := (fh86 5 (by decide)).trans s74
  have s101 := (fh86 7 (by decide)).trans s75
  have s102 := (fh86 9 (by decide)).trans s77
  have s103 := (fh86 10 (by decide)).trans s78
  have s104 := (fh86 11 (by decide)).trans s79
  have s105 := (fh86 12 (by decide)).trans s80
  have s106 := (fh86 13 (by decide)).trans s81
  have s107 := (fh86 14 (by decide)).trans s82
  have s108 := (fh86 6 (by decide)).trans s83
  refine gz_s 2 (pc' := 24) (L' := [some (.ref x), some (.ref s), some (.ref p), none]) (S' := [.int (zi 12), .ref x]) rfl ?_
  refine gs_newr 70 rfl (by decide) rfl sS92.1 (Nat.le_of_lt (Nat.lt_of_le_of_lt (gJ.cell sS92.1 t63 rfl).1 (gJ.cell sS92.1 t63 rfl).2.1)) (by omega) (by omega) rfl rfl (by show (12 : Int) ≤ _; omega) (by show _ ≤ (12 : Int); omega) (fun _ _ => gos_i (by decide) (by decide)) (fun ty109 h110 c111 g112 tc111 lc111 nc111 mc111 ec111 dc111 uc111 => ?_)
  have gac111 : h.1 ≤ c111 := by have h8 := G88.2.1; have h9 := sS92.2.1; omega
  have uq113 := uc111 uq57 (Or.inr (gNo.sub (by decide) pr84))
  have G114 : gSg [66, 67, 68, 69, 70, 101, 102, 103, 200] [x] [] ty h ty109 h110 := gSg.tr (gSg.ss G88 sS92 (by decide)) g112 (by decide) (by decide) (fun x hx => by cases hx)
  have rw115 := gSg.raw g112 rf93 (fun w => by cases w)
  have rf116 := (rw115.2.2.1.trans kh86)
  have rf117 := (rw115.2.2.2.trans rf94)
  have t118 : ty109 x = 200 := rw115.1.trans t62
  have t119 : ty109 s = 51 := gSg.typ g112 sS92.1 t63 rfl
  have t120 : ty109 p = 54 := gSg.typ g112 sS92.1 t64 rfl
  have rw121 := gSg.raw g112 rw89.2.1 (fun w => by cases w)
  have rf122 := (rw121.2.2.1.trans rf90)
  have rf123 := ((congrArg (fun n : Nat => (n : Int)) rw121.2.2.2).trans rf91)
  have t124 : ty109 c3 = 200 := rw121.1.trans t68
  have t125 : ty109 c55 = 69 := gSg.typ g112 sS92.1 tc55 rfl
  have s126 := gSg.rawat g112 rf93 (fun w => by cases w) t62 (by decide) s95
  have s127 := gSg.rawat g112 rf93 (fun w => by cases w) t62 (by decide) s96
  have s128 := gSg.rawat g112 rf93 (fun w => by cases w) t62 (by decide) s97
  have s129 := gSg.rawat g112 rf93 (fun w => by cases w) t62 (by decide) s98
  have s130 := gSg.rawat g112 rf93 (fun w => by cases w) t62 (by decide) s99
  have s131 := gSg.rawat g112 rf93 (fun w => by cases w) t62 (by decide) s100
  have s132 := gSg.rawat g112 rf93 (fun w => by cases w) t62 (by decide) s101
  have s133 := gSg.rawat g112 rf93 (fun w => by cases w) t62 (by decide) s102
  have s134 := gSg.rawat g112 rf93 (fun w => by cases w) t62 (by decide) s103
  have s135 := gSg.rawat g112 rf93 (fun w => by cases w) t62 (by decide) s104
  have s136 := gSg.rawat g112 rf93 (fun w => by cases w) t62 (by decide) s105
  have s137 := gSg.rawat g112 rf93 (fun w => by cases w) t62 (by decide) s106
  have s138 := gSg.rawat g112 rf93 (fun w => by cases w) t62 (by decide) s107
  have s139 := gSg.rawat g112 rf93 (fun w => by cases w) t62 (by decide) s108
  have s140 := gSg.rawat g112 rf93 (fun w => by cases w) t62 (by decide) eh86
  have pr141 : gNo [66, 67, 68] ty109 := gNo.gr g112 (by decide) (gNo.sub (by decide) pr84)
  have sS142 : gSs rT 1027 ty109 [] h110 h110 := gSs.rf g112.1
  refine gs_rput rfl (by decide) rfl sS142.1 t118 nx rw115.2.1 rf116 rfl (Or.inr rfl) (fun h143 g144 nh143 mh143 kh143 zh143 eh143 fh143 => ?_)
  have G145 : gSg [66, 67, 68, 69, 70, 101, 102, 103, 200] [x] [] ty h ty109 h143 := gSg.tr (gSg.ss G114 sS142 (by decide)) g144 (by decide) (by decide) (fun x hx => Or.inr hx)
  have rw146 := gSg.raw g144 rw121.2.1 (fun w => nex_c3.symm (List.mem_singleton.mp w))
  have rf147 := (rw146.2.2.1.trans rf122)
  have rf148 := ((congrArg (fun n : Nat => (n : Int)) rw146.2.2.2).trans rf123)
  have sS149 : gSs rT 1027 ty109 [] h143 h143 := gSs.rf g144.1
  have rf150 := Nat.lt_of_lt_of_eq rw115.2.1 nh143.symm
  have rf151 := zh143.trans rf117
  have s152 := (fh143 0 (by decide)).trans s126
  have s153 := (fh143 1 (by decide)).trans s127
  have s154 := (fh143 2 (by decide)).trans s128
  have s155 := (fh143 3 (by decide)).trans s129
  have s156 := (fh143 4 (by decide)).trans s130
  have s157 := (fh143 5 (by decide)).trans s131
  have s158 := (fh143 7 (by decide)).trans s132
  have s159 := (fh143 10 (by decide)).trans s134
  have s160 := (fh143 11 (by decide)).trans s135
  have s161 := (fh143 12 (by decide)).trans s136
  have s162 := (fh143 13 (by decide)).trans s137
  have s163 := (fh143 14 (by decide)).trans s138
  have s164 := (fh143 6 (by decide)).trans s139
  have s165 := (fh143 8 (by decide)).trans s140
  refine gz_s 2 (pc' := 31) (L' := [some (.ref x), some (.ref s), some (.ref p), none]) (S' := [.ref p, .ref x]) rfl ?_
  refine gs_rput rfl (by decide) rfl sS149.1 t118 nx rf150 kh143 rfl (Or.inr rfl) (fun h166 g167 nh166 mh166 kh166 zh166 eh166 fh166 => ?_)
  have G168 : gSg [66, 67, 68, 69, 70, 101, 102, 103, 200] [x] [] ty h ty109 h166 := gSg.tr (gSg.ss G145 sS149 (by decide)) g167 (by decide) (by decide) (fun x hx => Or.inr hx)
  have rw169 := gSg.raw g167 rw146.2.1 (fun w => nex_c3.symm (List.mem_singleton.mp w))
  have rf170 := (rw169.2.2.1.trans rf147)
  have rf171 := ((congrArg (fun n : Nat => (n : Int)) rw169.2.2.2).trans rf148)
  have sS172 : gSs rT 1027 ty109 [] h166 h166 := gSs.rf g167.1
  have rf173 := Nat.lt_of_lt_of_eq rf150 nh166.symm
  have rf174 := zh166.trans rf151
  have s175 := (fh166 0 (by decide)).trans s152
  have s176 := (fh166 1 (by decide)).trans s153
  have s177 := (fh166 2 (by decide)).trans s154
  have s178 := (fh166 3 (by decide)).trans s155
  have s179 := (fh166 4 (by decide)).trans s156
  have s180 := (fh166 5 (by decide)).trans s157
  have s181 := (fh166 10 (by decide)).trans s159
  have s182 := (fh166 11 (by decide)).trans s160
  have s183 := (fh166 12 (by decide)).trans s161
  have s184 := (fh166 13 (by decide)).trans s162
  have s185 := (fh166 14 (by decide)).trans s163
  have s186 := (fh166 6 (by decide)).trans s164
  have s187 := (fh166 8 (by decide)).trans s165
  have s188 := (fh166 9 (by decide)).trans eh143
  refine gz_s 1 (pc' := 35) (L' := [some (.ref x), some (.ref s), some (.ref p), none]) (S' := [.ref x]) rfl ?_
  refine gs_newo rfl (by decide) rfl sS172.1 (Nat.le_of_lt (Nat.lt_of_le_of_lt (gJ.cell sS172.1 t119 rfl).1 (gJ.cell sS172.1 t119 rfl).2.1)) (fun ty189 h190 c191 g192 tc191 kc191 zc191 nc191 mc191 ec191 dc191 => ?_)
  have mfc191 : h190.2.1 = h166.2.1 + 4 := mc191
  have gac191 : h.1 ≤ c191 := by have h8 := G168.2.1; have h9 := sS172.2.1; omega
  have nnc191 : 1027 ≤ c191 := by have h8 := (Nat.le_of_lt (Nat.lt_of_le_of_lt (gJ.cell sS172.1 t119 rfl).1 (gJ.cell sS172.1 t119 rfl).2.1)); omega
  have llc191 : c191 < _ := by rw [nc191, ec191]; exact Nat.lt_succ_self _
  have nex_c191 : x ≠ c191 := by have h8 := rf173; omega
  have nec3_c191 : c3 ≠ c191 := by have h8 := rw169.2.1; omega
  have G193 : gSg [66, 67, 68, 69, 70, 101, 102, 103, 200] [x] [] ty h ty189 h190 := gSg.tr (gSg.ss G168 sS172 (by decide)) g192 (by decide) (by decide) (fun x hx => by cases hx)
  have rw194 := gSg.raw g192 rf173 (fun w => by cases w)
  have rf195 := (rw194.2.2.1.trans kh166)
  have rf196 := (rw194.2.2.2.trans rf174)
  have t197 : ty189 x = 200 := rw194.1.trans t118
  have t198 : ty189 s = 51 := gSg.typ g192 sS172.1 t119 rfl
  have t199 : ty189 p = 54 := gSg.typ g192 sS172.1 t120 rfl
  have rw200 := gSg.raw g192 rw169.2.1 (fun w => by cases w)
  have rf201 := (rw200.2.2.1.trans rf170)
  have rf202 := ((congrArg (fun n : Nat => (n : Int)) rw200.2.2.2).trans rf171)
  have t203 : ty189 c3 = 200 := rw200.1.trans t124
  have t204 : ty189 c55 = 69 := gSg.typ g192 sS172.1 t125 rfl
  have t205 : ty189 c111 = 70 := gSg.typ g192 sS172.1 tc111 rfl
  have s206 := gSg.rawat g192 rf173 (fun w => by cases w) t118 (by decide) s175
  have s207 := gSg.rawat g192 rf173 (fun w => by cases w) t118 (by decide) s176
  have s208 := gSg.rawat g192 rf173 (fun w => by cases w) t118 (by decide) s177
  have s209 := gSg.rawat g192 rf173 (fun w => by cases w) t118 (by decide) s178
  have s210 := gSg.rawat g192 rf173 (fun w => by cases w) t118 (by decide) s179
  have s211 := gSg.rawat g192 rf173 (fun w => by cases w) t118 (by decide) s180
  have s212 := gSg.rawat g192 rf173 (fun w => by cases w) t118 (by decide) s181
  have s213 := gSg.rawat g192 rf173 (fun w => by cases w) t118 (by decide) s182
  have s214 := gSg.rawat g192 rf173 (fun w => by cases w) t118 (by decide) s183
  have s215 := gSg.rawat g192 rf173 (fun w => by cases w) t118 (by decide) s184
  have s216 := gSg.rawat g192 rf173 (fun w => by cases w) t118 (by decide) s185
  have s217 := gSg.rawat g192 rf173 (fun w => by cases w) t118 (by decide) s186
  have s218 := gSg.rawat g192 rf173 (fun w => by cases w) t118 (by decide) s187
  have s219 := gSg.rawat g192 rf173 (fun w => by cases w) t118 (by decide) s188
  have s220 := gSg.rawat g192 rf173 (fun w => by cases w) t118 (by decide) eh166
  have pr221 : gNo [66, 67, 68] ty189 := gNo.gr g192 (by decide) (gNo.sub (by decide) pr141)
  have uq222 := gSg.uq g192 uq113 (by decide)
  have sS223 : gSs rT 1027 ty189 [] h190 h190 := gSs.rf g192.1
  refine gz_s 2 (pc' := 40) (L' := [some (.ref x), some (.ref s), some (.ref p), none]) (S' := [.ref s, .ref c191, .ref c191, .ref x]) rfl ?_
  refine gz_call rfl (by decide) rfl (by decide) (by decide) (gcal_of rfl rfl rfl (Nat.le_of_ble_eq_true rfl) rfl) (ct_Bits _ sS223.1 c191 tc191 nnc191 llc191 kc191 zc191 dc191 s t198 (gNo.sub (by decide) pr221) uq222) (fun q224 _ wq224 => ?_)
  obtain ⟨pq224, oq224, hq224⟩ := q224
  obtain ⟨tyq224, xq224, trq224_0, gq224, uq224_0, uq224_1, uqq224⟩ := wq224
  dsimp only at uq224_0 uq224_1
  refine ⟨_, gq224, ?_⟩
  show gz gPP gGG gcn _ _ 43 [some (.ref x), some (.ref s), some (.ref p), none] [.ref c191, .ref x] hq224 _
  have G225 : gSg [66, 67, 68, 69, 70, 101, 102, 103, 200] [x] [] ty h tyq224 hq224 := gSg.tr (gSg.ss G193 sS223 (by decide)) xq224 (by decide) (by decide) (fun x hx => Or.inl (by rw [List.mem_singleton.mp hx]; exact gac191))
  have rw226 := gSg.raw xq224 rw194.2.1 (fun w => nex_c191 (List.mem_singleton.mp w))
  have rf227 := (rw226.2.2.1.trans rf195)
  have rf228 := (rw226.2.2.2.trans rf196)
  have t229 : tyq224 x = 200 := rw226.1.trans t197
  have t230 : tyq224 s = 51 := gSg.typ xq224 sS223.1 t198 rfl
  have t231 : tyq224 p = 54 := gSg.typ xq224 sS223.1 t199 rfl
  have rw232 := gSg.raw xq224 rw200.2.1 (fun w => nec3_c191 (List.mem_singleton.mp w))
  have rf233 := (rw232.2.2.1.trans rf201)
  have rf234 := ((congrArg (fun n : Nat => (n : Int)) rw232.2.2.2).trans rf202)
  have t235 : tyq224 c3 = 200 := rw232.1.trans t203
  have t236 : tyq224 c55 = 69 := gSg.typ xq224 sS223.1 t204 rfl
  have t237 : tyq224 c111 = 70 := gSg.typ xq224 sS223.1 t205 rfl
  have s238 := gSg.rawat xq224 rw194.2.1 (fun w => nex_c191 (List.mem_singleton.mp w)) t197 (by decide) s206
  have s239 := gSg.rawat xq224 rw194.2.1 (fun w => nex_c191 (List.mem_singleton.mp w)) t197 (by decide) s207
  have s240 := gSg.rawat xq224 rw194.2.1 (fun w => nex_c191 (List.mem_singleton.mp w)) t197 (by decide) s208
  have s241 := gSg.rawat xq224 rw194.2.1 (fun w => nex_c191 (List.mem_singleton.mp w)) t197 (by decide) s209
  have s242 := gSg.rawat xq224 rw194.2.1 (fun w => nex_c191 (List.mem_singleton.mp w)) t197 (by decide) s210
  have s243 := gSg.rawat xq224 rw194.2.1 (fun w => nex_c191 (List.mem_singleton.mp w)) t197 (by decide) s211
  have s244 := gSg.rawat xq224 rw194.2.1 (fun w => nex_c191 (List.mem_singleton.mp w)) t197 (by decide) s212
  have s245 := gSg.rawat xq224 rw194.2.1 (fun w => nex_c191 (List.mem_singleton.mp w)) t197 (by decide) s213
  have s246 := gSg.rawat xq224 rw194.2.1 (fun w => nex_c191 (List.mem_singleton.mp w)) t197 (by decide) s214
  have s247 := gSg.rawat xq224 rw194.2.1 (fun w => nex_c191 (List.mem_singleton.mp w)) t197 (by decide) s215
  have s248 := gSg.rawat xq224 rw194.2.1 (fun w => nex_c191 (List.mem_singleton.mp w)) t197 (by decide) s216
  have s249 := gSg.rawat xq224 rw194.2.1 (fun w => nex_c191 (List.mem_singleton.mp w)) t197 (by decide) s217
  have s250 := gSg.rawat xq224 rw194.2.1 (fun w => nex_c191 (List.mem_singleton.mp w)) t197 (by decide) s218
  have s251 := gSg.rawat xq224 rw194.2.1 (fun w => nex_c191 (List.mem_singleton.mp w)) t197 (by decide) s219
  have s252 := gSg.rawat xq224 rw194.2.1 (fun w => nex_c191 (List.mem_singleton.mp w)) t197 (by decide) s220
  have pr253 : gNo [66, 68] tyq224 := gNo.gr xq224 (by decide) (gNo.sub (by decide) pr221)
  have sS254 : gSs rT 1027 tyq224 [] hq224 hq224 := gSs.rf xq224.1
  refine gs_rput rfl (by decide) rfl sS254.1 t229 nx rw226.2.1 rf227 rfl (Or.inr rfl) (fun h255 g256 nh255 mh255 kh255 zh255 eh255 fh255 => ?_)
  have G257 : gSg [66, 67, 68, 69, 70, 101, 102, 103, 200] [x] [] ty h tyq224 h255 := gSg.tr (gSg.ss G225 sS254 (by decide)) g256 (by decide) (by decide) (fun x hx => Or.inr hx)
  have rw258 := gSg.raw g256 rw232.2.1 (fun w => nex_c3.symm (List.mem_singleton.mp w))
  have rf259 := (rw258.2.2.1.trans rf233)
  have rf260 := ((congrArg (fun n : Nat => (n : Int)) rw258.2.2.2).trans rf234)
  have sS261 : gSs rT 1027 tyq224 [] h255 h255 := gSs.rf g256.1
  have rf262 := Nat.lt_of_lt_of_eq rw226.2.1 nh255.symm
  have rf263 := zh255.trans rf228
  have s264 := (fh255 1 (by decide)).trans s239
  have s265 := (fh255 2 (by decide)).trans s240
  have s266 := (fh255 3 (by decide)).trans s241
  have s267 := (fh255 4 (by decide)).trans s242
  have s268 := (fh255 5 (by decide)).trans s243
  have s269 := (fh255 10 (by decide)).trans s244
  have s270 := (fh255 11 (by decide)).trans s245
  have s271 := (fh255 12 (by decide)).trans s246
  have s272 := (fh255 13 (by decide)).trans s247
  have s273 := (fh255 14 (by decide)).trans s248
  have s274 := (fh255 6 (by decide)).trans s249
  have s275 := (fh255 8 (by decide)).trans s250
  have s276 := (fh255 9 (by decide)).trans s251
  have s277 := (fh255 7 (by decide)).trans s252
  refine gz_s 4 (pc' := 50) (L' := [some (.ref x), some (.ref s), some (.ref p), some (.int (zi 0))]) (S' := [.ref x, .int (zi 0)]) rfl ?_
  refine gz_get rfl (by decide) rfl nx rf262 kh255 s274 ?_
  refine gs_rlen (z := 8) rfl (by decide) rw258.2.1 rf259 rfl rf260 ?_
  refine gy_icF rfl (by decide) (by decide) (by omega) (by omega) (by first | (simp [zc]; done) | (simp only [zc]; omega)) ?_
  refine gz_s 1 (pc' := 58) (L' := [some (.ref x), some (.ref s), some (.ref p), some (.int (zi 0))]) (S' := [.ref x]) rfl ?_
  refine gz_get rfl (by decide) rfl nx rf262 kh255 s274 ?_
  refine gz_s 1 (pc' := 62) (L' := [some (.ref x), some (.ref s), some (.ref p), some (.int (zi 0))]) (S' := [.int (zi 0), .ref c3]) rfl ?_
  refine gs_newo rfl (by decide) rfl sS261.1 (Nat.le_of_lt (Nat.lt_of_le_of_lt (gJ.cell sS261.1 t230 rfl).1 (gJ.cell sS261.1 t230 rfl).2.1)) (fun ty278 h279 c280 g281 tc280 kc280 zc280 nc280 mc280 ec280 dc280 => ?_)
  have mfc280 : h279.2.1 = h255.2.1 + 2 := mc280
  have gac280 : h.1 ≤ c280 := by have h8 := G257.2.1; have h9 := sS261.2.1; omega
  have nnc280 : 1027 ≤ c280 := by have h8 := (Nat.le_of_lt (Nat.lt_of_le_of_lt (gJ.cell sS261.1 t230 rfl).1 (gJ.cell sS261.1 t230 rfl).2.1)); omega
  have llc280 : c280 < _ := by rw [nc280, ec280]; exact Nat.lt_succ_self _
  have nex_c280 : x ≠ c280 := by have h8 := rf262; omega
  have nec3_c280 : c3 ≠ c280 := by have h8 := rw258.2.1; omega
  have G282 : gSg [66, 67, 68, 69, 70, 101, 102, 103, 200] [x] [] ty h ty278 h279 := gSg.tr (gSg.ss G257 sS261 (by decide)) g281 (by decide) (by decide) (fun x hx => by cases hx)
  have rw283 := gSg.raw g281 rf262 (fun w => by cases w)
  have rf284 := (rw283.2.2.1.trans kh255)
  have rf285 := (rw283.2.2.2.trans rf263)
  have t286 : ty278 x = 200 := rw283.1.trans t229
  have t287 : ty278 s = 51 := gSg.typ g281 sS261.1 t230 rfl
  have t288 : ty278 p = 54 := gSg.typ g281 sS261.1 t231 rfl
  have rw289 := gSg.raw g281 rw258.2.1 (fun w => by cases w)
  have rf290 := (rw289.2.2.1.trans rf259)
  have rf291 := ((congrArg (fun n : Nat => (n : Int)) rw289.2.2.2).trans rf260)
  have t292 : ty278 c3 = 200 := rw289.1.trans t235
  have t293 : ty278 c55 = 69 := gSg.typ g281 sS261.1 t236 rfl
  have t294 : ty278 c111 = 70 := gSg.typ g281 sS261.1 t237 rfl
  have t295 : ty278 c191 = 67 := gSg.typ g281 sS261.1 trq224_0 rfl
  have s296 := gSg.rawat g281 rf262 (fun w => by cases w) t229 (by decide) s264
  have s297 := gSg.rawat g281 rf262 (fun w => by cases w) t229 (by decide) s265
  have s298 := gSg.rawat g281 rf262 (fun w => by cases w) t229 (by decide) s266
  have s299 := gSg.rawat g281 rf262 (fun w => by cases w) t229 (by decide) s267
  have s300 := gSg.rawat g281 rf262 (fun w => by cases w) t229 (by decide) s268
  have s301 := gSg.rawat g281 rf262 (fun w => by cases w) t229 (by decide) s269
  have s302 := gSg.rawat g281 rf262 (fun w => by cases w) t229 (by decide) s270
  have s303 := gSg.rawat g281 rf262 (fun w => by cases w) t229 (by decide) s271
  have s304 := gSg.rawat g281 rf262 (fun w => by cases w) t229 (by decide) s272
  have s305 := gSg.rawat g281 rf262 (fun w => by cases w) t229 (by decide) s273
  have s306 := gSg.rawat g281 rf262 (fun w => by cases w) t229 (by decide) s274
  have s307 := gSg.rawat g281 rf262 (fun w => by cases w) t229 (by decide) s275
  have s308 := gSg.rawat g281 rf262 (fun w => by cases w) t229 (by decide) s276
  have s309 := gSg.rawat g281 rf262 (fun w => by cases w) t229 (by decide) s277
  have s310 := gSg.rawat g281 rf262 (fun w => by cases w) t229 (by decide) eh255
  have pr311 : gNo [66, 68] ty278 := gNo.gr g281 (by decide) (gNo.sub (by decide) pr253)
  have uq312 := gSg.uq g281 uqq224 (by decide)
  have sS313 : gSs rT 1027 ty278 [] h279 h279 := gSs.rf g281.1
  refine gz_s 1 (pc' := 66) (L' := [some (.ref x), some (.ref s), some (.ref p), some (.int (zi 0))]) (S' := [.ref c280, .ref c280, .int (zi 0), .ref c3]) rfl ?_
  refine gz_call rfl (by decide) rfl (by decide) (by decide) (gcal_of rfl rfl rfl (Nat.le_of_ble_eq_true rfl) rfl) (ct_Codes _ sS313.1 c280 tc280 nnc280 llc280 kc280 zc280 dc280 uq312) (fun q314 _ wq314 => ?_)
  obtain ⟨pq314, oq314, hq314⟩ := q314
  obtain ⟨tyq314, xq314, trq314_0, gq314, uq314_0, uq314_1⟩ := wq314
  dsimp only at uq314_0 uq314_1
  refine ⟨_, gq314, ?_⟩
  show gz gPP gGG gcn _ _ 69 [some (.ref x), some (.ref s), some (.ref p), some (.int (zi 0))] [.ref c280, .int (zi 0), .ref c3] hq314 _
  have G315 : gSg [66, 67, 68, 69, 70, 101, 102, 103, 200] [x] [] ty h tyq314 hq314 := gSg.tr (gSg.ss G282 sS313 (by decide)) xq314 (by decide) (by decide) (fun x hx => Or.inl (by rw [List.mem_singleton.mp hx]; exact gac280))
  have rw316 := gSg.raw xq314 rw283.2.1 (fun w => nex_c280 (List.mem_singleton.mp w))
  have rf317 := (rw316.2.2.1.trans rf284)
  have rf318 := (rw316.2.2.2.trans rf285)
  have t319 : tyq314 x = 200 := rw316.1.trans t286
  have t320 : tyq314 s = 51 := gSg.typ xq314 sS313.1 t287 rfl
  have t321 : tyq314 p = 54 := gSg.typ xq314 sS313.1 t288 rfl
  have rw322 := gSg.raw xq314 rw289.2.1 (fun w => nec3_c280 (List.mem_singleton.mp w))
  have rf323 := (rw322.2.2.1.trans rf290)
  have rf324 := ((congrArg (fun n : Nat => (n : Int)) rw322.2.2.2).trans rf291)
  have t325 : tyq314 c3 = 200 := rw322.1.trans t292
  have t326 : tyq314 c55 = 69 := gSg.typ xq314 sS313.1 t293 rfl
  have t327 : tyq314 c111 = 70 := gSg.typ xq314 sS313.1 t294 rfl
  have t328 : tyq314 c191 = 67 := gSg.typ xq314 sS313.1 t295 rfl
  have s329 := gSg.rawat xq314 rw283.2.1 (fun w => nex_c280 (List.mem_singleton.mp w)) t286 (by decide) s296
  have s330 := gSg.rawat xq314 rw283.2.1 (fun w => nex_c280 (List.mem_singleton.mp w)) t286 (by decide) s297
  have s331 := gSg.rawat xq314 rw283.2.1 (fun w => nex_c280 (List.mem_singleton.mp w)) t286 (by decide) s298
  have s332 := gSg.rawat xq314 rw283.2.1 (fun w => nex_c280 (List.mem_singleton.mp w)) t286 (by decide) s299
  have s333 := gSg.rawat xq314 rw283.2.1 (fun w => nex_c280 (List.mem_singleton.mp w)) t286 (by decide) s300
  have s334 := gSg.rawat xq314 rw283.2.1 (fun w => nex_c280 (List.mem_singleton.mp w)) t286 (by decide) s301
  have s335 := gSg.rawat xq314 rw283.2.1 (fun w => nex_c280 (List.mem_singleton.mp w)) t286 (by decide) s302
  have s336 := gSg.rawat xq314 rw283.2.1 (fun w => nex_c280 (List.mem_singleton.mp w)) t286 (by decide) s303
  have s337 := gSg.rawat xq314 rw283.2.1 (fun w => nex_c280 (List.mem_singleton.mp w)) t286 (by decide) s304
  have s338 := gSg.rawat xq314 rw283.2.1 (fun w => nex_c280 (List.mem_singleton.mp w)) t286 (by decide) s305
  have s339 := gSg.rawat xq314 rw283.2.1 (fun w => nex_c280 (List.mem_singleton.mp w)) t286 (by decide) s306
  have s340 := gSg.rawat xq314 rw283.2.1 (fun w => nex_c280 (List.mem_singleton.mp w)) t286 (by decide) s307
  have s341 := gSg.rawat xq314 rw283.2.1 (fun w => nex_c280 (List.mem_singleton.mp w)) t286 (by decide) s308
  have s342 := gSg.rawat xq314 rw283.2.1 (fun w => nex_c280 (List.mem_singleton.mp w)) t286 (by decide) s309
  have s343 := gSg.rawat xq314 rw283.2.1 (fun w => nex_c280 (List.mem_singleton.mp w)) t286 (by decide) s310
  have pr344 : gNo [66, 68] tyq314 := gNo.gr xq314 (by decide) (gNo.sub (by decide) pr311)
  have uq345 := gSg.uq xq314 uq312 (by decide)
  have sS346 : gSs rT 1027 tyq314 [] hq314 hq314 := gSs.rf xq314.1
  refine gs_rast (j := 0) rfl (by decide) sS346.1 t325 nnc3 rw322.2.1 rf323 rfl (gJ.cell sS346.1 trq314_0 rfl).1 (gJ.cell sS346.1 trq314_0 rfl).2.1 (gJ.cell sS346.1 trq314_0 rfl).2.2 rfl (by have h9 := rf324; omega) (by have h9 := rf324; omega) (fun h347 g348 nh347 mh347 kh347 zh347 eh347 fh347 => ?_)
  have G349 : gSg [66, 67, 68, 69, 70, 101, 102, 103, 200] [x] [] ty h tyq314 h347 := gSg.tr (gSg.ss G315 sS346 (by decide)) g348 (by decide) (by decide) (fun x hx => Or.inl (by rw [List.mem_singleton.mp hx]; exact gac3))
  have rw350 := gSg.raw g348 rw316.2.1 (fun w => nex_c3 (List.mem_singleton.mp w))
  have rf351 := (rw350.2.2.1.trans rf317)
  have rf352 := (rw350.2.2.2.trans rf318)
  have s353 := gSg.rawat g348 rw316.2.1 (fun w => nex_c3 (List.mem_singleton.mp w)) t319 (by decide) s329
  have s354 := gSg.rawat g348 rw316.2.1 (fun w => nex_c3 (List.mem_singleton.mp w)) t319 (by decide) s330
  have s355 := gSg.rawat g348 rw316.2.1 (fun w => nex_c3 (List.mem_singleton.mp w)) t319 (by decide) s331
  have s356 := gSg.rawat g348 rw316.2.1 (fun w => nex_c3 (List.mem_singleton.mp w)) t319 (by decide) s332
  have s357 := gSg.rawat g348 rw316.2.1 (fun w => nex_c3 (List.mem_singleton.mp w)) t319 (by decide) s333
  have s358 := gSg.rawat g348 rw316.2.1 (fun w => nex_c3 (List.mem_singleton.mp w)) t319 (by decide) s334
  have s359 := gSg.rawat g348 rw316.2.1 (fun w => nex_c3 (List.mem_singleton.mp w)) t319 (by decide) s335
  have s360 := gSg.rawat g348 rw316.2.1 (fun w => nex_c3 (List.mem_singleton.mp w)) t319 (by decide) s336
  have s361 := gSg.rawat g348 rw316.2.1 (fun w => nex_c3 (List.mem_singleton.mp w)) t319 (by decide) s337
  have s362 := gSg.rawat g348 rw316.2.1 (fun w => nex_c3 (List.mem_singleton.mp w)) t319 (by decide) s338
  have s363 := gSg.rawat g348 rw316.2.1 (fun w => nex_c3 (List.mem_singleton.mp w)) t319 (by decide) s339
  have s364 := gSg.rawat g348 rw316.2.1 (fun w => nex_c3 (List.mem_singleton.mp w)) t319 (by decide) s340
  have s365 := gSg.rawat g348 rw316.2.1 (fun w => nex_c3 (List.mem_singleton.mp w)) t319 (by decide) s341
  have s366 := gSg.rawat g348 rw316.2.1 (fun w => nex_c3 (List.mem_singleton.mp w)) t319 (by decide) s342
  have s367 := gSg.rawat g348 rw316.2.1 (fun w => nex_c3 (List.mem_singleton.mp w)) t319 (by decide) s343
  have sS368 : gSs rT 1027 tyq314 [] h347 h347 := gSs.rf g348.1
  have rf369 := Nat.lt_of_lt_of_eq rw322.2.1 nh347.symm
  have rf370 := (congrArg (fun n : Nat => (n : Int)) zh347).trans rf324
  refine gy_s 4 (pc' := 50) (L' := [some (.ref x), some (.ref s), some (.ref p), some (.int ((zi 0) + zi 1))]) (S' := [.ref x, .int ((zi 0) + zi 1)]) (L2 := [some (.ref x), some (.ref s), some (.ref p), some (.int (zi 1))]) (S2 := [.ref x, .int (zi 1)]) rfl (by simp only [zi_add, zi_sub, zi_mul, zi_neg, zi_and1, zi_and7, zi_and15, zi_and31, zi_and255, Int.reduceAdd, Int.reduceMul, Int.reduceSub]) (by simp only [zi_add, zi_sub, zi_mul, zi_neg, zi_and1, zi_and7, zi_and15, zi_and31, zi_and255, Int.reduceAdd, Int.reduceMul, Int.reduceSub]) ?_
  refine gz_get rfl (by decide) rfl nx rw350.2.1 rf351 s363 ?_
  refine gs_rlen (z := 8) rfl (by decide) rf369 kh347 rfl rf370 ?_
  refine gy_icF rfl (by decide) (by decide) (by omega) (by omega) (by first | (simp [zc]; done) | (simp only [zc]; omega)) ?_
  refine gz_s 1 (pc' := 58) (L' := [some (.ref x), some (.ref s), some (.ref p), some (.int (zi 1))]) (S' := [.ref x]) rfl ?_
  refine gz_get rfl (by decide) rfl nx rw350.2.1 rf351 s363 ?_
  refine gz_s 1 (pc' := 62) (L' := [some (.ref x), some (.ref s), some (.ref p), some (.int (zi 1))]) (S' := [.int (zi 1), .ref c3]) rfl ?_
  refine gs_newo rfl (by decide) rfl sS368.1 (Nat.le_of_lt (Nat.lt_of_le_of_lt (gJ.cell sS368.1 t320 rfl).1 (gJ.cell sS368.1 t320 rfl).2.1)) (fun ty371 h372 c373 g374 tc373 kc373 zc373 nc373 mc373 ec373 dc373 => ?_)
  have mfc373 : h372.2.1 = h347.2.1 + 2 := mc373
  have gac373 : h.1 ≤ c373 := by have h8 := G349.2.1; have h9 := sS368.2.1; omega
  have nnc373 : 1027 ≤ c373 := by have h8 := (Nat.le_of_lt (Nat.lt_of_le_of_lt (gJ.cell sS368.1 t320 rfl).1 (gJ.cell sS368.1 t320 rfl).2.1)); omega
  have llc373 : c373 < _ := by rw [nc373, ec373]; exact Nat.lt_succ_self _
  have nex_c373 : x ≠ c373 := by have h8 := rw350.2.1; omega
  have nec3_c373 : c3 ≠ c373 := by have h8 := rf369; omega
  have G375 : gSg [66, 67, 68, 69, 70, 101, 102, 103, 200] [x] [] ty h ty371 h372 := gSg.tr (gSg.ss G349 sS368 (by decide)) g374 (by decide) (by decide) (fun x hx => by cases hx)
  have rw376 := gSg.raw g374 rw350.2.1 (fun w => by cases w)
  have rf377 := (rw376.2.2.1.trans rf351)
  have rf378 := (rw376.2.2.2.trans rf352)
  have t379 : ty371 x = 200 := rw376.1.trans t319
  have t380 : ty371 s = 51 := gSg.typ g374 sS368.1 t320 rfl
  have t381 : ty371 p = 54 := gSg.typ g374 sS368.1 t321 rfl
  have rw382 := gSg.raw g374 rf369 (fun w => by cases w)
  have rf383 := (rw382.2.2.1.trans kh347)
  have rf384 := ((congrArg (fun n : Nat => (n : Int)) rw382.2.2.2).trans rf370)
  have t385 : ty371 c3 = 200 := rw382.1.trans t325
  have t386 : ty371 c55 = 69 := gSg.typ g374 sS368.1 t326 rfl
  have t387 : ty371 c111 = 70 := gSg.typ g374 sS368.1 t327 rfl
  have t388 : ty371 c191 = 67 := gSg.typ g374 sS368.1 t328 rfl
  have t389 : ty371 c280 = 101 := gSg.typ g374 sS368.1 trq314_0 rfl
  have s390 := gSg.rawat g374 rw350.2.1 (fun w => by cases w) t319 (by decide) s353
  have s391 := gSg.rawat g374 rw350.2.1 (fun w => by cases w) t319 (by decide) s354
  have s392 := gSg.rawat g374 rw350.2.1 (fun w => by cases w) t319 (by decide) s355
  have s393 := gSg.rawat g374 rw350.2.1 (fun w => by cases w) t319 (by decide) s356
  have s394 := gSg.rawat g374 rw350.2.1 (fun w => by cases w) t319 (by decide) s357
  have s395 := gSg.rawat g374 rw350.2.1 (fun w => by cases w) t319 (by decide) s358
  have s396 := gSg.rawat g374 rw350.2.1 (fun w => by cases w) t319 (by decide) s359
  have s397 := gSg.rawat g374 rw350.2.1 (fun w => by cases w) t319 (by decide) s360
  have s398 := gSg.rawat g374 rw350.2.1 (fun w => by cases w) t319 (by decide) s361
  have s399 := gSg.rawat g374 rw350.2.1 (fun w => by cases w) t319 (by decide) s362
  have s400 := gSg.rawat g374 rw350.2.1 (fun w => by cases w) t319 (by decide) s363
  have s401 := gSg.rawat g374 rw350.2.1 (fun w => by cases w) t319 (by decide) s364
  have s402 := gSg.rawat g374 rw350.2.1 (fun w => by cases w) t319 (by decide) s365
  have s403 := gSg.rawat g374 rw350.2.1 (fun w => by cases w) t319 (by decide) s366
  have s404 := gSg.rawat g374 rw350.2.1 (fun w => by cases w) t319 (by decide) s367
  have s405 := gSg.rawat g374 rf369 (fun w => by cases w) t325 (by decide) eh347
  have pr406 : gNo [66, 68] ty371 := gNo.gr g374 (by decide) (gNo.sub (by decide) pr344)
  have uq407 := gSg.uq g374 uq345 (by decide)
  have sS408 : gSs rT 1027 ty371 [] h372 h372 := gSs.rf g374.1
  refine gz_s 1 (pc' := 66) (L' := [some (.ref x), some (.ref s), some (.ref p), some (.int (zi 1))]) (S' := [.ref c373, .ref c373, .int (zi 1), .ref c3]) rfl ?_
  refine gz_call rfl (by decide) rfl (by decide) (by decide) (gcal_of rfl rfl rfl (Nat.le_of_ble_eq_true rfl) rfl) (ct_Codes _ sS408.1 c373 tc373 nnc373 llc373 kc373 zc373 dc373 uq407) (fun q409 _ wq409 => ?_)
  obtain ⟨pq409, oq409, hq409⟩ := q409
  obtain ⟨tyq409, xq409, trq409_0, gq409, uq409_0, uq409_1⟩ := wq409
  dsimp only at uq409_0 uq409_1
  refine ⟨_, gq409, ?_⟩
  show gz gPP gGG gcn _ _ 69 [some (.ref x), some (.ref s), some (.ref p), some (.int (zi 1))] [.ref c373, .int (zi 1), .ref c3] hq409 _
  have G410 : gSg [66, 67, 68, 69, 70, 101, 102, 103, 200] [x] [] ty h tyq409 hq409 := gSg.tr (gSg.ss G375 sS408 (by decide)) xq409 (by decide) (by decide) (fun x hx => Or.inl (by rw [List.mem_singleton.mp hx]; exact gac373))
  have rw411 := gSg.raw xq409 rw376.2.1 (fun w => nex_c373 (List.mem_singleton.mp w))
  have rf412 := (rw411.2.2.1.trans rf377)
  have rf413 := (rw411.2.2.2.trans rf378)
  have t414 : tyq409 x = 200 := rw411.1.trans t379
  have t415 : tyq409 s = 51 := gSg.typ xq409 sS408.1 t380 rfl
  have t416 : tyq409 p = 54 := gSg.typ xq409 sS408.1 t381 rfl
  have rw417 := gSg.raw xq409 rw382.2.1 (fun w => nec3_c373 (List.mem_singleton.mp w))
  have rf418 := (rw417.2.2.1.trans rf383)
  have rf419 := ((congrArg (fun n : Nat => (n : Int)) rw417.2.2.2).trans rf384)
  have t420 : tyq409 c3 = 200 := rw417.1.trans t385
  have t421 : tyq409 c55 = 69 := gSg.typ xq409 sS408.1 t386 rfl
  have t422 : tyq409 c111 = 70 := gSg.typ xq409 sS408.1 t387 rfl
  have t423 : tyq409 c191 = 67 := gSg.typ xq409 sS408.1 t388 rfl
  have t424 : tyq409 c280 = 101 := gSg.typ xq409 sS408.1 t389 rfl
  have s425 := gSg.rawat xq409 rw376.2.1 (fun w => nex_c373 (List.mem_singleton.mp w)) t379 (by decide) s390
  have s426 := gSg.rawat xq409 rw376.2.1 (fun w => nex_c373 (List.mem_singleton.mp w)) t379 (by decide) s391
  have s427 := gSg.rawat xq409 rw376.2.1 (fun w => nex_c373 (List.mem_singleton.mp w)) t379 (by decide) s392
  have s428 := gSg.rawat xq409 rw376.2.1 (fun w => nex_c373 (List.mem_singleton.mp w)) t379 (by decide) s393
  have s429 := gSg.rawat xq409 rw376.2.1 (fun w => nex_c373 (List.mem_singleton.mp w)) t379 (by decide) s394
  have s430 := gSg.rawat xq409 rw376.2.1 (fun w => nex_c373 (List.mem_singleton.mp w)) t379 (by decide) s395
  have s431 := gSg.rawat xq409 rw376.2.1 (fun w => nex_c373 (List.mem_singleton.mp w)) t379 (by decide) s396
  have s432 := gSg.rawat xq409 rw376.2.1 (fun w => nex_c373 (List.mem_singleton.mp w)) t379 (by decide) s397
  have s433 := gSg.rawat xq409 rw376.2.1 (fun w => nex_c373 (List.mem_singleton.mp w)) t379 (by decide) s398
  have s434 := gSg.rawat xq409 rw376.2.1 (fun w => nex_c373 (List.mem_singleton.mp w)) t379 (by decide) s399
  have s435 := gSg.rawat xq409 rw376.2.1 (fun w => nex_c373 (List.mem_singleton.mp w)) t379 (by decide) s400
  have s436 := gSg.rawat xq409 rw376.2.1 (fun w => nex_c373 (List.mem_singleton.mp w)) t379 (by decide) s401
  have s437 := gSg.rawat xq409 rw376.2.1 (fun w => nex_c373 (List.mem_singleton.mp w)) t379 (by decide) s402
  have s438 := gSg.rawat xq409 rw376.2.1 (fun w => nex_c373 (List.mem_singleton.mp w)) t379 (by decide) s403
  have s439 := gSg.rawat xq409 rw376.2.1 (fun w => nex_c373 (List.mem_singleton.mp w)) t379 (by decide) s404
  have s440 := gSg.rawat xq409 rw382.2.1 (fun w => nec3_c373 (List.mem_singleton.mp w)) t385 (by decide) s405
  have pr441 : gNo [66, 68] tyq409 := gNo.gr xq409 (by decide) (gNo.sub (by decide) pr406)
  have uq442 := gSg.uq xq409 uq407 (by decide)
  have sS443 : gSs rT 1027 tyq409 [] hq409 hq409 := gSs.rf xq409.1
  refine gs_rast (j := 1) rfl (by decide) sS443.1 t420 nnc3 rw417.2.1 rf418 rfl (gJ.cell sS443.1 trq409_0 rfl).1 (gJ.cell sS443.1 trq409_0 rfl).2.1 (gJ.cell sS443.1 trq409_0 rfl).2.2 rfl (by have h9 := rf419; omega) (by have h9 := rf419; omega) (fun h444 g445 nh444 mh444 kh444 zh444 eh444 fh444 => ?_)
  have G446 : gSg [66, 67, 68, 69, 70, 101, 102, 103, 200] [x] [] ty h tyq409 h444 := gSg.tr (gSg.ss G410 sS443 (by decide)) g445 (by decide) (by decide) (fun x hx => Or.inl (by rw [List.mem_singleton.mp hx]; exact gac3))
  have rw447 := gSg.raw g445 rw411.2.1 (fun w => nex_c3 (List.mem_singleton.mp w))
  have rf448 := (rw447.2.2.1.trans rf412)
  have rf449 := (rw447.2.2.2.trans rf413)
  have s450 := gSg.rawat g445 rw411.2.1 (fun w => nex_c3 (List.mem_singleton.mp w)) t414 (by decide) s425
  have s451 := gSg.rawat g445 rw411.2.1 (fun w => nex_c3 (List.mem_singleton.mp w)) t414 (by decide) s426
  have s452 := gSg.rawat g445 rw411.2.1 (fun w => nex_c3 (List.mem_singleton.mp w)) t414 (by decide) s427
  have s453 := gSg.rawat g445 rw411.2.1 (fun w => nex_c3 (List.mem_singleton.mp w)) t414 (by decide) s428
  have s454 := gSg.rawat g445 rw411.2.1 (fun w => nex_c3 (List.mem_singleton.mp w)) t414 (by decide) s429
  have s455 := gSg.rawat g445 rw411.2.1 (fun w => nex_c3 (List.mem_singleton.mp w)) t414 (by decide) s430
  have s456 := gSg.rawat g445 rw411.2.1 (fun w => nex_c3 (List.mem_singleton.mp w)) t414 (by decide) s431
  have s457 := gSg.rawat g445 rw411.2.1 (fun w => nex_c3 (List.mem_singleton.mp w)) t414 (by decide) s432
  have s458 := gSg.rawat g445 rw411.2.1 (fun w => nex_c3 (List.mem_singleton.mp w)) t414 (by decide) s433
  have s459 := gSg.rawat g445 rw411.2.1 (fun w => nex_c3 (List.mem_singleton.mp w)) t414 (by decide) s434
  have s460 := gSg.rawat g445 rw411.2.1 (fun w => nex_c3 (List.mem_singleton.mp w)) t414 (by decide) s435
  have s461 := gSg.rawat g445 rw411.2.1 (fun w => nex_c3 (List.mem_singleton.mp w)) t414 (by decide) s436
  have s462 := gSg.rawat g445 rw411.2.1 (fun w => nex_c3 (List.mem_singleton.mp w)) t414 (by decide) s437
  have s463 := gSg.rawat g445 rw411.2.1 (fun w => nex_c3 (List.mem_singleton.mp w)) t414 (by decide) s438
  have s464 := gSg.rawat g445 rw411.2.1 (fun w => nex_c3 (List.mem_singleton.mp w)) t414 (by decide) s439
  have sS465 : gSs rT 1027 tyq409 [] h444 h444 := gSs.rf g445.1
  have rf466 := Nat.lt_of_lt_of_eq rw417.2.1 nh444.symm
  have rf467 := (congrArg (fun n : Nat => (n : Int)) zh444).trans rf419
  have s468 := (fh444 0 (by decide)).trans s440
  refine gy_s 4 (pc' := 50) (L' := [some (.ref x), some (.ref s), some (.ref p), some (.int ((zi 1) + zi 1))]) (S' := [.ref x, .int ((zi 1) + zi 1)]) (L2 := [some (.ref x), some (.ref s), some (.ref p), some (.int (zi 2))]) (S2 := [.ref x, .int (zi 2)]) rfl (by simp only [zi_add, zi_sub, zi_mul, zi_neg, zi_and1, zi_and7, zi_and15, zi_and31, zi_and255, Int.reduceAdd, Int.reduceMul, Int.reduceSub]) (by simp only [zi_add, zi_sub, zi_mul, zi_neg, zi_and1, zi_and7, zi_and15, zi_and31, zi_and255, Int.reduceAdd, Int.reduceMul, Int.reduceSub]) ?_
  refine gz_get rfl (by decide) rfl nx rw447.2.1 rf448 s460 ?_
  refine gs_rlen (z := 8) rfl (by decide) rf466 kh444 rfl rf467 ?_
  refine gy_icF rfl (by decide) (by decide) (by omega) (by omega) (by first | (simp [zc]; done) | (simp only [zc]; omega)) ?_
  refine gz_s 1 (pc' := 58) (L' := [some (.ref x), some (.ref s), some (.ref p), some (.int (zi 2))]) (S' := [.ref x]) rfl ?_
  refine gz_get rfl (by decide) rfl nx rw447.2.1 rf448 s460 ?_
  refine gz_s 1 (pc' := 62) (L' := [some (.ref x), some (.ref s), some (.ref p), some (.int (zi 2))]) (S' := [.int (zi 2), .ref c3]) rfl ?_
  refine gs_newo rfl (by decide) rfl sS465.1 (Nat.le_of_lt (Nat.lt_of_le_of_lt (gJ.cell sS465.1 t415 rfl).1 (gJ.cell sS465.1 t415 rfl).2.1)) (fun ty469 h470 c471 g472 tc471 kc471 zc471 nc471 mc471 ec471 dc471 => ?_)
  have mfc471 : h470.2.1 = h444.2.1 + 2 := mc471
  have gac471 : h.1 ≤ c471 := by have h8 := G446.2.1; have h9 := sS465.2.1; omega
  have nnc471 : 1027 ≤ c471 := by have h8 := (Nat.le_of_lt (Nat.lt_of_le_of_lt (gJ.cell sS465.1 t415 rfl).1 (gJ.cell sS465.1 t415 rfl).2.1)); omega
  have llc471 : c471 < _ := by rw [nc471, ec471]; exact Nat.lt_succ_self _
  have nex_c471 : x ≠ c471 := by have h8 := rw447.2.1; omega
  have nec3_c471 : c3 ≠ c471 := by have h8 := rf466; omega
  have G473 : gSg [66, 67, 68, 69, 70, 101, 102, 103, 200] [x] [] ty h ty469 h470 := gSg.tr (gSg.ss G446 sS465 (by decide)) g472 (by decide) (by decide) (fun x hx => by cases hx)
  have rw474 := gSg.raw g472 rw447.2.1 (fun w => by cases w)
  have rf475 := (rw474.2.2.1.trans rf448)
  have rf476 := (rw474.2.2.2.trans rf449)
  have t477 : ty469 x = 200 := rw474.1.trans t414
  have t478 : ty469 s = 51 := gSg.typ g472 sS465.1 t415 rfl
  have t479 : ty469 p = 54 := gSg.typ g472 sS465.1 t416 rfl
  have rw480 := gSg.raw g472 rf466 (fun w => by cases w)
  have rf481 := (rw480.2.2.1.trans kh444)
  have rf482 := ((congrArg (fun n : Nat => (n : Int)) rw480.2.2.2).trans rf467)
  have t483 : ty469 c3 = 200 := rw480.1.trans t420
  have t484 : ty469 c55 = 69 := gSg.typ g472 sS465.1 t421 rfl
  have t485 : ty469 c111 = 70 := gSg.typ g472 sS465.1 t422 rfl
  have t486 : ty469 c191 = 67 := gSg.typ g472 sS465.1 t423 rfl
  have t487 : ty469 c280 = 101 := gSg.typ g472 sS465.1 t424 rfl
  have t488 : ty469 c373 = 101 := gSg.typ g472 sS465.1 trq409_0 rfl
  have s489 := gSg.rawat g472 rw447.2.1 (fun w => by cases w) t414 (by decide) s450
  have s490 := gSg.rawat g472 rw447.2.1 (fun w => by cases w) t414 (by decide) s451
  have s491 := gSg.rawat g472 rw447.2.1 (fun w => by cases w) t414 (by decide) s452
  have s492 := gSg.rawat g472 rw447.2.1 (fun w => by cases w) t414 (by decide) s453
  have s493 := gSg.rawat g472 rw447.2.1 (fun w => by cases w) t414 (by decide) s454
  have s494 := gSg.rawat g472 rw447.2.1 (fun w => by cases w) t414 (by decide) s455
  have s495 := gSg.rawat g472 rw447.2.1 (fun w => by cases w) t414 (by decide) s456
  have s496 := gSg.rawat g472 rw447.2.1 (fun w => by cases w) t414 (by decide) s457
  have s497 := gSg.rawat g472 rw447.2.1 (fun w => by cases w) t414 (by decide) s458
  have s498 := gSg.rawat g472 rw447.2.1 (fun w => by cases w) t414 (by decide) s459
  have s499 := gSg.rawat g472 rw447.2.1 (fun w => by cases w) t414 (by decide) s460
  have s500 := gSg.rawat g472 rw447.2.1 (fun w => by cases w) t414 (by decide) s461
  have s501 := gSg.rawat g472 rw447.2.1 (fun w => by cases w) t414 (by decide) s462
  have s502 := gSg.rawat g472 rw447.2.1 (fun w => by cases w) t414 (by decide) s463
  have s503 := gSg.rawat g472 rw447.2.1 (fun w => by cases w) t414 (by decide) s464
  have s504 := gSg.rawat g472 rf466 (fun w => by cases w) t420 (by decide) s468
  have s505 := gSg.rawat g472 rf466 (fun w => by cases w) t420 (by decide) eh444
  have pr506 : gNo [66, 68] ty469 := gNo.gr g472 (by decide) (gNo.sub (by decide) pr441)
  have uq507 := gSg.uq g472 uq442 (by decide)
  have sS508 : gSs rT 1027 ty469 [] h470 h470 := gSs.rf g472.1
  refine gz_s 1 (pc' := 66) (L' := [some (.ref x), some (.ref s), some (.ref p), some (.int (zi 2))]) (S' := [.ref c471, .ref c471, .int (zi 2), .ref c3]) rfl ?_
  refine gz_call rfl (by decide) rfl (by decide) (by decide) (gcal_of rfl rfl rfl (Nat.le_of_ble_eq_true rfl) rfl) (ct_Codes _ sS508.1 c471 tc471 nnc471 llc471 kc471 zc471 dc471 uq507) (fun q509 _ wq509 => ?_)
  obtain ⟨pq509, oq509, hq509⟩ := q509
  obtain ⟨tyq509, xq509, trq509_0, gq509, uq509_0, uq509_1⟩ := wq509
  dsimp only at uq509_0 uq509_1
  refine ⟨_, gq509, ?_⟩
  show gz gPP gGG gcn _ _ 69 [some (.ref x), some (.ref s), some (.ref p), some (.int (zi 2))] [.ref c471, .int (zi 2), .ref c3] hq509 _
  have G510 : gSg [66, 67, 68, 69, 70, 101, 102, 103, 200] [x] [] ty h tyq509 hq509 := gSg.tr (gSg.ss G473 sS508 (by decide)) xq509 (by decide) (by decide) (fun x hx => Or.inl (by rw [List.mem_singleton.mp hx]; exact gac471))
  have rw511 := gSg.raw xq509 rw474.2.1 (fun w => nex_c471 (List.mem_singleton.mp w))
  have rf512 := (rw511.2.2.1.trans rf475)
  have rf513 := (rw511.2.2.2.trans rf476)
  have t514 : tyq509 x = 200 := rw511.1.trans t477
  have t515 : tyq509 s = 51 := gSg.typ xq509 sS508.1 t478 rfl
  have t516 : tyq509 p = 54 := gSg.typ xq509 sS508.1 t479 rfl
  have rw517 := gSg.raw xq509 rw480.2.1 (fun w => nec3_c471 (List.mem_singleton.mp w))
  have rf518 := (rw517.2.2.1.trans rf481)
  have rf519 := ((congrArg (fun n : Nat => (n : Int)) rw517.2.2.2).trans rf482)
  have t520 : tyq509 c3 = 200 := rw517.1.trans t483
  have t521 : tyq509 c55 = 69 := gSg.typ xq509 sS508.1 t484 rfl
  have t522 : tyq509 c111 = 70 := gSg.typ xq509 sS508.1 t485 rfl
  have t523 : tyq509 c191 = 67 := gSg.typ xq509 sS508.1 t486 rfl
  have t524 : tyq509 c280 = 101 := gSg.typ xq509 sS508.1 t487 rfl
  have t525 : tyq509 c373 = 101 := gSg.typ xq509 sS508.1 t488 rfl
  have s526 := gSg.rawat xq509 rw474.2.1 (fun w => nex_c471 (List.mem_singleton.mp w)) t477 (by decide) s489
  have s527 := gSg.rawat xq509 rw474.2.1 (fun w => nex_c471 (List.mem_singleton.mp w)) t477 (by decide) s490
  have s528 := gSg.rawat xq509 rw474.2.1 (fun w => nex_c471 (List.mem_singleton.mp w)) t477 (by decide) s491
  have s529 := gSg.rawat xq509 rw474.2.1 (fun w => nex_c471 (List.mem_singleton.mp w)) t477 (by decide) s492
  have s530 := gSg.rawat xq509 rw474.2.1 (fun w => nex_c471 (List.mem_singleton.mp w)) t477 (by decide) s493
  have s531 := gSg.rawat xq509 rw474.2.1 (fun w => nex_c471 (List.mem_singleton.mp w)) t477 (by decide) s494
  have s532 := gSg.rawat xq509 rw474.2.1 (fun w => nex_c471 (List.mem_singleton.mp w)) t477 (by decide) s495
  have s533 := gSg.rawat xq509 rw474.2.1 (fun w => nex_c471 (List.mem_singleton.mp w)) t477 (by decide) s496
  have s534 := gSg.rawat xq509 rw474.2.1 (fun w => nex_c471 (List.mem_singleton.mp w)) t477 (by decide) s497
  have s535 := gSg.rawat xq509 rw474.2.1 (fun w => nex_c471 (List.mem_singleton.mp w)) t477 (by decide) s498
  have s536 := gSg.rawat xq509 rw474.2.1 (fun w => nex_c471 (List.mem_singleton.mp w)) t477 (by decide) s499
  have s537 := gSg.rawat xq509 rw474.2.1 (fun w => nex_c471 (List.mem_singleton.mp w)) t477 (by decide) s500
  have s538 := gSg.rawat xq509 rw474.2.1 (fun w => nex_c471 (List.mem_singleton.mp w)) t477 (by decide) s501
  have s539 := gSg.rawat xq509 rw474.2.1 (fun w => nex_c471 (List.mem_singleton.mp w)) t477 (by decide) s502
  have s540 := gSg.rawat xq509 rw474.2.1 (fun w => nex_c471 (List.mem_singleton.mp w)) t477 (by decide) s503
  have s541 := gSg.rawat xq509 rw480.2.1 (fun w => nec3_c471 (List.mem_singleton.mp w)) t483 (by decide) s504
  have s542 := gSg.rawat xq509 rw480.2.1 (fun w => nec3_c471 (List.mem_singleton.mp w)) t483 (by decide) s505
  have pr543 : gNo [66, 68] tyq509 := gNo.gr xq509 (by decide) (gNo.sub (by decide) pr506)
  have uq544 := gSg.uq xq509 uq507 (by decide)
  have sS545 : gSs rT 1027 tyq509 [] hq509 hq509 := gSs.rf xq509.1
  refine gs_rast (j := 2) rfl (by decide) sS545.1 t520 nnc3 rw517.2.1 rf518 rfl (gJ.cell sS545.1 trq509_0 rfl).1 (gJ.cell sS545.1 trq509_0 rfl).2.1 (gJ.cell sS545.1 trq509_0 rfl).2.2 rfl (by have h9 := rf519; omega) (by have h9 := rf519; omega) (fun h546 g547 nh546 mh546 kh546 zh546 eh546 fh546 => ?_)
  have G548 : gSg [66, 67, 68, 69, 70, 101, 102, 103, 200] [x] [] ty h tyq509 h546 := gSg.tr (gSg.ss G510 sS545 (by decide)) g547 (by decide) (by decide) (fun x hx => Or.inl (by rw [List.mem_singleton.mp hx]; exact gac3))
  have rw549 := gSg.raw g547 rw511.2.1 (fun w => nex_c3 (List.mem_singleton.mp w))
  have rf550 := (rw549.2.2.1.trans rf512)
  have rf551 := (rw549.2.2.2.trans rf513)
  have s552 := gSg.rawat g547 rw511.2.1 (fun w => nex_c3 (List.mem_singleton.mp w)) t514 (by decide) s526
  have s553 := gSg.rawat g547 rw511.2.1 (fun w => nex_c3 (List.mem_singleton.mp w)) t514 (by decide) s527
  have s554 := gSg.rawat g547 rw511.2.1 (fun w => nex_c3 (List.mem_singleton.mp w)) t514 (by decide) s528
  have s555 := gSg.rawat g547 rw511.2.1 (fun w => nex_c3 (List.mem_singleton.mp w)) t514 (by decide) s529
  have s556 := gSg.rawat g547 rw511.2.1 (fun w => nex_c3 (List.mem_singleton.mp w)) t514 (by decide) s530
  have s557 := gSg.rawat g547 rw511.2.1 (fun w => nex_c3 (List.mem_singleton.mp w)) t514 (by decide) s531
  have s558 := gSg.rawat g547 rw511.2.1 (fun w => nex_c3 (List.mem_singleton.mp w)) t514 (by decide) s532
  have s559 := gSg.rawat g547 rw511.2.1 (fun w => nex_c3 (List.mem_singleton.mp w)) t514 (by decide) s533
  have s560 := gSg.rawat g547 rw511.2.1 (fun w => nex_c3 (List.mem_singleton.mp w)) t514 (by decide) s534
  have s561 := gSg.rawat g547 rw511.2.1 (fun w => nex_c3 (List.mem_singleton.mp w)) t514 (by decide) s535
  have s562 := gSg.rawat g547 rw511.2.1 (fun w => nex_c3 (List.mem_singleton.mp w)) t514 (by decide) s536
  have s563 := gSg.rawat g547 rw511.2.1 (fun w => nex_c3 (List.mem_singleton.mp w)) t514 (by decide) s537
  have s564 := gSg.rawat g547 rw511.2.1 (fun w => nex_c3 (List.mem_singleton.mp w)) t514 (by decide) s538
  have s565 := gSg.rawat g547 rw511.2.1 (fun w => nex_c3 (List.mem_singleton.mp w)) t514 (by decide) s539
  have s566 := gSg.rawat g547 rw511.2.1 (fun w => nex_c3 (List.mem_singleton.mp w)) t514 (by decide) s540
  have sS567 : gSs rT 1027 tyq509 [] h546 h546 := gSs.rf g547.1
  have rf568 := Nat.lt_of_lt_of_eq rw517.2.1 nh546.symm
  have rf569 := (congrArg (fun n : Nat => (n : Int)) zh546).trans rf519
  have s570 := (fh546 0 (by decide)).trans s541
  have s571 := (fh546 1 (by decide)).trans s542
  refine gy_s 4 (pc' := 50) (L' := [some (.ref x), some (.ref s), some (.ref p), some (.int ((zi 2) + zi 1))]) (S' := [.ref x, .int ((zi 2) + zi 1)]) (L2 := [some (.ref x), some (.ref s), some (.ref p), some (.int (zi 3))]) (S2 := [.ref x, .int (zi 3)]) rfl (by simp only [zi_add, zi_sub, zi_mul, zi_neg, zi_and1, zi_and7, zi_and15, zi_and31, zi_and255, Int.reduceAdd, Int.reduceMul, Int.reduceSub]) (by simp only [zi_add, zi_sub, zi_mul, zi_neg, zi_and1, zi_and7, zi_and15, zi_and31, zi_and255, Int.reduceAdd, Int.reduceMul, Int.reduceSub]) ?_
  refine gz_get rfl (by decide) rfl nx rw549.2.1 rf550 s562 ?_
  refine gs_rlen (z := 8) rfl (by decide) rf568 kh546 rfl rf569 ?_
  refine gy_icF rfl (by decide) (by decide) (by omega) (by omega) (by first | (simp [zc]; done) | (simp only [zc]; omega)) ?_
  refine gz_s 1 (pc' := 58) (L' := [some (.ref x), some (.ref s), some (.ref p), some (.int (zi 3))]) (S' := [.ref x]) rfl ?_
  refine gz_get rfl (by decide) rfl nx rw549.2.1 rf550 s562 ?_
  refine gz_s 1 (pc' := 62) (L' := [some (.ref x), some (.ref s), some (.ref p), some (.int (zi 3))]) (S' := [.int (zi 3), .ref c3]) rfl ?_
  refine gs_newo rfl (by decide) rfl sS567.1 (Nat.le_of_lt (Nat.lt_of_le_of_lt (gJ.cell sS567.1 t515 rfl).1 (gJ.cell sS567.1 t515 rfl).2.1)) (fun ty572 h573 c574 g575 tc574 kc574 zc574 nc574 mc574 ec574 dc574 => ?_)
  have mfc574 : h573.2.1 = h546.2.1 + 2 := mc574
  have gac574 : h.1 ≤ c574 := by have h8 := G548.2.1; have h9 := sS567.2.1; omega
  have nnc574 : 1027 ≤ c574 := by have h8 := (Nat.le_of_lt (Nat.lt_of_le_of_lt (gJ.cell sS567.1 t515 rfl).1 (gJ.cell sS567.1 t515 rfl).2.1)); omega
  have llc574 : c574 < _ := by rw [nc574, ec574]; exact Nat.lt_succ_self _
  have nex_c574 : x ≠ c574 := by have h8 := rw549.2.1; omega
  have nec3_c574 : c3 ≠ c574 := by have h8 := rf568; omega
  have G576 : gSg [66, 67, 68, 69, 70, 101, 102, 103, 200] [x] [] ty h ty572 h573 := gSg.tr (gSg.ss G548 sS567 (by decide)) g575 (by decide) (by decide) (fun x hx => by cases hx)
  have rw577 := gSg.raw g575 rw549.2.1 (fun w => by cases w)
  have rf578 := (rw577.2.2.1.trans rf550)
  have rf579 := (rw577.2.2.2.trans rf551)
  have t580 : ty572 x = 200 := rw577.1.trans t514
  have t581 : ty572 s = 51 := gSg.typ g575 sS567.1 t515 rfl
  have t582 : ty572 p = 54 := gSg.typ g575 sS567.1 t516 rfl
  have rw583 := gSg.raw g575 rf568 (fun w => by cases w)
  have rf584 := (rw583.2.2.1.trans kh546)
  have rf585 := ((congrArg (fun n : Nat => (n : Int)) rw583.2.2.2).trans rf569)
  have t586 : ty572 c3 = 200 := rw583.1.trans t520
  have t587 : ty572 c55 = 69 := gSg.typ g575 sS567.1 t521 rfl
  have t588 : ty572 c111 = 70 := gSg.typ g575 sS567.1 t522 rfl
  have t589 : ty572 c191 = 67 := gSg.typ g575 sS567.1 t523 rfl
  have t590 : ty572 c280 = 101 := gSg.typ g575 sS567.1 t524 rfl
  have t591 : ty572 c373 = 101 := gSg.typ g575 sS567.1 t525 rfl
  have t592 : ty572 c471 = 101 := gSg.typ g575 sS567.1 trq509_0 rfl
  have s593 := gSg.rawat g575 rw549.2.1 (fun w => by cases w) t514 (by decide) s552
  have s594 := gSg.rawat g575 rw549.2.1 (fun w => by cases w) t514 (by decide) s553
  have s595 := gSg.rawat g575 rw549.2.1 (fun w => by cases w) t514 (by decide) s554
  have s596 := gSg.rawat g575 rw549.2.1 (fun w => by cases w) t514 (by decide) s555
  have s597 := gSg.rawat g575 rw549.2.1 (fun w => by cases w) t514 (by decide) s556
  have s598 := gSg.rawat g575 rw549.2.1 (fun w => by cases w) t514 (by decide) s557
  have s599 := gSg.rawat g575 rw549.2.1 (fun w => by cases w) t514 (by decide) s558
  have s600 := gSg.rawat g575 rw549.2.1 (fun w => by cases w) t514 (by decide) s559
  have s601 := gSg.rawat g575 rw549.2.1 (fun w => by cases w) t514 (by decide) s560
  have s602 := gSg.rawat g575 rw549.2.1 (fun w => by cases w) t514 (by decide) s561
  have s603 := gSg.rawat g575 rw549.2.1 (fun w => by cases w) t514 (by decide) s562
  have s604 := gSg.rawat g575 rw549.2.1 (fun w => by cases w) t514 (by decide) s563
  have s605 := gSg.rawat g575 rw549.2.1 (fun w => by cases w) t514 (by decide) s564
  have s606 := gSg.rawat g575 rw549.2.1 (fun w => by cases w) t514 (by decide) s565
  have s607 := gSg.rawat g575 rw549.2.1 (fun w => by cases w) t514 (by decide) s566
  have s608 := gSg.rawat g575 rf568 (fun w => by cases w) t520 (by decide) s570
  have s609 := gSg.rawat g575 rf568 (fun w => by cases w) t520 (by decide) s571
  have s610 := gSg.rawat g575 rf568 (fun w => by cases w) t520 (by decide) eh546
  have pr611 : gNo [66, 68] ty572 := gNo.gr g575 (by decide) (gNo.sub (by decide) pr543)
  have uq612 := gSg.uq g575 uq544 (by decide)
  have sS613 : gSs rT 1027 ty572 [] h573 h573 := gSs.rf g575.1
  refine gz_s 1 (pc' := 66) (L' := [some (.ref x), some (.ref s), some (.ref p), some (.int (zi 3))]) (S' := [.ref c574, .ref c574, .int (zi 3), .ref c3]) rfl ?_
  refine gz_call rfl (by decide) rfl (by decide) (by decide) (gcal_of rfl rfl rfl (Nat.le_of_ble_eq_true rfl) rfl) (ct_Codes _ sS613.1 c574 tc574 nnc574 llc574 kc574 zc574 dc574 uq612) (fun q614 _ wq614 => ?_)
  obtain ⟨pq614, oq614, hq614⟩ := q614
  obtain ⟨tyq614, xq614, trq614_0, gq614, uq614_0, uq614_1⟩ := wq614
  dsimp only at uq614_0 uq614_1
  refine ⟨_, gq614, ?_⟩
  show gz gPP gGG gcn _ _ 69 [some (.ref x), some (.ref s), some (.ref p), some (.int (zi 3))] [.ref c574, .int (zi 3), .ref c3] hq614 _
  have G615 : gSg [66, 67, 68, 69, 70, 101, 102, 103, 200] [x] [] ty h tyq614 hq614 := gSg.tr (gSg.ss G576 sS613 (by decide)) xq614 (by decide) (by decide) (fun x hx => Or.inl (by rw [List.mem_singleton.mp hx]; exact gac574))
  have rw616 := gSg.raw xq614 rw577.2.1 (fun w => nex_c574 (List.mem_singleton.mp w))
  have rf617 := (rw616.2.2.1.trans rf578)
  have rf618 := (rw616.2.2.2.trans rf579)
  have t619 : tyq614 x = 200 := rw616.1.trans t580
  have t620 : tyq614 s = 51 := gSg.typ xq614 sS613.1 t581 rfl
  have t621 : tyq614 p = 54 := gSg.typ xq614 sS613.1 t582 rfl
  have rw622 := gSg.raw xq614 rw583.2.1 (fun w => nec3_c574 (List.mem_singleton.mp w))
  have rf623 := (rw622.2.2.1.trans rf584)
  have rf624 := ((congrArg (fun n : Nat => (n : Int)) rw622.2.2.2).trans rf585)
  have t625 : tyq614 c3 = 200 := rw622.1.trans t586
  have t626 : tyq614 c55 = 69 := gSg.typ xq614 sS613.1 t587 rfl
  have t627 : tyq614 c111 = 70 := gSg.typ xq614 sS613.1 t588 rfl
  have t628 : tyq614 c191 = 67 := gSg.typ xq614 sS613.1 t589 rfl
  have t629 : tyq614 c280 = 101 := gSg.typ xq614 sS613.1 t590 rfl
  have t630 : tyq614 c373 = 101 := gSg.typ xq614 sS613.1 t591 rfl
  have t631 : tyq614 c471 = 101 := gSg.typ xq614 sS613.1 t592 rfl
  have s632 := gSg.rawat xq614 rw577.2.1 (fun w => nex_c574 (List.mem_singleton.mp w)) t580 (by decide) s593
  have s633 := gSg.rawat xq614 rw577.2.1 (fun w => nex_c574 (List.mem_singleton.mp w)) t580 (by decide) s594
  have s634 := gSg.rawat xq614 rw577.2.1 (fun w => nex_c574 (List.mem_singleton.mp w)) t580 (by decide) s595
  have s635 := gSg.rawat xq614 rw577.2.1 (fun w => nex_c574 (List.mem_singleton.mp w)) t580 (by decide) s596
  have s636 := gSg.rawat xq614 rw577.2.1 (fun w => nex_c574 (List.mem_singleton.mp w)) t580 (by decide) s597
  have s637 := gSg.rawat xq614 rw577.2.1 (fun w => nex_c574 (List.mem_singleton.mp w)) t580 (by decide) s598
  have s638 := gSg.rawat xq614 rw577.2.1 (fun w => nex_c574 (List.mem_singleton.mp w)) t580 (by decide) s599
  have s639 := gSg.rawat xq614 rw577.2.1 (fun w => nex_c574 (List.mem_singleton.mp w)) t580 (by decide) s600
  have s640 := gSg.rawat xq614 rw577.2.1 (fun w => nex_c574 (List.mem_singleton.mp w)) t580 (by decide) s601
  have s641 := gSg.rawat xq614 rw577.2.1 (fun w => nex_c574 (List.mem_singleton.mp w)) t580 (by decide) s602
  have s642 := gSg.rawat xq614 rw577.2.1 (fun w => nex_c574 (List.mem_singleton.mp w)) t580 (by decide) s603
  have s643 := gSg.rawat xq614 rw577.2.1 (fun w => nex_c574 (List.mem_singleton.mp w)) t580 (by decide) s604
  have s644 := gSg.rawat xq614 rw577.2.1 (fun w => nex_c574 (List.mem_singleton.mp w)) t580 (by decide) s605
  have s645 := gSg.rawat xq614 rw577.2.1 (fun w => nex_c574 (List.mem_singleton.mp w)) t580 (by decide) s606
  have s646 := gSg.rawat xq614 rw577.2.1 (fun w => nex_c574 (List.mem_singleton.mp w)) t580 (by decide) s607
  have s647 := gSg.rawat xq614 rw583.2.1 (fun w => nec3_c574 (List.mem_singleton.mp w)) t586 (by decide) s608
  have s648 := gSg.rawat xq614 rw583.2.1 (fun w => nec3_c574 (List.mem_singleton.mp w)) t586 (by decide) s609
  have s649 := gSg.rawat xq614 rw583.2.1 (fun w => nec3_c574 (List.mem_singleton.mp w)) t586 (by decide) s610
  have pr650 : gNo [66, 68] tyq614 := gNo.gr xq614 (by decide) (gNo.sub (by decide) pr611)
  have uq651 := gSg.uq xq614 uq612 (by decide)
  have sS652 : gSs rT 1027 tyq614 [] hq614 hq614 := gSs.rf xq614.1
  refine gs_rast (j := 3) rfl (by decide) sS652.1 t625 nnc3 rw622.2.1 rf623 rfl (gJ.cell sS652.1 trq614_0 rfl).1 (gJ.cell sS652.1 trq614_0 rfl).2.1 (gJ.cell sS652.1 trq614_0 rfl).2.2 rfl (by have h9 := rf624; omega) (by have h9 := rf624; omega) (fun h653 g654 nh653 mh653 kh653 zh653 eh653 fh653 => ?_)
  have G655 : gSg [66, 67, 68, 69, 70, 101, 102, 103, 200] [x] [] ty h tyq614 h653 := gSg.tr (gSg.ss G615 sS652 (by decide)) g654 (by decide) (by decide) (fun x hx => Or.inl (by rw [List.mem_singleton.mp hx]; exact gac3))
  have rw656 := gSg.raw g654 rw616.2.1 (fun w => nex_c3 (List.mem_singleton.mp w))
  have rf657 := (rw656.2.2.1.trans rf617)
  have rf658 := (rw656.2.2.2.trans rf618)
  have s659 := gSg.rawat g654 rw616.2.1 (fun w => nex_c3 (List.mem_singleton.mp w)) t619 (by decide) s632
  have s660 := gSg.rawat g654 rw616.2.1 (fun w => nex_c3 (List.mem_singleton.mp w)) t619 (by decide) s633
  have s661 := gSg.rawat g654 rw616.2.1 (fun w => nex_c3 (List.mem_singleton.mp w)) t619 (by decide) s634
  have s662 := gSg.rawat g654 rw616.2.1 (fun w => nex_c3 (List.mem_singleton.mp w)) t619 (by decide) s635
  have s663 := gSg.rawat g654 rw616.2.1 (fun w => nex_c3 (List.mem_singleton.mp w)) t619 (by decide) s636
  have s664 := gSg.rawat g654 rw616.2.1 (fun w => nex_c3 (List.mem_singleton.mp w)) t619 (by decide) s637
  have s665 := gSg.rawat g654 rw616.2.1 (fun w => nex_c3 (List.mem_singleton.mp w)) t619 (by decide) s638
  have s666 := gSg.rawat g654 rw616.2.1 (fun w => nex_c3 (List.mem_singleton.mp w)) t619 (by decide) s639
  have s667 := gSg.rawat g654 rw616.2.1 (fun w => nex_c3 (List.mem_singleton.mp w)) t619 (by decide) s640
  have s668 := gSg.rawat g654 rw616.2.1 (fun w => nex_c3 (List.mem_singleton.mp w)) t619 (by decide) s641
  have s669 := gSg.rawat g654 rw616.2.1 (fun w => nex_c3 (List.mem_singleton.mp w)) t619 (by decide) s642
  have s670 := gSg.rawat g654 rw616.2.1 (fun w => nex_c3 (List.mem_singleton.mp w)) t619 (by decide) s643
  have s671 := gSg.rawat g654 rw616.2.1 (fun w => nex_c3 (List.mem_singleton.mp w)) t619 (by decide) s644
  have s672 := gSg.rawat g654 rw616.2.1 (fun w => nex_c3 (List.mem_singleton.mp w)) t619 (by decide) s645
  have s673 := gSg.rawat g654 rw616.2.1 (fun w => nex_c3 (List.mem_singleton.mp w)) t619 (by decide) s646
  have sS674 : gSs rT 1027 tyq614 [] h653 h653 := gSs.rf g654.1
  have rf675 := Nat.lt_of_lt_of_eq rw622.2.1 nh653.symm
  have rf676 := (congrArg (fun n : Nat => (n : Int)) zh653).trans rf624
  have s677 := (fh653 0 (by decide)).trans s647
  have s678 := (fh653 1 (by decide)).trans s648
  have s679 := (fh653 2 (by decide)).trans s649
  refine gy_s 4 (pc' := 50) (L' := [some (.ref x), some (.ref s), some (.ref p), some (.int ((zi 3) + zi 1))]) (S' := [.ref x, .int ((zi 3) + zi 1)]) (L2 := [some (.ref x), some (.ref s), some (.ref p), some (.int (zi 4))]) (S2 := [.ref x, .int (zi 4)]) rfl (by simp only [zi_add, zi_sub, zi_mul, zi_neg, zi_and1, zi_and7, zi_and15, zi_and31, zi_and255, Int.reduceAdd, Int.reduceMul, Int.reduceSub]) (by simp only [zi_add, zi_sub, zi_mul, zi_neg, zi_and1, zi_and7, zi_and15, zi_and31, zi_and255, Int.reduceAdd, Int.reduceMul, Int.reduceSub]) ?_
  refine gz_get rfl (by decide) rfl nx rw656.2.1 rf657 s669 ?_
  refine gs_rlen (z := 8) rfl (by decide) rf675 kh653 rfl rf676 ?_
  refine gy_icF rfl (by decide) (by decide) (by omega) (by omega) (by first | (simp [zc]; done) | (simp only [zc]; omega)) ?_
  refine gz_s 1 (pc' := 58) (L' := [some (.ref x), some (.ref s), some (.ref p), some (.int (zi 4))]) (S' := [.ref x]) rfl ?_
  refine gz_get rfl (by decide) rfl nx rw656.2.1 rf657 s669 ?_
  refine gz_s 1 (pc' := 62) (L' := [some (.ref x), some (.ref s), some (.ref p), some (.int (zi 4))]) (S' := [.int (zi 4), .ref c3]) rfl ?_
  refine gs_newo rfl (by decide) rfl sS674.1 (Nat.le_of_lt (Nat.lt_of_le_of_lt (gJ.cell sS674.1 t620 rfl).1 (gJ.cell sS674.1 t620 rfl).2.1)) (fun ty680 h681 c682 g683 tc682 kc682 zc682 nc682 mc682 ec682 dc682 => ?_)
  have mfc682 : h681.2.1 = h653.2.1 + 2 := mc682
  have gac682 : h.1 ≤ c682 := by have h8 := G655.2.1; have h9 := sS674.2.1; omega
  have nnc682 : 1027 ≤ c682 := by have h8 := (Nat.le_of_lt (Nat.lt_of_le_of_lt (gJ.cell sS674.1 t620 rfl).1 (gJ.cell sS674.1 t620 rfl).2.1)); omega
  have llc682 : c682 < _ := by rw [nc682, ec682]; exact Nat.lt_succ_self _
  have nex_c682 : x ≠ c682 := by have h8 := rw656.2.1; omega
  have nec3_c682 : c3 ≠ c682 := by have h8 := rf675; omega
  have G684 : gSg [66, 67, 68, 69, 70, 101, 102, 103, 200] [x] [] ty h ty680 h681 := gSg.tr (gSg.ss G655 sS674 (by decide)) g683 (by decide) (by decide) (fun x hx => by cases hx)
  have rw685 := gSg.raw g683 rw656.2.1 (fun w => by cases w)
  have rf686 := (rw685.2.2.1.trans rf657)
  have rf687 := (rw685.2.2.2.trans rf658)
  have t688 : ty680 x = 200 := rw685.1.trans t619
  have t689 : ty680 s = 51 := gSg.typ g683 sS674.1 t620 rfl
  have t690 : ty680 p = 54 := gSg.typ g683 sS674.1 t621 rfl
  have rw691 := gSg.raw g683 rf675 (fun w => by cases w)
  have rf692 := (rw691.2.2.1.trans kh653)
  have rf693 := ((congrArg (fun n : Nat => (n : Int)) rw691.2.2.2).trans rf676)
  have t694 : ty680 c3 = 200 := rw691.1.trans t625
  have t695 : ty680 c55 = 69 := gSg.typ g683 sS674.1 t626 rfl
  have t696 : ty680 c111 = 70 := gSg.typ g683 sS674.1 t627 rfl
  have t697 : ty680 c191 = 67 := gSg.typ g683 sS674.1 t628 rfl
  have t698 : ty680 c280 = 101 := gSg.typ g683 sS674.1 t629 rfl
  have t699 : ty680 c373 = 101 := gSg.typ g683 sS674.1 t630 rfl
  have t700 : ty680 c471 = 101 := gSg.typ g683 sS674.1 t631 rfl
  have t701 : ty680 c574 = 101 := gSg.typ g683 sS674.1 trq614_0 rfl
  have s702 := gSg.rawat g683 rw656.2.1 (fun w => by cases w) t619 (by decide) s659
  have s703 := gSg.rawat g683 rw656.2.1 (fun w => by cases w) t619 (by decide) s660
  have s704 := gSg.rawat g683 rw656.2.1 (fun w => by cases w) t619 (by decide) s661
  have s705 := gSg.rawat g683 rw656.2.1 (fun w => by cases w) t619 (by decide) s662
  have s706 := gSg.rawat g683 rw656.2.1 (fun w => by cases w) t619 (by decide) s663
  have s707 := gSg.rawat g683 rw656.2.1 (fun w => by cases w) t619 (by decide) s664
  have s708 := gSg.rawat g683 rw656.2.1 (fun w => by cases w) t619 (by decide) s665
  have s709 := gSg.rawat g683 rw656.2.1 (fun w => by cases w) t619 (by decide) s666
  have s710 := gSg.rawat g683 rw656.2.1 (fun w => by cases w) t619 (by decide) s667
  have s711 := gSg.rawat g683 rw656.2.1 (fun w => by cases w) t619 (by decide) s668
  have s712 := gSg.rawat g683 rw656.2.1 (fun w => by cases w) t619 (by decide) s669
  have s713 := gSg.rawat g683 rw656.2.1 (fun w => by cases w) t619 (by decide) s670
  have s714 := gSg.rawat g683 rw656.2.1 (fun w => by cases w) t619 (by decide) s671
  have s715 := gSg.rawat g683 rw656.2.1 (fun w => by cases w) t619 (by decide) s672
  have s716 := gSg.rawat g683 rw656.2.1 (fun w => by cases w) t619 (by decide) s673
  have s717 := gSg.rawat g683 rf675 (fun w => by cases w) t625 (by decide) s677
  have s718 := gSg.rawat g683 rf675 (fun w => by cases w) t625 (by decide) s678
  have s719 := gSg.rawat g683 rf675 (fun w => by cases w) t625 (by decide) s679
  have s720 := gSg.rawat g683 rf675 (fun w => by cases w) t625 (by decide) eh653
  have pr721 : gNo [66, 68] ty680 := gNo.gr g683 (by decide) (gNo.sub (by decide) pr650)
  have uq722 := gSg.uq g683 uq651 (by decide)
  have sS723 : gSs rT 1027 ty680 [] h681 h681 := gSs.rf g683.1
  refine gz_s 1 (pc' := 66) (L' := [some (.ref x), some (.ref s), some (.ref p), some (.int (zi 4))]) (S' := [.ref c682, .ref c682, .int (zi 4), .ref c3]) rfl ?_
  refine gz_call rfl (by decide) rfl (by decide) (by decide) (gcal_of rfl rfl rfl (Nat.le_of_ble_eq_true rfl) rfl) (ct_Codes _ sS723.1 c682 tc682 nnc682 llc682 kc682 zc682 dc682 uq722) (fun q724 _ wq724 => ?_)
  obtain ⟨pq724, oq724, hq724⟩ := q724
  obtain ⟨tyq724, xq724, trq724_0, gq724, uq724_0, uq724_1⟩ := wq724
  dsimp only at uq724_0 uq724_1
  refine ⟨_, gq724, ?_⟩
  show gz gPP gGG gcn _ _ 69 [some (.ref x), some (.ref s), some (.ref p), some (.int (zi 4))] [.ref c682, .int (zi 4), .ref c3] hq724 _
  have G725 : gSg [66, 67, 68, 69, 70, 101, 102, 103, 200] [x] [] ty h tyq724 hq724 := gSg.tr (gSg.ss G684 sS723 (by decide)) xq724 (by decide) (by decide) (fun x hx => Or.inl (by rw [List.mem_singleton.mp hx]; exact gac682))
  have rw726 := gSg.raw xq724 rw685.2.1 (fun w => nex_c682 (List.mem_singleton.mp w))
  have rf727 := (rw726.2.2.1.trans rf686)
  have rf728 := (rw726.2.2.2.trans rf687)
  have t729 : tyq724 x = 200 := rw726.1.trans t688
  have t730 : tyq724 s = 51 := gSg.typ xq724 sS723.1 t689 rfl
  have t731 : tyq724 p = 54 := gSg.typ xq724 sS723.1 t690 rfl
  have rw732 := gSg.raw xq724 rw691.2.1 (fun w => nec3_c682 (List.mem_singleton.mp w))
  have rf733 := (rw732.2.2.1.trans rf692)
  have rf734 := ((congrArg (fun n : Nat => (n : Int)) rw732.2.2.2).trans rf693)
  have t735 : tyq724 c3 = 200 := rw732.1.trans t694
  have t736 : tyq724 c55 = 69 := gSg.typ xq724 sS723.1 t695 rfl
  have t737 : tyq724 c111 = 70 := gSg.typ xq724 sS723.1 t696 rfl
  have t738 : tyq724 c191 = 67 := gSg.typ xq724 sS723.1 t697 rfl
  have t739 : tyq724 c280 = 101 := gSg.typ xq724 sS723.1 t698 rfl
  have t740 : tyq724 c373 = 101 := gSg.typ xq724 sS723.1 t699 rfl
  have t741 : tyq724 c471 = 101 := gSg.typ xq724 sS723.1 t700 rfl
  have t742 : tyq724 c574 = 101 := gSg.typ xq724 sS723.1 t701 rfl
  have s743 := gSg.rawat xq724 rw685.2.1 (fun w => nex_c682 (List.mem_singleton.mp w)) t688 (by decide) s702
  have s744 := gSg.rawat xq724 rw685.2.1 (fun w => nex_c682 (List.mem_singleton.mp w)) t688 (by decide) s703
  have s745 := gSg.rawat xq724 rw685.2.1 (fun w => nex_c682 (List.mem_singleton.mp w)) t688 (by decide) s704
  have s746 := gSg.rawat xq724 rw685.2.1 (fun w => nex_c682 (List.mem_singleton.mp w)) t688 (by decide) s705
  have s747 := gSg.rawat xq724 rw685.2.1 (fun w => nex_c682 (List.mem_singleton.mp w)) t688 (by decide) s706
  have s748 := gSg.rawat xq724 rw685.2.1 (fun w => nex_c682 (List.mem_singleton.mp w)) t688 (by decide) s707
  have s749 := gSg.rawat xq724 rw685.2.1 (fun w => nex_c682 (List.mem_singleton.mp w)) t688 (by decide) s708
  have s750 := gSg.rawat xq724 rw685.2.1 (fun w => nex_c682 (List.mem_singleton.mp w)) t688 (by decide) s709
  have s751 := gSg.rawat xq724 rw685.2.1 (fun w => nex_c682 (List.mem_singleton.mp w)) t688 (by decide) s710
  have s752 := gSg.rawat xq724 rw685.2.1 (fun w => nex_c682 (List.mem_singleton.mp w)) t688 (by decide) s711
  have s753 := gSg.rawat xq724 rw685.2.1 (fun w => nex_c682 (List.mem_singleton.mp w)) t688 (by decide) s712
  have s754 := gSg.rawat xq724 rw685.2.1 (fun w => nex_c682 (List.mem_singleton.mp w)) t688 (by decide) s713
  have s755 := gSg.rawat xq724 rw685.2.1 (fun w => nex_c682 (List.mem_singleton.mp w)) t688 (by decide) s714
  have s756 := gSg.rawat xq724 rw685.2.1 (fun w => nex_c682 (List.mem_singleton.mp w)) t688 (by decide) s715
  have s757 := gSg.rawat xq724 rw685.2.1 (fun w => nex_c682 (List.mem_singleton.mp w)) t688 (by decide) s716
  have s758 := gSg.rawat xq724 rw691.2.1 (fun w => nec3_c682 (List.mem_singleton.mp w)) t694 (by decide) s717
  have s759 := gSg.rawat xq724 rw691.2.1 (fun w => nec3_c682 (List.mem_singleton.mp w)) t694 (by decide) s718
  have s760 := gSg.rawat xq724 rw691.2.1 (fun w => nec3_c682 (List.mem_singleton.mp w)) t694 (by decide) s719
  have s761 := gSg.rawat xq724 rw691.2.1 (fun w => nec3_c682 (List.mem_singleton.mp w)) t694 (by decide) s720
  have pr762 : gNo [66, 68] tyq724 := gNo.gr xq724 (by decide) (gNo.sub (by decide) pr721)
  have uq763 := gSg.uq xq724 uq722 (by decide)
  have sS764 : gSs rT 1027 tyq724 [] hq724 hq724 := gSs.rf xq724.1
  refine gs_rast (j := 4) rfl (by decide) sS764.1 t735 nnc3 rw732.2.1 rf733 rfl (gJ.cell sS764.1 trq724_0 rfl).1 (gJ.cell sS764.1 trq724_0 rfl).2.1 (gJ.cell sS764.1 trq724_0 rfl).2.2 rfl (by have h9 := rf734; omega) (by have h9 := rf734; omega) (fun h765 g766 nh765 mh765 kh765 zh765 eh765 fh765 => ?_)
  have G767 : gSg [66, 67, 68, 69, 70, 101, 102, 103, 200] [x] [] ty h tyq724 h765 := gSg.tr (gSg.ss G725 sS764 (by decide)) g766 (by decide) (by decide) (fun x hx => Or.inl (by rw [List.mem_singleton.mp hx]; exact gac3))
  have rw768 := gSg.raw g766 rw726.2.1 (fun w => nex_c3 (List.mem_singleton.mp w))
  have rf769 := (rw768.2.2.1.trans rf727)
  have rf770 := (rw768.2.2.2.trans rf728)
  have s771 := gSg.rawat g766 rw726.2.1 (fun w => nex_c3 (List.mem_singleton.mp w)) t729 (by decide) s743
  have s772 := gSg.rawat g766 rw726.2.1 (fun w => nex_c3 (List.mem_singleton.mp w)) t729 (by decide) s744
  have s773 := gSg.rawat g766 rw726.2.1 (fun w => nex_c3 (List.mem_singleton.mp w)) t729 (by decide) s745
  have s774 := gSg.rawat g766 rw726.2.1 (fun w => nex_c3 (List.mem_singleton.mp w)) t729 (by decide) s746
  have s775 := gSg.rawat g766 rw726.2.1 (fun w => nex_c3 (List.mem_singleton.mp w)) t729 (by decide) s747
  have s776 := gSg.rawat g766 rw726.2.1 (fun w => nex_c3 (List.mem_singleton.mp w)) t729 (by decide) s748
  have s777 := gSg.rawat g766 rw726.2.1 (fun w => nex_c3 (List.mem_singleton.mp w)) t729 (by decide) s749
  have s778 := gSg.rawat g766 rw726.2.1 (fun w => nex_c3 (List.mem_singleton.mp w)) t729 (by decide) s750
  have s779 := gSg.rawat g766 rw726.2.1 (fun w => nex_c3 (List.mem_singleton.mp w)) t729 (by decide) s751
  have s780 := gSg.rawat g766 rw726.2.1 (fun w => nex_c3 (List.mem_singleton.mp w)) t729 (by decide) s752
  have s781 := gSg.rawat g766 rw726.2.1 (fun w => nex_c3 (List.mem_singleton.mp w)) t729 (by decide) s753
  have s782 := gSg.rawat g766 rw726.2.1 (fun w => nex_c3 (List.mem_singleton.mp w)) t729 (by decide) s754
  have s783 := gSg.rawat g766 rw726.2.1 (fun w => nex_c3 (List.mem_singleton.mp w)) t729 (by decide) s755
  have s784 := gSg.rawat g766 rw726.2.1 (fun w => nex_c3 (List.mem_singleton.mp w)) t729 (by decide) s756
  have s785 := gSg.rawat g766 rw726.2.1 (fun w => nex_c3 (List.mem_singleton.mp w)) t729 (by decide) s757
  have sS786 : gSs rT 1027 tyq724 [] h765 h765 := gSs.rf g766.1
  have rf787 := Nat.lt_of_lt_of_eq rw732.2.1 nh765.symm
  have rf788 := (congrArg (fun n : Nat => (n : Int)) zh765).trans rf734
  have s789 := (fh765 0 (by decide)).trans s758
  have s790 := (fh765 1 (by decide)).trans s759
  have s791 := (fh765 2 (by decide)).trans s760
  have s792 := (fh765 3 (by decide)).trans s761
  refine gy_s 4 (pc' := 50) (L' := [some (.ref x), some (.ref s), some (.ref p), some (.int ((zi 4) + zi 1))]) (S' := [.ref x, .int ((zi 4) + zi 1)]) (L2 := [some (.ref x), some (.ref s), some (.ref p), some (.int (zi 5))]) (S2 := [.ref x, .int (zi 5)]) rfl (by simp only [zi_add, zi_sub, zi_mul, zi_neg, zi_and1, zi_and7, zi_and15, zi_and31, zi_and255, Int.reduceAdd, Int.reduceMul, Int.reduceSub]) (by simp only [zi_add, zi_sub, zi_mul, zi_neg, zi_and1, zi_and7, zi_and15, zi_and31, zi_and255, Int.reduceAdd, Int.reduceMul, Int.reduceSub]) ?_
  refine gz_get rfl (by decide) rfl nx rw768.2.1 rf769 s781 ?_
  refine gs_rlen (z := 8) rfl (by decide) rf787 kh765 rfl rf788 ?_
  refine gy_icF rfl (by decide) (by decide) (by omega) (by omega) (by first | (simp [zc]; done) | (simp only [zc]; omega)) ?_
  refine gz_s 1 (pc' := 58) (L' := [some (.ref x), some (.ref s), some (.ref p), some (.int (zi 5))]) (S' := [.ref x]) rfl ?_
  refine gz_get rfl (by decide) rfl nx rw768.2.1 rf769 s781 ?_
  refine gz_s 1 (pc' := 62) (L' := [some (.ref x), some (.ref s), some (.ref p), some (.int (zi 5))]) (S' := [.int (zi 5), .ref c3]) rfl ?_
  refine gs_newo rfl (by decide) rfl sS786.1 (Nat.le_of_lt (Nat.lt_of_le_of_lt (gJ.cell sS786.1 t730 rfl).1 (gJ.cell sS786.1 t730 rfl).2.1)) (fun ty793 h794 c795 g796 tc795 kc795 zc795 nc795 mc795 ec795 dc795 => ?_)
  have mfc795 : h794.2.1 = h765.2.1 + 2 := mc795
  have gac795 : h.1 ≤ c795 := by have h8 := G767.2.1; have h9 := sS786.2.1; omega
  have nnc795 : 1027 ≤ c795 := by have h8 := (Nat.le_of_lt (Nat.lt_of_le_of_lt (gJ.cell sS786.1 t730 rfl).1 (gJ.cell sS786.1 t730 rfl).2.1)); omega
  have llc795 : c795 < _ := by rw [nc795, ec795]; exact Nat.lt_succ_self _
  have nex_c795 : x ≠ c795 := by have h8 := rw768.2.1; omega
  have nec3_c795 : c3 ≠ c795 := by have h8 := rf787; omega
  have G797 : gSg [66, 67, 68, 69, 70, 101, 102, 103, 200] [x] [] ty h ty793 h794 := gSg.tr (gSg.ss G767 sS786 (by decide)) g796 (by decide) (by decide) (fun x hx => by cases hx)
  have rw798 := gSg.raw g796 rw768.2.1 (fun w => by cases w)
  have rf799 := (rw798.2.2.1.trans rf769)
  have rf800 := (rw798.2.2.2.trans rf770)
  have t801 : ty793 x = 200 := rw798.1.trans t729
  have t802 : ty793 s = 51 := gSg.typ g796 sS786.1 t730 rfl
  have t803 : ty793 p = 54 := gSg.typ g796 sS786.1 t731 rfl
  have rw804 := gSg.raw g796 rf787 (fun w => by cases w)
  have rf805 := (rw804.2.2.1.trans kh765)
  have rf806 := ((congrArg (fun n : Nat => (n : Int)) rw804.2.2.2).trans rf788)
  have t807 : ty793 c3 = 200 := rw804.1.trans t735
  have t808 : ty793 c55 = 69 := gSg.typ g796 sS786.1 t736 rfl
  have t809 : ty793 c111 = 70 := gSg.typ g796 sS786.1 t737 rfl
  have t810 : ty793 c191 = 67 := gSg.typ g796 sS786.1 t738 rfl
  have t811 : ty793 c280 = 101 := gSg.typ g796 sS786.1 t739 rfl
  have t812 : ty793 c373 = 101 := gSg.typ g796 sS786.1 t740 rfl
  have t813 : ty793 c471 = 101 := gSg.typ g796 sS786.1 t741 rfl
  have t814 : ty793 c574 = 101 := gSg.typ g796 sS786.1 t742 rfl
  have t815 : ty793 c682 = 101 := gSg.typ g796 sS786.1 trq724_0 rfl
  have s816 := gSg.rawat g796 rw768.2.1 (fun w => by cases w) t729 (by decide) s771
  have s817 := gSg.rawat g796 rw768.2.1 (fun w => by cases w) t729 (by decide) s772
  have s818 := gSg.rawat g796 rw768.2.1 (fun w => by cases w) t729 (by decide) s773
  have s819 := gSg.rawat g796 rw768.2.1 (fun w => by cases w) t729 (by decide) s774
  have s820 := gSg.rawat g796 rw768.2.1 (fun w => by cases w) t729 (by decide) s775
  have s821 := gSg.rawat g796 rw768.2.1 (fun w => by cases w) t729 (by decide) s776
  have s822 := gSg.rawat g796 rw768.2.1 (fun w => by cases w) t729 (by decide) s777
  have s823 := gSg.rawat g796 rw768.2.1 (fun w => by cases w) t729 (by decide) s778
  have s824 := gSg.rawat g796 rw768.2.1 (fun w => by cases w) t729 (by decide) s779
  have s825 := gSg.rawat g796 rw768.2.1 (fun w => by cases w) t729 (by decide) s780
  have s826 := gSg.rawat g796 rw768.2.1 (fun w => by cases w) t729 (by decide) s781
  have s827 := gSg.rawat g796 rw768.2.1 (fun w => by cases w) t729 (by decide) s782
  have s828 := gSg.rawat g796 rw768.2.1 (fun w => by cases w) t729 (by decide) s783
  have s829 := gSg.rawat g796 rw768.2.1 (fun w => by cases w) t729 (by decide) s784
  have s830 := gSg.rawat g796 rw768.2.1 (fun w => by cases w) t729 (by decide) s785
  have s831 := gSg.rawat g796 rf787 (fun w => by cases w) t735 (by decide) s789
  have s832 := gSg.rawat g796 rf787 (fun w => by cases w) t735 (by decide) s790
  have s833 := gSg.rawat g796 rf787 (fun w => by cases w) t735 (by decide) s791
  have s834 := gSg.rawat g796 rf787 (fun w => by cases w) t735 (by decide) s792
  have s835 := gSg.rawat g796 rf787 (fun w => by cases w) t735 (by decide) eh765
  have pr836 : gNo [66, 68] ty793 := gNo.gr g796 (by decide) (gNo.sub (by decide) pr762)
  have uq837 := gSg.uq g796 uq763 (by decide)
  have sS838 : gSs rT 1027 ty793 [] h794 h794 := gSs.rf g796.1
  refine gz_s 1 (pc' := 66) (L' := [some (.ref x), some (.ref s), some (.ref p), some (.int (zi 5))]) (S' := [.ref c795, .ref c795, .int (zi 5), .ref c3]) rfl ?_
  refine gz_call rfl (by decide) rfl (by decide) (by decide) (gcal_of rfl rfl rfl (Nat.le_of_ble_eq_true rfl) rfl) (ct_Codes _ sS838.1 c795 tc795 nnc795 llc795 kc795 zc795 dc795 uq837) (fun q839 _ wq839 => ?_)
  obtain ⟨pq839, oq839, hq839⟩ := q839
  obtain ⟨tyq839, xq839, trq839_0, gq839, uq839_0, uq839_1⟩ := wq839
  dsimp only at uq839_0 uq839_1
  refine ⟨_, gq839, ?_⟩
  show gz gPP gGG gcn _ _ 69 [some (.ref x), some (.ref s), some (.ref p), some (.int (zi 5))] [.ref c795, .int (zi 5), .ref c3] hq839 _
  have G840 : gSg [66, 67, 68, 69, 70, 101, 102, 103, 200] [x] [] ty h tyq839 hq839 := gSg.tr (gSg.ss G797 sS838 (by decide)) xq839 (by decide) (by decide) (fun x hx => Or.inl (by rw [List.mem_singleton.mp hx]; exact gac795))
  have rw841 := gSg.raw xq839 rw798.2.1 (fun w => nex_c795 (List.mem_singleton.mp w))
  have rf842 := (rw841.2.2.1.trans rf799)
  have rf843 := (rw841.2.2.2.trans rf800)
  have t844 : tyq839 x = 200 := rw841.1.trans t801
  have t845 : tyq839 s = 51 := gSg.typ xq839 sS838.1 t802 rfl
  have t846 : tyq839 p = 54 := gSg.typ xq839 sS838.1 t803 rfl
  have rw847 := gSg.raw xq839 rw804.2.1 (fun w => nec3_c795 (List.mem_singleton.mp w))
  have rf848 := (rw847.2.2.1.trans rf805)
  have rf849 := ((congrArg (fun n : Nat => (n : Int)) rw847.2.2.2).trans rf806)
  have t850 : tyq839 c3 = 200 := rw847.1.trans t807
  have t851 : tyq839 c55 = 69 := gSg.typ xq839 sS838.1 t808 rfl
  have t852 : tyq839 c111 = 70 := gSg.typ xq839 sS838.1 t809 rfl
  have t853 : tyq839 c191 = 67 := gSg.typ xq839 sS838.1 t810 rfl
  have t854 : tyq839 c280 = 101 := gSg.typ xq839 sS838.1 t811 rfl
  have t855 : tyq839 c373 = 101 := gSg.typ xq839 sS838.1 t812 rfl
  have t856 : tyq839 c471 = 101 := gSg.typ xq839 sS838.1 t813 rfl
  have t857 : tyq839 c574 = 101 := gSg.typ xq839 sS838.1 t814 rfl
  have t858 : tyq839 c682 = 101 := gSg.typ xq839 sS838.1 t815 rfl
  have s859 := gSg.rawat xq839 rw798.2.1 (fun w => nex_c795 (List.mem_singleton.mp w)) t801 (by decide) s816
  have s860 := gSg.rawat xq839 rw798.2.1 (fun w => nex_c795 (List.mem_singleton.mp w)) t801 (by decide) s817
  have s861 := gSg.rawat xq839 rw798.2.1 (fun w => nex_c795 (List.mem_singleton.mp w)) t801 (by decide) s818
  have s862 := gSg.rawat xq839 rw798.2.1 (fun w => nex_c795 (List.mem_singleton.mp w)) t801 (by decide) s819
  have s863 := gSg.rawat xq839 rw798.2.1 (fun w => nex_c795 (List.mem_singleton.mp w)) t801 (by decide) s820
  have s864 := gSg.rawat xq839 rw798.2.1 (fun w => nex_c795 (List.mem_singleton.mp w)) t801 (by decide) s821
  have s865 := gSg.rawat xq839 rw798.2.1 (fun w => nex_c795 (List.mem_singleton.mp w)) t801 (by decide) s822
  have s866 := gSg.rawat xq839 rw798.2.1 (fun w => nex_c795 (List.mem_singleton.mp w)) t801 (by decide) s823
  have s867 := gSg.rawat xq839 rw798.2.1 (fun w => nex_c795 (List.mem_singleton.mp w)) t801 (by decide) s824
  have s868 := gSg.rawat xq839 rw798.2.1 (fun w => nex_c795 (List.mem_singleton.mp w)) t801 (by decide) s825
  have s869 := gSg.rawat xq839 rw798.2.1 (fun w => nex_c795 (List.mem_singleton.mp w)) t801 (by decide) s826
  have s870 := gSg.rawat xq839 rw798.2.1 (fun w => nex_c795 (List.mem_singleton.mp w)) t801 (by decide) s827
  have s871 := gSg.rawat xq839 rw798.2.1 (fun w => nex_c795 (List.mem_singleton.mp w)) t801 (by decide) s828
  have s872 := gSg.rawat xq839 rw798.2.1 (fun w => nex_c795 (List.mem_singleton.mp w)) t801 (by decide) s829
  have s873 := gSg.rawat xq839 rw798.2.1 (fun w => nex_c795 (List.mem_singleton.mp w)) t801 (by decide) s830
  have s874 := gSg.rawat xq839 rw804.2.1 (fun w => nec3_c795 (List.mem_singleton.mp w)) t807 (by decide) s831
  have s875 := gSg.rawat xq839 rw804.2.1 (fun w => nec3_c795 (List.mem_singleton.mp w)) t807 (by decide) s832
  have s876 := gSg.rawat xq839 rw804.2.1 (fun w => nec3_c795 (List.mem_singleton.mp w)) t807 (by decide) s833
  have s877 := gSg.rawat xq839 rw804.2.1 (fun w => nec3_c795 (List.mem_singleton.mp w)) t807 (by decide) s834
  have s878 := gSg.rawat xq839 rw804.2.1 (fun w => nec3_c795 (List.mem_singleton.mp w)) t807 (by decide) s835
  have pr879 : gNo [66, 68] tyq839 := gNo.gr xq839 (by decide) (gNo.sub (by decide) pr836)
  have uq880 := gSg.uq xq839 uq837 (by decide)
  have sS881 : gSs rT 1027 tyq839 [] hq839 hq839 := gSs.rf xq839.1
  refine gs_rast (j := 5) rfl (by decide) sS881.1 t850 nnc3 rw847.2.1 rf848 rfl (gJ.cell sS881.1 trq839_0 rfl).1 (gJ.cell sS881.1 trq839_0 rfl).2.1 (gJ.cell sS881.1 trq839_0 rfl).2.2 rfl (by have h9 := rf849; omega) (by have h9 := rf849; omega) (fun h882 g883 nh882 mh882 kh882 zh882 eh882 fh882 => ?_)
  have G884 : gSg [66, 67, 68, 69, 70, 101, 102, 103, 200] [x] [] ty h tyq839 h882 := gSg.tr (gSg.ss G840 sS881 (by decide)) g883 (by decide) (by decide) (fun x hx => Or.inl (by rw [List.mem_singleton.mp hx]; exact gac3))
  have rw885 := gSg.raw g883 rw841.2.1 (fun w => nex_c3 (List.mem_singleton.mp w))
  have rf886 := (rw885.2.2.1.trans rf842)
  have rf887 := (rw885.2.2.2.trans rf843)
  have s888 := gSg.rawat g883 rw841.2.1 (fun w => nex_c3 (List.mem_singleton.mp w)) t844 (by decide) s859
  have s889 := gSg.rawat g883 rw841.2.1 (fun w => nex_c3 (List.mem_singleton.mp w)) t844 (by decide) s860
  have s890 := gSg.rawat g883 rw841.2.1 (fun w => nex_c3 (List.mem_singleton.mp w)) t844 (by decide) s861
  have s891 := gSg.rawat g883 rw841.2.1 (fun w => nex_c3 (List.mem_singleton.mp w)) t844 (by decide) s862
  have s892 := gSg.rawat g883 rw841.2.1 (fun w => nex_c3 (List.mem_singleton.mp w)) t844 (by decide) s863
  have s893 := gSg.rawat g883 rw841.2.1 (fun w => nex_c3 (List.mem_singleton.mp w)) t844 (by decide) s864
  have s894 := gSg.rawat g883 rw841.2.1 (fun w => nex_c3 (List.mem_singleton.mp w)) t844 (by decide) s865
  have s895 := gSg.rawat g883 rw841.2.1 (fun w => nex_c3 (List.mem_singleton.mp w)) t844 (by decide) s866
  have s896 := gSg.rawat g883 rw841.2.1 (fun w => nex_c3 (List.mem_singleton.mp w)) t844 (by decide) s867
  have s897 := gSg.rawat g883 rw841.2.1 (fun w => nex_c3 (List.mem_singleton.mp w)) t844 (by decide) s868
  have s898 := gSg.rawat g883 rw841.2.1 (fun w => nex_c3 (List.mem_singleton.mp w)) t844 (by decide) s869
  have s899 := gSg.rawat g883 rw841.2.1 (fun w => nex_c3 (List.mem_singleton.mp w)) t844 (by decide) s870
  have s900 := gSg.rawat g883 rw841.2.1 (fun w => nex_c3 (List.mem_singleton.mp w)) t844 (by decide) s871
  have s901 := gSg.rawat g883 rw841.2.1 (fun w => nex_c3 (List.mem_singleton.mp w)) t844 (by decide) s872
  have s902 := gSg.rawat g883 rw841.2.1 (fun w => nex_c3 (List.mem_singleton.mp w)) t844 (by decide) s873
  have sS903 : gSs rT 1027 tyq839 [] h882 h882 := gSs.rf g883.1
  have rf904 := Nat.lt_of_lt_of_eq rw847.2.1 nh882.symm
  have rf905 := (congrArg (fun n : Nat => (n : Int)) zh882).trans rf849
  have s906 := (fh882 0 (by decide)).trans s874
  have s907 := (fh882 1 (by decide)).trans s875
  have s908 := (fh882 2 (by decide)).trans s876
  have s909 := (fh882 3 (by decide)).trans s877
  have s910 := (fh882 4 (by decide)).trans s878
  refine gy_s 4 (pc' := 50) (L' := [some (.ref x), some (.ref s), some (.ref p), some (.int ((zi 5) + zi 1))]) (S' := [.ref x, .int ((zi 5) + zi 1)]) (L2 := [some (.ref x), some (.ref s), some (.ref p), some (.int (zi 6))]) (S2 := [.ref x, .int (zi 6)]) rfl (by simp only [zi_add, zi_sub, zi_mul, zi_neg, zi_and1, zi_and7, zi_and15, zi_and31, zi_and255, Int.reduceAdd, Int.reduceMul, Int.reduceSub]) (by simp only [zi_add, zi_sub, zi_mul, zi_neg, zi_and1, zi_and7, zi_and15, zi_and31, zi_and255, Int.reduceAdd, Int.reduceMul, Int.reduceSub]) ?_
  refine gz_get rfl (by decide) rfl nx rw885.2.1 rf886 s898 ?_
  refine gs_rlen (z := 8) rfl (by decide) rf904 kh882 rfl rf905 ?_
  refine gy_icF rfl (by decide) (by decide) (by omega) (by omega) (by first | (simp [zc]; done) | (simp only [zc]; omega)) ?_
  refine gz_s 1 (pc' := 58) (L' := [some (.ref x), some (.ref s), some (.ref p), some (.int (zi 6))]) (S' := [.ref x]) rfl ?_
  refine gz_get rfl (by decide) rfl nx rw885.2.1 rf886 s898 ?_
  refine gz_s 1 (pc' := 62) (L' := [some (.ref x), some (.ref s), some (.ref p), some (.int (zi 6))]) (S' := [.int (zi 6), .ref c3]) rfl ?_
  refine gs_newo rfl (by decide) rfl sS903.1 (Nat.le_of_lt (Nat.lt_of_le_of_lt (gJ.cell sS903.1 t845 rfl).1 (gJ.cell sS903.1 t845 rfl).2.1)) (fun ty911 h912 c913 g914 tc913 kc913 zc913 nc913 mc913 ec913 dc913 => ?_)
  have mfc913 : h912.2.1 = h882.2.1 + 2 := mc913
  have gac913 : h.1 ≤ c913 := by have h8 := G884.2.1; have h9 := sS903.2.1; omega
  have nnc913 : 1027 ≤ c913 := by have h8 := (Nat.le_of_lt (Nat.lt_of_le_of_lt (gJ.cell sS903.1 t845 rfl).1 (gJ.cell sS903.1 t845 rfl).2.1)); omega
  have llc913 : c913 < _ := by rw [nc913, ec913]; exact Nat.lt_succ_self _
  have nex_c913 : x ≠ c913 := by have h8 := rw885.2.1; omega
  have nec3_c913 : c3 ≠ c913 := by have h8 := rf904; omega
  have G915 : gSg [66, 67, 68, 69, 70, 101, 102, 103, 200] [x] [] ty h ty911 h912 := gSg.tr (gSg.ss G884 sS903 (by decide)) g914 (by decide) (by decide) (fun x hx => by cases hx)
  have rw916 := gSg.raw g914 rw885.2.1 (fun w => by cases w)
  have rf917 := (rw916.2.2.1.trans rf886)
  have rf918 := (rw916.2.2.2.trans rf887)
  have t919 : ty911 x = 200 := rw916.1.trans t844
  have t920 : ty911 s = 51 := gSg.typ g914 sS903.1 t845 rfl
  have t921 : ty911 p = 54 := gSg.typ g914 sS903.1 t846 rfl
  have rw922 := gSg.raw g914 rf904 (fun w => by cases w)
  have rf923 := (rw922.2.2.1.trans kh882)
  have rf924 := ((congrArg (fun n : Nat => (n : Int)) rw922.2.2.2).trans rf905)
  have t925 : ty911 c3 = 200 := rw922.1.trans t850
  have t926 : ty911 c55 = 69 := gSg.typ g914 sS903.1 t851 rfl
  have t927 : ty911 c111 = 70 := gSg.typ g914 sS903.1 t852 rfl
  have t928 : ty911 c191 = 67 := gSg.typ g914 sS903.1 t853 rfl
  have t929 : ty911 c280 = 101 := gSg.typ g914 sS903.1 t854 rfl
  have t930 : ty911 c373 = 101 := gSg.typ g914 sS903.1 t855 rfl
  have t931 : ty911 c471 = 101 := gSg.typ g914 sS903.1 t856 rfl
  have t932 : ty911 c574 = 101 := gSg.typ g914 sS903.1 t857 rfl
  have t933 : ty911 c682 = 101 := gSg.typ g914 sS903.1 t858 rfl
  have t934 : ty911 c795 = 101 := gSg.typ g914 sS903.1 trq839_0 rfl
  have s935 := gSg.rawat g914 rw885.2.1 (fun w => by cases w) t844 (by decide) s888
  have s936 := gSg.rawat g914 rw885.2.1 (fun w => by cases w) t844 (by decide) s889
  have s937 := gSg.rawat g914 rw885.2.1 (fun w => by cases w) t844 (by decide) s890
  have s938 := gSg.rawat g914 rw885.2.1 (fun w => by cases w) t844 (by decide) s891
  have s939 := gSg.rawat g914 rw885.2.1 (fun w => by cases w) t844 (by decide) s892
  have s940 := gSg.rawat g914 rw885.2.1 (fun w => by cases w) t844 (by decide) s893
  have s941 := gSg.rawat g914 rw885.2.1 (fun w => by cases w) t844 (by decide) s894
  have s942 := gSg.rawat g914 rw885.2.1 (fun w => by cases w) t844 (by decide) s895
  have s943 := gSg.rawat g914 rw885.2.1 (fun w => by cases w) t844 (by decide) s896
  have s944 := gSg.rawat g914 rw885.2.1 (fun w => by cases w) t844 (by decide) s897
  have s945 := gSg.rawat g914 rw885.2.1 (fun w => by cases w) t844 (by decide) s898
  have s946 := gSg.rawat g914 rw885.2.1 (fun w => by cases w) t844 (by decide) s899
  have s947 := gSg.rawat g914 rw885.2.1 (fun w => by cases w) t844 (by decide) s900
  have s948 := gSg.rawat g914 rw885.2.1 (fun w => by cases w) t844 (by decide) s901
  have s949 := gSg.rawat g914 rw885.2.1 (fun w => by cases w) t844 (by decide) s902
  have s950 := gSg.rawat g914 rf904 (fun w => by cases w) t850 (by decide) s906
  have s951 := gSg.rawat g914 rf904 (fun w => by cases w) t850 (by decide) s907
  have s952 := gSg.rawat g914 rf904 (fun w => by cases w) t850 (by decide) s908
  have s953 := gSg.rawat g914 rf904 (fun w => by cases w) t850 (by decide) s909
  have s954 := gSg.rawat g914 rf904 (fun w => by cases w) t850 (by decide) s910
  have s955 := gSg.rawat g914 rf904 (fun w => by cases w) t850 (by decide) eh882
  have pr956 : gNo [66, 68] ty911 := gNo.gr g914 (by decide) (gNo.sub (by decide) pr879)
  have uq957 := gSg.uq g914 uq880 (by decide)
  have sS958 : gSs rT 1027 ty911 [] h912 h912 := gSs.rf g914.1
  refine gz_s 1 (pc' := 66) (L' := [some (.ref x), some (.ref s), some (.ref p), some (.int (zi 6))]) (S' := [.ref c913, .ref c913, .int (zi 6), .ref c3]) rfl ?_
  refine gz_call rfl (by decide) rfl (by decide) (by decide) (gcal_of rfl rfl rfl (Nat.le_of_ble_eq_true rfl) rfl) (ct_Codes _ sS958.1 c913 tc913 nnc913 llc913 kc913 zc913 dc913 uq957) (fun q959 _ wq959 => ?_)
  obtain ⟨pq959, oq959, hq959⟩ := q959
  obtain ⟨tyq959, xq959, trq959_0, gq959, uq959_0, uq959_1⟩ := wq959
  dsimp only at uq959_0 uq959_1
  refine ⟨_, gq959, ?_⟩
  show gz gPP gGG gcn _ _ 69 [some (.ref x), some (.ref s), some (.ref p), some (.int (zi 6))] [.ref c913, .int (zi 6), .ref c3] hq959 _
  have G960 : gSg [66, 67, 68, 69, 70, 101, 102, 103, 200] [x] [] ty h tyq959 hq959 := gSg.tr (gSg.ss G915 sS958 (by decide)) xq959 (by decide) (by decide) (fun x hx => Or.inl (by rw [List.mem_singleton.mp hx]; exact gac913))
  have rw961 := gSg.raw xq959 rw916.2.1 (fun w => nex_c913 (List.mem_singleton.mp w))
  have rf962 := (rw961.2.2.1.trans rf917)
  have rf963 := (rw961.2.2.2.trans rf918)
  have t964 : tyq959 x = 200 := rw961.1.trans t919
  have t965 : tyq959 s = 51 := gSg.typ xq959 sS958.1 t920 rfl
  have t966 : tyq959 p = 54 := gSg.typ xq959 sS958.1 t921 rfl
  have rw967 := gSg.raw xq959 rw922.2.1 (fun w => nec3_c913 (List.mem_singleton.mp w))
  have rf968 := (rw967.2.2.1.trans rf923)
  have rf969 := ((congrArg (fun n : Nat => (n : Int)) rw967.2.2.2).trans rf924)
  have t970 : tyq959 c3 = 200 := rw967.1.trans t925
  have t971 : tyq959 c55 = 69 := gSg.typ xq959 sS958.1 t926 rfl
  have t972 : tyq959 c111 = 70 := gSg.typ xq959 sS958.1 t927 rfl
  have t973 : tyq959 c191 = 67 := gSg.typ xq959 sS958.1 t928 rfl
  have t974 : tyq959 c280 = 101 := gSg.typ xq959 sS958.1 t929 rfl
  have t975 : tyq959 c373 = 101 := gSg.typ xq959 sS958.1 t930 rfl
  have t976 : tyq959 c471 = 101 := gSg.typ xq959 sS958.1 t931 rfl
  have t977 : tyq959 c574 = 101 := gSg.typ xq959 sS958.1 t932 rfl
  have t978 : tyq959 c682 = 101 := gSg.typ xq959 sS958.1 t933 rfl
  have t979 : tyq959 c795 = 101 := gSg.typ xq959 sS958.1 t934 rfl
  have s980 := gSg.rawat xq959 rw916.2.1 (fun w => nex_c913 (List.mem_singleton.mp w)) t919 (by decide) s935
  have s981 := gSg.rawat xq959 rw916.2.1 (fun w => nex_c913 (List.mem_singleton.mp w)) t919 (by decide) s936
  have s982 := gSg.rawat xq959 rw916.2.1 (fun w => nex_c913 (List.mem_singleton.mp w)) t919 (by decide) s937
  have s983 := gSg.rawat xq959 rw916.2.1 (fun w => nex_c913 (List.mem_singleton.mp w)) t919 (by decide) s938
  have s984 := gSg.rawat xq959 rw916.2.1 (fun w => nex_c913 (List.mem_singleton.mp w)) t919 (by decide) s939
  have s985 := gSg.rawat xq959 rw916.2.1 (fun w => nex_c913 (List.mem_singleton.mp w)) t919 (by decide) s940
  have s986 := gSg.rawat xq959 rw916.2.1 (fun w => nex_c913 (List.mem_singleton.mp w)) t919 (by decide) s941
  have s987 := gSg.rawat xq959 rw916.2.1 (fun w => nex_c913 (List.mem_singleton.mp w)) t919 (by decide) s942
  have s988 := gSg.rawat xq959 rw916.2.1 (fun w => nex_c913 (List.mem_singleton.mp w)) t919 (by decide) s943
  have s989 := gSg.rawat xq959 rw916.2.1 (fun w => nex_c913 (List.mem_singleton.mp w)) t919 (by decide) s944
  have s990 := gSg.rawat xq959 rw916.2.1 (fun w => nex_c913 (List.mem_singleton.mp w)) t919 (by decide) s945
  have s991 := gSg.rawat xq959 rw916.2.1 (fun w => nex_c913 (List.mem_singleton.mp w)) t919 (by decide) s946
  have s992 := gSg.rawat xq959 rw916.2.1 (fun w => nex_c913 (List.mem_singleton.mp w)) t919 (by decide) s947
  have s993 := gSg.rawat xq959 rw916.2.1 (fun w => nex_c913 (List.mem_singleton.mp w)) t919 (by decide) s948
  have s994 := gSg.rawat xq959 rw916.2.1 (fun w => nex_c913 (List.mem_singleton.mp w)) t919 (by decide) s949
  have s995 := gSg.rawat xq959 rw922.2.1 (fun w => nec3_c913 (List.mem_singleton.mp w)) t925 (by decide) s950
  have s996 := gSg.rawat xq959 rw922.2.1 (fun w => nec3_c913 (List.mem_singleton.mp w)) t925 (by decide) s951
  have s997 := gSg.rawat xq959 rw922.2.1 (fun w => nec3_c913 (List.mem_singleton.mp w)) t925 (by decide) s952
  have s998 := gSg.rawat xq959 rw922.2.1 (fun w => nec3_c913 (List.mem_singleton.mp w)) t925 (by decide) s953
  have s999 := gSg.rawat xq959 rw922.2.1 (fun w => nec3_c913 (List.mem_singleton.mp w)) t925 (by decide) s954
  have s1000 := gSg.rawat xq959 rw922.2.1 (fun w => nec3_c913 (List.mem_singleton.mp w)) t925 (by decide) s955
  have pr1001 : gNo [66, 68] tyq959 := gNo.gr xq959 (by decide) (gNo.sub (by decide) pr956)
  have uq1002 := gSg.uq xq959 uq957 (by decide)
  have sS1003 : gSs rT 1027 tyq959 [] hq959 hq959 := gSs.rf xq959.1
  refine gs_rast (j := 6) rfl (by decide) sS1003.1 t970 nnc3 rw967.2.1 rf968 rfl (gJ.cell sS1003.1 trq959_0 rfl).1 (gJ.cell sS1003.1 trq959_0 rfl).2.1 (gJ.cell sS1003.1 trq959_0 rfl).2.2 rfl (by have h9 := rf969; omega) (by have h9 := rf969; omega) (fun h1004 g1005 nh1004 mh1004 kh1004 zh1004 eh1004 fh1004 => ?_)
  have G1006 : gSg [66, 67, 68, 69, 70, 101, 102, 103, 200] [x] [] ty h tyq959 h1004 := gSg.tr (gSg.ss G960 sS1003 (by decide)) g1005 (by decide) (by decide) (fun x hx => Or.inl (by rw [List.mem_singleton.mp hx]; exact gac3))
  have rw1007 := gSg.raw g1005 rw961.2.1 (fun w => nex_c3 (List.mem_singleton.mp w))
  have rf1008 := (rw1007.2.2.1.trans rf962)
  have rf1009 := (rw1007.2.2.2.trans rf963)
  have s1010 := gSg.rawat g1005 rw961.2.1 (fun w => nex_c3 (List.mem_singleton.mp w)) t964 (by decide) s980
  have s1011 := gSg.rawat g1005 rw961.2.1 (fun w => nex_c3 (List.mem_singleton.mp w)) t964 (by decide) s981
  have s1012 := gSg.rawat g1005 rw961.2.1 (fun w => nex_c3 (List.mem_singleton.mp w)) t964 (by decide) s982
  have s1013 := gSg.rawat g1005 rw961.2.1 (fun w => nex_c3 (List.mem_singleton.mp w)) t964 (by decide) s983
  have s1014 := gSg.rawat g1005 rw961.2.1 (fun w => nex_c3 (List.mem_singleton.mp w)) t964 (by decide) s984
  have s1015 := gSg.rawat g1005 rw961.2.1 (fun w => nex_c3 (List.mem_singleton.mp w)) t964 (by decide) s985
  have s1016 := gSg.rawat g1005 rw961.2.1 (fun w => nex_c3 (List.mem_singleton.mp w)) t964 (by decide) s986
  have s1017 := gSg.rawat g1005 rw961.2.1 (fun w => nex_c3 (List.mem_singleton.mp w)) t964 (by decide) s987
  have s1018 := gSg.rawat g1005 rw961.2.1 (fun w => nex_c3 (List.mem_singleton.mp w)) t964 (by decide) s988
  have s1019 := gSg.rawat g1005 rw961.2.1 (fun w => nex_c3 (List.mem_singleton.mp w)) t964 (by decide) s989
  have s1020 := gSg.rawat g1005 rw961.2.1 (fun w => nex_c3 (List.mem_singleton.mp w)) t964 (by decide) s990
  have s1021 := gSg.rawat g1005 rw961.2.1 (fun w => nex_c3 (List.mem_singleton.mp w)) t964 (by decide) s991
  have s1022 := gSg.rawat g1005 rw961.2.1 (fun w => nex_c3 (List.mem_singleton.mp w)) t964 (by decide) s992
  have s1023 := gSg.rawat g1005 rw961.2.1 (fun w => nex_c3 (List.mem_singleton.mp w)) t964 (by decide) s993
  have s1024 := gSg.rawat g1005 rw961.2.1 (fun w => nex_c3 (List.mem_singleton.mp w)) t964 (by decide) s994
  have sS1025 : gSs rT 1027 tyq959 [] h1004 h1004 := gSs.rf g1005.1
  have rf1026 := Nat.lt_of_lt_of_eq rw967.2.1 nh1004.symm
  have rf1027 := (congrArg (fun n : Nat => (n : Int)) zh1004).trans rf969
  have s1028 := (fh1004 0 (by decide)).trans s995
  have s1029 := (fh1004 1 (by decide)).trans s996
  have s1030 := (fh1004 2 (by decide)).trans s997
  have s1031 := (fh1004 3 (by decide)).trans s998
  have s1032 := (fh1004 4 (by decide)).trans s999
  have s1033 := (fh1004 5 (by decide)).trans s1000
  refine gy_s 4 (pc' := 50) (L' := [some (.ref x), some (.ref s), some (.ref p), some (.int ((zi 6) + zi 1))]) (S' := [.ref x, .int ((zi 6) + zi 1)]) (L2 := [some (.ref x), some (.ref s), some (.ref p), some (.int (zi 7))]) (S2 := [.ref x, .int (zi 7)]) rfl (by simp only [zi_add, zi_sub, zi_mul, zi_neg, zi_and1, zi_and7, zi_and15, zi_and31, zi_and255, Int.reduceAdd, Int.reduceMul, Int.reduceSub]) (by simp only [zi_add, zi_sub, zi_mul, zi_neg, zi_and1, zi_and7, zi_and15, zi_and31, zi_and255, Int.reduceAdd, Int.reduceMul, Int.reduceSub]) ?_
  refine gz_get rfl (by decide) rfl nx rw1007.2.1 rf1008 s1020 ?_
  refine gs_rlen (z := 8) rfl (by decide) rf1026 kh1004 rfl rf1027 ?_
  refine gy_icF rfl (by decide) (by decide) (by omega) (by omega) (by first | (simp [zc]; done) | (simp only [zc]; omega)) ?_
  refine gz_s 1 (pc' := 58) (L' := [some (.ref x), some (.ref s), some (.ref p), some (.int (zi 7))]) (S' := [.ref x]) rfl ?_
  refine gz_get rfl (by decide) rfl nx rw1007.2.1 rf1008 s1020 ?_
  refine gz_s 1 (pc' := 62) (L' := [some (.ref x), some (.ref s), some (.ref p), some (.int (zi 7))]) (S' := [.int (zi 7), .ref c3]) rfl ?_
  refine gs_newo rfl (by decide) rfl sS1025.1 (Nat.le_of_lt (Nat.lt_of_le_of_lt (gJ.cell sS1025.1 t965 rfl).1 (gJ.cell sS1025.1 t965 rfl).2.1)) (fun ty1034 h1035 c1036 g1037 tc1036 kc1036 zc1036 nc1036 mc1036 ec1036 dc1036 => ?_)
  have mfc1036 : h1035.2.1 = h1004.2.1 + 2 := mc1036
  have gac1036 : h.1 ≤ c1036 := by have h8 := G1006.2.1; have h9 := sS1025.2.1; omega
  have nnc1036 : 1027 ≤ c1036 := by have h8 := (Nat.le_of_lt (Nat.lt_of_le_of_lt (gJ.cell sS1025.1 t965 rfl).1 (gJ.cell sS1025.1 t965 rfl).2.1)); omega
  have llc1036 : c1036 < _ := by rw [nc1036, ec1036]; exact Nat.lt_succ_self _
  have nex_c1036 : x ≠ c1036 := by have h8 := rw1007.2.1; omega
  have nec3_c1036 : c3 ≠ c1036 := by have h8 := rf1026; omega
  have G1038 : gSg [66, 67, 68, 69, 70, 101, 102, 103, 200] [x] [] ty h ty1034 h1035 := gSg.tr (gSg.ss G1006 sS1025 (by decide)) g1037 (by decide) (by decide) (fun x hx => by cases hx)
  have rw1039 := gSg.raw g1037 rw1007.2.1 (fun w => by cases w)
  have rf1040 := (rw1039.2.2.1.trans rf1008)
  have rf1041 := (rw1039.2.2.2.trans rf1009)
  have t1042 : ty1034 x = 200 := rw1039.1.trans t964
  have t1043 : ty1034 s = 51 := gSg.typ g1037 sS1025.1 t965 rfl
  have t1044 : ty1034 p = 54 := gSg.typ g1037 sS1025.1 t966 rfl
  have rw1045 := gSg.raw g1037 rf1026 (fun w => by cases w)
  have rf1046 := (rw1045.2.2.1.trans kh1004)
  have rf1047 := ((congrArg (fun n : Nat => (n : Int)) rw1045.2.2.2).trans rf1027)
  have t1048 : ty1034 c3 = 200 := rw1045.1.trans t970
  have t1049 : ty1034 c55 = 69 := gSg.typ g1037 sS1025.1 t971 rfl
  have t1050 : ty1034 c111 = 70 := gSg.typ g1037 sS1025.1 t972 rfl
  have t1051 : ty1034 c191 = 67 := gSg.typ g1037 sS1025.1 t973 rfl
  have t1052 : ty1034 c280 = 101 := gSg.typ g1037 sS1025.1 t974 rfl
  have t1053 : ty1034 c373 = 101 := gSg.typ g1037 sS1025.1 t975 rfl
  have t1054 : ty1034 c471 = 101 := gSg.typ g1037 sS1025.1 t976 rfl
  have t1055 : ty1034 c574 = 101 := gSg.typ g1037 sS1025.1 t977 rfl
  have t1056 : ty1034 c682 = 101 := gSg.typ g1037 sS1025.1 t978 rfl
  have t1057 : ty1034 c795 = 101 := gSg.typ g1037 sS1025.1 t979 rfl
  have t1058 : ty1034 c913 = 101 := gSg.typ g1037 sS1025.1 trq959_0 rfl
  have s1059 := gSg.rawat g1037 rw1007.2.1 (fun w => by cases w) t964 (by decide) s1010
  have s1060 := gSg.rawat g1037 rw1007.2.1 (fun w => by cases w) t964 (by decide) s1011
  have s1061 := gSg.rawat g1037 rw1007.2.1 (fun w => by cases w) t964 (by decide) s1012
  have s1062 := gSg.rawat g1037 rw1007.2.1 (fun w => by cases w) t964 (by decide) s1013
  have s1063 := gSg.rawat g1037 rw1007.2.1 (fun w => by cases w) t964 (by decide) s1014
  have s1064 := gSg.rawat g1037 rw1007.2.1 (fun w => by cases w) t964 (by decide) s1015
  have s1065 := gSg.rawat g1037 rw1007.2.1 (fun w => by cases w) t964 (by decide) s1016
  have s1066 := gSg.rawat g1037 rw1007.2.1 (fun w => by cases w) t964 (by decide) s1017
  have s1067 := gSg.rawat g1037 rw1007.2.1 (fun w => by cases w) t964 (by decide) s1018
  have s1068 := gSg.rawat g1037 rw1007.2.1 (fun w => by cases w) t964 (by decide) s1019
  have s1069 := gSg.rawat g1037 rw1007.2.1 (fun w => by cases w) t964 (by decide) s1020
  have s1070 := gSg.rawat g1037 rw1007.2.1 (fun w => by cases w) t964 (by decide) s1021
  have s1071 := gSg.rawat g1037 rw1007.2.1 (fun w => by cases w) t964 (by decide) s1022
  have s1072 := gSg.rawat g1037 rw1007.2.1 (fun w => by cases w) t964 (by decide) s1023
  have s1073 := gSg.rawat g1037 rw1007.2.1 (fun w => by cases w) t964 (by decide) s1024
  have s1074 := gSg.rawat g1037 rf1026 (fun w => by cases w) t970 (by decide) s1028
  have s1075 := gSg.rawat g1037 rf1026 (fun w => by cases w) t970 (by decide) s1029
  have s1076 := gSg.rawat g1037 rf1026 (fun w => by cases w) t970 (by decide) s1030
  have s1077 := gSg.rawat g1037 rf1026 (fun w => by cases w) t970 (by decide) s1031
  have s1078 := gSg.rawat g1037 rf1026 (fun w => by cases w) t970 (by decide) s1032
  have s1079 := gSg.rawat g1037 rf1026 (fun w => by cases w) t970 (by decide) s1033
  have s1080 := gSg.rawat g1037 rf1026 (fun w => by cases w) t970 (by decide) eh1004
  have pr1081 : gNo [66, 68] ty1034 := gNo.gr g1037 (by decide) (gNo.sub (by decide) pr1001)
  have uq1082 := gSg.uq g1037 uq1002 (by decide)
  have sS1083 : gSs rT 1027 ty1034 [] h1035 h1035 := gSs.rf g1037.1
  refine gz_s 1 (pc' := 66) (L' := [some (.ref x), some (.ref s), some (.ref p), some (.int (zi 7))]) (S' := [.ref c1036, .ref c1036, .int (zi 7), .ref c3]) rfl ?_
  refine gz_call rfl (by decide) rfl (by decide) (by decide) (gcal_of rfl rfl rfl (Nat.le_of_ble_eq_true rfl) rfl) (ct_Codes _ sS1083.1 c1036 tc1036 nnc1036 llc1036 kc1036 zc1036 dc1036 uq1082) (fun q1084 _ wq1084 => ?_)
  obtain ⟨pq1084, oq1084, hq1084⟩ := q1084
  obtain ⟨tyq1084, xq1084, trq1084_0, gq1084, uq1084_0, uq1084_1⟩ := wq1084
  dsimp only at uq1084_0 uq1084_1
  refine ⟨_, gq1084, ?_⟩
  show gz gPP gGG gcn _ _ 69 [some (.ref x), some (.ref s), some (.ref p), some (.int (zi 7))] [.ref c1036, .int (zi 7), .ref c3] hq1084 _
  have G1085 : gSg [66, 67, 68, 69, 70, 101, 102, 103, 200] [x] [] ty h tyq1084 hq1084 := gSg.tr (gSg.ss G1038 sS1083 (by decide)) xq1084 (by decide) (by decide) (fun x hx => Or.inl (by rw [List.mem_singleton.mp hx]; exact gac1036))
  have rw1086 := gSg.raw xq1084 rw1039.2.1 (fun w => nex_c1036 (List.mem_singleton.mp w))
  have rf1087 := (rw1086.2.2.1.trans rf1040)
  have rf1088 := (rw1086.2.2.2.trans rf1041)
  have t1089 : tyq1084 x = 200 := rw1086.1.trans t1042
  have t1090 : tyq1084 s = 51 := gSg.typ xq1084 sS1083.1 t1043 rfl
  have t1091 : tyq1084 p = 54 := gSg.typ xq1084 sS1083.1 t1044 rfl
  have rw1092 := gSg.raw xq1084 rw1045.2.1 (fun w => nec3_c1036 (List.mem_singleton.mp w))
  have rf1093 := (rw1092.2.2.1.trans rf1046)
  have rf1094 := ((congrArg (fun n : Nat => (n : Int)) rw1092.2.2.2).trans rf1047)
  have t1095 : tyq1084 c3 = 200 := rw1092.1.trans t1048
  have t1096 : tyq1084 c55 = 69 := gSg.typ xq1084 sS1083.1 t1049 rfl
  have t1097 : tyq1084 c111 = 70 := gSg.typ xq1084 sS1083.1 t1050 rfl
  have t1098 : tyq1084 c191 = 67 := gSg.typ xq1084 sS1083.1 t1051 rfl
  have t1099 : tyq1084 c280 = 101 := gSg.typ xq1084 sS1083.1 t1052 rfl
  have t1100 : tyq1084 c373 = 101 := gSg.typ xq1084 sS1083.1 t1053 rfl
  have t1101 : tyq1084 c471 = 101 := gSg.typ xq1084 sS1083.1 t1054 rfl
  have t1102 : tyq1084 c574 = 101 := gSg.typ xq1084 sS1083.1 t1055 rfl
  have t1103 : tyq1084 c682 = 101 := gSg.typ xq1084 sS1083.1 t1056 rfl
  have t1104 : tyq1084 c795 = 101 := gSg.typ xq1084 sS1083.1 t1057 rfl
  have t1105 : tyq1084 c913 = 101 := gSg.typ xq1084 sS1083.1 t1058 rfl
  have s1106 := gSg.rawat xq1084 rw1039.2.1 (fun w => nex_c1036 (List.mem_singleton.mp w)) t1042 (by decide) s1059
  have s1107 := gSg.rawat xq1084 rw1039.2.1 (fun w => nex_c1036 (List.mem_singleton.mp w)) t1042 (by decide) s1060
  have s1108 := gSg.rawat xq1084 rw1039.2.1 (fun w => nex_c1036 (List.mem_singleton.mp w)) t1042 (by decide) s1061
  have s1109 := gSg.rawat xq1084 rw1039.2.1 (fun w => nex_c1036 (List.mem_singleton.mp w)) t1042 (by decide) s1062
  have s1110 := gSg.rawat xq1084 rw1039.2.1 (fun w => nex_c1036 (List.mem_singleton.mp w)) t1042 (by decide) s1063
  have s1111 := gSg.rawat xq1084 rw1039.2.1 (fun w => nex_c1036 (List.mem_singleton.mp w)) t1042 (by decide) s1064
  have s1112 := gSg.rawat xq1084 rw1039.2.1 (fun w => nex_c1036 (List.mem_singleton.mp w)) t1042 (by decide) s1065
  have s1113 := gSg.rawat xq1084 rw1039.2.1 (fun w => nex_c1036 (List.mem_singleton.mp w)) t1042 (by decide) s1066
  have s1114 := gSg.rawat xq1084 rw1039.2.1 (fun w => nex_c1036 (List.mem_singleton.mp w)) t1042 (by decide) s1067
  have s1115 := gSg.rawat xq1084 rw1039.2.1 (fun w => nex_c1036 (List.mem_singleton.mp w)) t1042 (by decide) s1068
  have s1116 := gSg.rawat xq1084 rw1039.2.1 (fun w => nex_c1036 (List.mem_singleton.mp w)) t1042 (by decide) s1069
  have s1117 := gSg.rawat xq1084 rw1039.2.1 (fun w => nex_c1036 (List.mem_singleton.mp w)) t1042 (by decide) s1070
  have s1118 := gSg.rawat xq1084 rw1039.2.1 (fun w => nex_c1036 (List.mem_singleton.mp w)) t1042 (by decide) s1071
  have s1119 := gSg.rawat xq1084 rw1039.2.1 (fun w => nex_c1036 (List.mem_singleton.mp w)) t1042 (by decide) s1072
  have s1120 := gSg.rawat xq1084 rw1039.2.1 (fun w => nex_c1036 (List.mem_singleton.mp w)) t1042 (by decide) s1073
  have s1121 := gSg.rawat xq1084 rw1045.2.1 (fun w => nec3_c1036 (List.mem_singleton.mp w)) t1048 (by decide) s1074
  have s1122 := gSg.rawat xq1084 rw1045.2.1 (fun w => nec3_c1036 (List.mem_singleton.mp w)) t1048 (by decide) s1075
  have s1123 := gSg.rawat xq1084 rw1045.2.1 (fun w => nec3_c1036 (List.mem_singleton.mp w)) t1048 (by decide) s1076
  have s1124 := gSg.rawat xq1084 rw1045.2.1 (fun w => nec3_c1036 (List.mem_singleton.mp w)) t1048 (by decide) s1077
  have s1125 := gSg.rawat xq1084 rw1045.2.1 (fun w => nec3_c1036 (List.mem_singleton.mp w)) t1048 (by decide) s1078
  have s1126 := gSg.rawat xq1084 rw1045.2.1 (fun w => nec3_c1036 (List.mem_singleton.mp w)) t1048 (by decide) s1079
  have s1127 := gSg.rawat xq1084 rw1045.2.1 (fun w => nec3_c1036 (List.mem_singleton.mp w)) t1048 (by decide) s1080
  have pr1128 : gNo [66, 68] tyq1084 := gNo.gr xq1084 (by decide) (gNo.sub (by decide) pr1081)
  have uq1129 := gSg.uq xq1084 uq1082 (by decide)
  have sS1130 : gSs rT 1027 tyq1084 [] hq1084 hq1084 := gSs.rf xq1084.1
  refine gs_rast (j := 7) rfl (by decide) sS1130.1 t1095 nnc3 rw1092.2.1 rf1093 rfl (gJ.cell sS1130.1 trq1084_0 rfl).1 (gJ.cell sS1130.1 trq1084_0 rfl).2.1 (gJ.cell sS1130.1 trq1084_0 rfl).2.2 rfl (by have h9 := rf1094; omega) (by have h9 := rf1094; omega) (fun h1131 g1132 nh1131 mh1131 kh1131 zh1131 eh1131 fh1131 => ?_)
  have G1133 : gSg [66, 67, 68, 69, 70, 101, 102, 103, 200] [x] [] ty h tyq1084 h1131 := gSg.tr (gSg.ss G1085 sS1130 (by decide)) g1132 (by decide) (by decide) (fun x hx => Or.inl (by rw [List.mem_singleton.mp hx]; exact gac3))
  have rw1134 := gSg.raw g1132 rw1086.2.1 (fun w => nex_c3 (List.mem_singleton.mp w))
  have rf1135 := (rw1134.2.2.1.trans rf1087)
  have rf1136 := (rw1134.2.2.2.trans rf1088)
  have s1137 := gSg.rawat g1132 rw1086.2.1 (fun w => nex_c3 (List.mem_singleton.mp w)) t1089 (by decide) s1106
  have s1138 := gSg.rawat g1132 rw1086.2.1 (fun w => nex_c3 (List.mem_singleton.mp w)) t1089 (by decide) s1107
  have s1139 := gSg.rawat g1132 rw1086.2.1 (fun w => nex_c3 (List.mem_singleton.mp w)) t1089 (by decide) s1108
  have s1140 := gSg.rawat g1132 rw1086.2.1 (fun w => nex_c3 (List.mem_singleton.mp w)) t1089 (by decide) s1109
  have s1141 := gSg.rawat g1132 rw1086.2.1 (fun w => nex_c3 (List.mem_singleton.mp w)) t1089 (by decide) s1110
  have s1142 := gSg.rawat g1132 rw1086.2.1 (fun w => nex_c3 (List.mem_singleton.mp w)) t1089 (by decide) s1111
  have s1143 := gSg.rawat g1132 rw1086.2.1 (fun w => nex_c3 (List.mem_singleton.mp w)) t1089 (by decide) s1112
  have s1144 := gSg.rawat g1132 rw1086.2.1 (fun w => nex_c3 (List.mem_singleton.mp w)) t1089 (by decide) s1113
  have s1145 := gSg.rawat g1132 rw1086.2.1 (fun w => nex_c3 (List.mem_singleton.mp w)) t1089 (by decide) s1114
  have s1146 := gSg.rawat g1132 rw1086.2.1 (fun w => nex_c3 (List.mem_singleton.mp w)) t1089 (by decide) s1115
  have s1147 := gSg.rawat g1132 rw1086.2.1 (fun w => nex_c3 (List.mem_singleton.mp w)) t1089 (by decide) s1116
  have s1148 := gSg.rawat g1132 rw1086.2.1 (fun w => nex_c3 (List.mem_singleton.mp w)) t1089 (by decide) s1117
  have s1149 := gSg.rawat g1132 rw1086.2.1 (fun w => nex_c3 (List.mem_singleton.mp w)) t1089 (by decide) s1118
  have s1150 := gSg.rawat g1132 rw1086.2.1 (fun w => nex_c3 (List.mem_singleton.mp w)) t1089 (by decide) s1119
  have s1151 := gSg.rawat g1132 rw1086.2.1 (fun w => nex_c3 (List.mem_singleton.mp w)) t1089 (by decide) s1120
  have sS1152 : gSs rT 1027 tyq1084 [] h1131 h1131 := gSs.rf g1132.1
  have rf1153 := Nat.lt_of_lt_of_eq rw1092.2.1 nh1131.symm
  have rf1154 := (congrArg (fun n : Nat => (n : Int)) zh1131).trans rf1094
  have s1155 := (fh1131 0 (by decide)).trans s1121
  have s1156 := (fh1131 1 (by decide)).trans s1122
  have s1157 := (fh1131 2 (by decide)).trans s1123
  have s1158 := (fh1131 3 (by decide)).trans s1124
  have s1159 := (fh1131 4 (by decide)).trans s1125
  have s1160 := (fh1131 5 (by decide)).trans s1126
  have s1161 := (fh1131 6 (by decide)).trans s1127
  refine gy_s 4 (pc' := 50) (L' := [some (.ref x), some (.ref s), some (.ref p), some (.int ((zi 7) + zi 1))]) (S' := [.ref x, .int ((zi 7) + zi 1)]) (L2 := [some (.ref x), some (.ref s), some (.ref p), some (.int (zi 8))]) (S2 := [.ref x, .int (zi 8)]) rfl (by simp only [zi_add, zi_sub, zi_mul, zi_neg, zi_and1, zi_and7, zi_and15, zi_and31, zi_and255, Int.reduceAdd, Int.reduceMul, Int.reduceSub]) (by simp only [zi_add, zi_sub, zi_mul, zi_neg, zi_and1, zi_and7, zi_and15, zi_and31, zi_and255, Int.reduceAdd, Int.reduceMul, Int.reduceSub]) ?_
  refine gz_get rfl (by decide) rfl nx rw1134.2.1 rf1135 s1147 ?_
  refine gs_rlen (z := 8) rfl (by decide) rf1153 kh1131 rfl rf1154 ?_
  refine gy_icT (pc' := 76) rfl (by decide) (by decide) (by omega) (by omega) (by first | (simp [zc]; done) | (simp only [zc]; omega)) ?_
  obtain ⟨ty1163, g1162, tg1162, ug1162⟩ := gSg.adx 68 sS1152.1 t1095 nnc3 rf1153 rfl kh1131 (by show (8 : Nat) ≤ _; have h9 := rf1154; omega) (by show _ ≤ (8 : Nat); have h9 := rf1154; omega) (fun ty9 w9 k hk => ad68 (by rw [s1155]; exact ⟨c280, rfl, w9 c280 _ t1099 (by decide)⟩) (by rw [s1156]; exact ⟨c373, rfl, w9 c373 _ t1100 (by decide)⟩) (by rw [s1157]; exact ⟨c471, rfl, w9 c471 _ t1101 (by decide)⟩) (by rw [s1158]; exact ⟨c574, rfl, w9 c574 _ t1102 (by decide)⟩) (by rw [s1159]; exact ⟨c682, rfl, w9 c682 _ t1103 (by decide)⟩) (by rw [s1160]; exact ⟨c795, rfl, w9 c795 _ t1104 (by decide)⟩) (by rw [s1161]; exact ⟨c913, rfl, w9 c913 _ t1105 (by decide)⟩) (by rw [eh1131]; exact ⟨c1036, rfl, w9 c1036 _ trq1084_0 (by decide)⟩) k (by have h8 : k < h1131.2.2.2.1 c3 := hk; have h9 := rf1154; omega))
  have uq1164 := ug1162 uq1129 (Or.inr (gNo.sub (by decide) pr1128))
  have G1165 : gSg [66, 67, 68, 69, 70, 101, 102, 103, 200] [x] [] ty h ty1163 h1131 := gSg.tr (gSg.ss G1133 sS1152 (by decide)) g1162 (by decide) (by decide) (fun x hx => Or.inl (by rw [List.mem_singleton.mp hx]; exact gac3))
  have rw1166 := gSg.raw g1162 rw1134.2.1 (fun w => nex_c3 (List.mem_singleton.mp w))
  have rf1167 := (rw1166.2.2.1.trans rf1135)
  have rf1168 := (rw1166.2.2.2.trans rf1136)
  have t1169 : ty1163 x = 200 := rw1166.1.trans t1089
  have t1170 : ty1163 s = 51 := gSg.typ g1162 sS1152.1 t1090 rfl
  have t1171 : ty1163 p = 54 := gSg.typ g1162 sS1152.1 t1091 rfl
  have t1172 : ty1163 c55 = 69 := gSg.typ g1162 sS1152.1 t1096 rfl
  have t1173 : ty1163 c111 = 70 := gSg.typ g1162 sS1152.1 t1097 rfl
  have t1174 : ty1163 c191 = 67 := gSg.typ g1162 sS1152.1 t1098 rfl
  have t1175 : ty1163 c280 = 101 := gSg.typ g1162 sS1152.1 t1099 rfl
  have t1176 : ty1163 c373 = 101 := gSg.typ g1162 sS1152.1 t1100 rfl
  have t1177 : ty1163 c471 = 101 := gSg.typ g1162 sS1152.1 t1101 rfl
  have t1178 : ty1163 c574 = 101 := gSg.typ g1162 sS1152.1 t1102 rfl
  have t1179 : ty1163 c682 = 101 := gSg.typ g1162 sS1152.1 t1103 rfl
  have t1180 : ty1163 c795 = 101 := gSg.typ g1162 sS1152.1 t1104 rfl
  have t1181 : ty1163 c913 = 101 := gSg.typ g1162 sS1152.1 t1105 rfl
  have t1182 : ty1163 c1036 = 101 := gSg.typ g1162 sS1152.1 trq1084_0 rfl
  have pr1183 : gNo [66] ty1163 := gNo.gr g1162 (by decide) (gNo.sub (by decide) pr1128)
  have sS1184 : gSs rT 1027 ty1163 [] h1131 h1131 := gSs.rf g1162.1
  obtain ⟨ty1186, g1185, tg1185, ug1185⟩ := gSg.adx 66 sS1184.1 t1169 nx rw1166.2.1 rfl rf1167 (by show (0 : Nat) ≤ _; have h9 := rf1168; omega) (by show _ ≤ (0 : Nat); have h9 := rf1168; omega) (fun ty9 w9 k hk => ad66 (by rw [s1151]; exact ⟨c191, rfl, w9 c191 _ t1174 (by decide)⟩) (by rw [s1137]; exact ⟨0, rfl, by show ((-1) : Int) ≤ _; omega, by show _ ≤ (65535 : Int); omega⟩) (by rw [s1138]; exact ⟨0, rfl, by show ((-1) : Int) ≤ _; omega, by show _ ≤ (255 : Int); omega⟩) (by rw [s1139]; exact ⟨0, rfl, by show ((-1) : Int) ≤ _; omega, by show _ ≤ (255 : Int); omega⟩) (by rw [s1140]; exact ⟨0, rfl, by show ((-1) : Int) ≤ _; omega, by show _ ≤ (15 : Int); omega⟩) (by rw [s1141]; exact ⟨0, rfl, by show (0 : Int) ≤ _; omega, by show _ ≤ (15 : Int); omega⟩) (by rw [s1147]; exact ⟨c3, rfl, w9 c3 _ tg1162 (by decide)⟩) (by rw [s1150]; exact ⟨p, rfl, w9 p _ t1171 (by decide)⟩) (by rw [s1148]; exact ⟨c55, rfl, w9 c55 _ t1172 (by decide)⟩) (by rw [s1149]; exact ⟨c111, rfl, w9 c111 _ t1173 (by decide)⟩) (by rw [s1142]; exact ⟨0, rfl, by show (0 : Int) ≤ _; omega, by show _ ≤ (12 : Int); omega⟩) (by rw [s1143]; exact ⟨0, rfl, by show (0 : Int) ≤ _; omega, by show _ ≤ (1 : Int); omega⟩) (by rw [s1144]; exact ⟨0, rfl, by show (0 : Int) ≤ _; omega, by show _ ≤ (2 : Int); omega⟩) (by rw [s1145]; exact ⟨0, rfl, by show (0 : Int) ≤ _; omega, by show _ ≤ (70000 : Int); omega⟩) (by rw [s1146]; exact ⟨0, rfl, by show ((-2147483648) : Int) ≤ _; omega, by show _ ≤ (2147483647 : Int); omega⟩) k)
  have uq1187 := ug1185 uq1164 (Or.inr pr1183)
  have G1188 : gSg [66, 67, 68, 69, 70, 101, 102, 103, 200] [x] [] ty h ty1186 h1131 := gSg.tr (gSg.ss G1165 sS1184 (by decide)) g1185 (by decide) (by decide) (fun x hx => Or.inr hx)
  have t1189 : ty1186 s = 51 := gSg.typ g1185 sS1184.1 t1170 rfl
  have t1190 : ty1186 p = 54 := gSg.typ g1185 sS1184.1 t1171 rfl
  have t1191 : ty1186 c3 = 68 := gSg.typ g1185 sS1184.1 tg1162 rfl
  have t1192 : ty1186 c55 = 69 := gSg.typ g1185 sS1184.1 t1172 rfl
  have t1193 : ty1186 c111 = 70 := gSg.typ g1185 sS1184.1 t1173 rfl
  have t1194 : ty1186 c191 = 67 := gSg.typ g1185 sS1184.1 t1174 rfl
  have t1195 : ty1186 c280 = 101 := gSg.typ g1185 sS1184.1 t1175 rfl
  have t1196 : ty1186 c373 = 101 := gSg.typ g1185 sS1184.1 t1176 rfl
  have t1197 : ty1186 c471 = 101 := gSg.typ g1185 sS1184.1 t1177 rfl
  have t1198 : ty1186 c574 = 101 := gSg.typ g1185 sS1184.1 t1178 rfl
  have t1199 : ty1186 c682 = 101 := gSg.typ g1185 sS1184.1 t1179 rfl
  have t1200 : ty1186 c795 = 101 := gSg.typ g1185 sS1184.1 t1180 rfl
  have t1201 : ty1186 c913 = 101 := gSg.typ g1185 sS1184.1 t1181 rfl
  have t1202 : ty1186 c1036 = 101 := gSg.typ g1185 sS1184.1 t1182 rfl
  have sS1203 : gSs rT 1027 ty1186 [] h1131 h1131 := gSs.rf g1185.1
  have G1204 : gSg [66, 67, 68, 69, 70, 101, 102, 103, 200] [x] [] ty h ty1186 h1131 := gSg.ss G1188 sS1203 (by decide)
  exact gz_end (I := .return_) (len := 1) rfl (Or.inl rfl) ⟨ty1186, G1204, tg1185, rfl, (by dsimp only; omega), (by dsimp only; omega), uq1187⟩
