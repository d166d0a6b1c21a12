/-! ===== methods of the landed text (by program) ===== -/
set_option maxRecDepth 20000 in
set_option maxHeartbeats 4000000 in
theorem ct_Writer (d : Nat) {ty : Nat → Nat} {h : gH} (hJ : gJ rT 1027 ty h) (x : Nat) (tx : ty x = 200) (nx : 1027 ≤ x) (lx : x < h.1) (kx : h.2.2.1 x = some (.inr 10)) (zx : h.2.2.2.1 x = 0) (dx : ∀ k, h.2.2.2.2 x k = defaultValue (gGG.2.1 10 k)) (s : Nat) (ts : ty s = 56) (no0 : gNo [71, 72, 73, 74, 75, 76, 77, 78, 79, 80, 81, 85, 91, 92, 93, 94, 95, 96, 97, 98, 99] ty) (uq : gUq ty) : gz gPP gGG gcn (d + 2) gt90 0 (gent [.ref x, .ref s] 2) [] h (fun q _ => ∃ ty9 : Nat → Nat, gSg [71, 72, 73, 74, 75, 76, 77, 78, 79, 80, 81, 85, 91, 92, 93, 94, 95, 96, 97, 98, 99, 200] [x] [] ty h ty9 q.2.2 ∧ ty9 x = 71 ∧ gfin gt90 q.1 q.2.1 = some none ∧ ((q.2.2.1 : Int) = h.1 + 20) ∧ ((q.2.2.2.1 : Int) = h.2.1 + 4288) ∧ gUq ty9) := by
  have hS : gSs rT 1027 ty [] h h := gSs.rf hJ
  have G0 : gSg [71, 72, 73, 74, 75, 76, 77, 78, 79, 80, 81, 85, 91, 92, 93, 94, 95, 96, 97, 98, 99, 200] [x] [] ty h ty h := gSg.rf hJ (fun x hx => by rw [List.mem_singleton.mp hx, tx]; rfl)
  refine gz_s 1 (pc' := 1) (L' := [some (.ref x), some (.ref s)]) (S' := [.ref x]) rfl ?_
  refine gz_obj rfl (by decide) (by omega) rfl (by decide) ?_
  refine gz_s 2 (pc' := 7) (L' := [some (.ref x), some (.ref s)]) (S' := [.int (zi 64), .ref x]) rfl ?_
  refine gs_newr 72 rfl (by decide) rfl hS.1 (Nat.le_of_lt (Nat.lt_of_le_of_lt (gJ.cell hS.1 ts rfl).1 (gJ.cell hS.1 ts rfl).2.1)) (by omega) (by omega) rfl rfl (by show (64 : Int) ≤ _; omega) (by show _ ≤ (64 : Int); omega) (fun _ _ => gos_i (by decide) (by decide)) (fun ty1 h2 c3 g4 tc3 lc3 nc3 mc3 ec3 dc3 uc3 => ?_)
  have gac3 : h.1 ≤ c3 := by have h8 := G0.2.1; have h9 := hS.2.1; omega
  have uq5 := uc3 uq (Or.inr (gNo.sub (by decide) no0))
  have G6 : gSg [71, 72, 73, 74, 75, 76, 77, 78, 79, 80, 81, 85, 91, 92, 93, 94, 95, 96, 97, 98, 99, 200] [x] [] ty h ty1 h2 := gSg.tr (gSg.ss G0 hS (by decide)) g4 (by decide) (by decide) (fun x hx => by cases hx)
  have rw7 := gSg.raw g4 lx (fun w => by cases w)
  have rf8 := (rw7.2.2.1.trans kx)
  have rf9 := (rw7.2.2.2.trans zx)
  have t10 : ty1 x = 200 := rw7.1.trans tx
  have t11 : ty1 s = 56 := gSg.typ g4 hS.1 ts rfl
  have s12 := gSg.rawat g4 lx (fun w => by cases w) tx (by decide) (show h.2.2.2.2 x 0 = .null from dx 0)
  have s13 := gSg.rawat g4 lx (fun w => by cases w) tx (by decide) (show h.2.2.2.2 x 1 = .null from dx 1)
  have s14 := gSg.rawat g4 lx (fun w => by cases w) tx (by decide) (show h.2.2.2.2 x 2 = .null from dx 2)
  have s15 := gSg.rawat g4 lx (fun w => by cases w) tx (by decide) (show h.2.2.2.2 x 3 = .null from dx 3)
  have s16 := gSg.rawat g4 lx (fun w => by cases w) tx (by decide) (show h.2.2.2.2 x 4 = .null from dx 4)
  have s17 := gSg.rawat g4 lx (fun w => by cases w) tx (by decide) (show h.2.2.2.2 x 5 = .int (zi 0) from dx 5)
  have s18 := gSg.rawat g4 lx (fun w => by cases w) tx (by decide) (show h.2.2.2.2 x 6 = .int (zi 0) from dx 6)
  have s19 := gSg.rawat g4 lx (fun w => by cases w) tx (by decide) (show h.2.2.2.2 x 7 = .int (zi 0) from dx 7)
  have s20 := gSg.rawat g4 lx (fun w => by cases w) tx (by decide) (show h.2.2.2.2 x 8 = .int (zi 0) from dx 8)
  have s21 := gSg.rawat g4 lx (fun w => by cases w) tx (by decide) (show h.2.2.2.2 x 9 = .int (zi 0) from dx 9)
  have s22 := gSg.rawat g4 lx (fun w => by cases w) tx (by decide) (show h.2.2.2.2 x 10 = .int (zi 0) from dx 10)
  have s23 := gSg.rawat g4 lx (fun w => by cases w) tx (by decide) (show h.2.2.2.2 x 11 = .int (zi 0) from dx 11)
  have s24 := gSg.rawat g4 lx (fun w => by cases w) tx (by decide) (show h.2.2.2.2 x 12 = .int (zi 0) from dx 12)
  have s25 := gSg.rawat g4 lx (fun w => by cases w) tx (by decide) (show h.2.2.2.2 x 13 = .long (zl 0) from dx 13)
  have s26 := gSg.rawat g4 lx (fun w => by cases w) tx (by decide) (show h.2.2.2.2 x 14 = .int (zi 0) from dx 14)
  have pr27 : gNo [71, 73, 74, 75, 76, 77, 78, 79, 80, 81, 85, 91, 92, 93, 94, 95, 96, 97, 98, 99] ty1 := gNo.gr g4 (by decide) (gNo.sub (by decide) no0)
  have sS28 : gSs rT 1027 ty1 [] h2 h2 := gSs.rf g4.1
  refine gs_rput rfl (by decide) rfl sS28.1 t10 nx rw7.2.1 rf8 rfl (Or.inr rfl) (fun h29 g30 nh29 mh29 kh29 zh29 eh29 fh29 => ?_)
  have G31 : gSg [71, 72, 73, 74, 75, 76, 77, 78, 79, 80, 81, 85, 91, 92, 93, 94, 95, 96, 97, 98, 99, 200] [x] [] ty h ty1 h29 := gSg.tr (gSg.ss G6 sS28 (by decide)) g30 (by decide) (by decide) (fun x hx => Or.inr hx)
  have sS32 : gSs rT 1027 ty1 [] h29 h29 := gSs.rf g30.1
  have rf33 := Nat.lt_of_lt_of_eq rw7.2.1 nh29.symm
  have rf34 := zh29.trans rf9
  have s35 := (fh29 0 (by decide)).trans s12
  have s36 := (fh29 2 (by decide)).trans s14
  have s37 := (fh29 3 (by decide)).trans s15
  have s38 := (fh29 4 (by decide)).trans s16
  have s39 := (fh29 5 (by decide)).trans s17
  have s40 := (fh29 6 (by decide)).trans s18
  have s41 := (fh29 7 (by decide)).trans s19
  have s42 := (fh29 8 (by decide)).trans s20
  have s43 := (fh29 9 (by decide)).trans s21
  have s44 := (fh29 10 (by decide)).trans s22
  have s45 := (fh29 11 (by decide)).trans s23
  have s46 := (fh29 12 (by decide)).trans s24
  have s47 := (fh29 13 (by decide)).trans s25
  have s48 := (fh29 14 (by decide)).trans s26
  refine gz_s 2 (pc' := 16) (L' := [some (.ref x), some (.ref s)]) (S' := [.int (zi 1024), .ref x]) rfl ?_
  refine gs_newr 73 rfl (by decide) rfl sS32.1 (Nat.le_of_lt (Nat.lt_of_le_of_lt (gJ.cell sS32.1 t11 rfl).1 (gJ.cell sS32.1 t11 rfl).2.1)) (by omega) (by omega) rfl rfl (by show (1024 : Int) ≤ _; omega) (by show _ ≤ (1024 : Int); omega) (fun _ _ => gos_i (by decide) (by decide)) (fun ty49 h50 c51 g52 tc51 lc51 nc51 mc51 ec51 dc51 uc51 => ?_)
  have gac51 : h.1 ≤ c51 := by have h8 := G31.2.1; have h9 := sS32.2.1; omega
  have uq53 := uc51 uq5 (Or.inr (gNo.sub (by decide) pr27))
  have G54 : gSg [71, 72, 73, 74, 75, 76, 77, 78, 79, 80, 81, 85, 91, 92, 93, 94, 95, 96, 97, 98, 99, 200] [x] [] ty h ty49 h50 := gSg.tr (gSg.ss G31 sS32 (by decide)) g52 (by decide) (by decide) (fun x hx => by cases hx)
  have rw55 := gSg.raw g52 rf33 (fun w => by cases w)
  have rf56 := (rw55.2.2.1.trans kh29)
  have rf57 := (rw55.2.2.2.trans rf34)
  have t58 : ty49 x = 200 := rw55.1.trans t10
  have t59 : ty49 s = 56 := gSg.typ g52 sS32.1 t11 rfl
  have t60 : ty49 c3 = 72 := gSg.typ g52 sS32.1 tc3 rfl
  have s61 := gSg.rawat g52 rf33 (fun w => by cases w) t10 (by decide) s35
  have s62 := gSg.rawat g52 rf33 (fun w => by cases w) t10 (by decide) s36
  have s63 := gSg.rawat g52 rf33 (fun w => by cases w) t10 (by decide) s37
  have s64 := gSg.rawat g52 rf33 (fun w => by cases w) t10 (by decide) s38
  have s65 := gSg.rawat g52 rf33 (fun w => by cases w) t10 (by decide) s39
  have s66 := gSg.rawat g52 rf33 (fun w => by cases w) t10 (by decide) s40
  have s67 := gSg.rawat g52 rf33 (fun w => by cases w) t10 (by decide) s41
  have s68 := gSg.rawat g52 rf33 (fun w => by cases w) t10 (by decide) s42
  have s69 := gSg.rawat g52 rf33 (fun w => by cases w) t10 (by decide) s43
  have s70 := gSg.rawat g52 rf33 (fun w => by cases w) t10 (by decide) s44
  have s71 := gSg.rawat g52 rf33 (fun w => by cases w) t10 (by decide) s45
  have s72 := gSg.rawat g52 rf33 (fun w => by cases w) t10 (by decide) s46
  have s73 := gSg.rawat g52 rf33 (fun w => by cases w) t10 (by decide) s47
  have s74 := gSg.rawat g52 rf33 (fun w => by cases w) t10 (by decide) s48
  have s75 := gSg.rawat g52 rf33 (fun w => by cases w) t10 (by decide) eh29
  have pr76 : gNo [71, 74, 75, 76, 77, 78, 79, 80, 81, 85, 91, 92, 93, 94, 95, 96, 97, 98, 99] ty49 := gNo.gr g52 (by decide) (gNo.sub (by decide) pr27)
  have sS77 : gSs rT 1027 ty49 [] h50 h50 := gSs.rf g52.1
  refine gs_rput rfl (by decide) rfl sS77.1 t58 nx rw55.2.1 rf56 rfl (Or.inr rfl) (fun h78 g79 nh78 mh78 kh78 zh78 eh78 fh78 => ?_)
  have G80 : gSg [71, 72, 73, 74, 75, 76, 77, 78, 79, 80, 81, 85, 91, 92, 93, 94, 95, 96, 97, 98, 99, 200] [x] [] ty h ty49 h78 := gSg.tr (gSg.ss G54 sS77 (by decide)) g79 (by decide) (by decide) (fun x hx => Or.inr hx)
  have sS81 : gSs rT 1027 ty49 [] h78 h78 := gSs.rf g79.1
  have rf82 := Nat.lt_of_lt_of_eq rw55.2.1 nh78.symm
  have rf83 := zh78.trans rf57
  have s84 := (fh78 0 (by decide)).trans s61
  have s85 := (fh78 3 (by decide)).trans s63
  have s86 := (fh78 4 (by decide)).trans s64
  have s87 := (fh78 5 (by decide)).trans s65
  have s88 := (fh78 6 (by decide)).trans s66
  have s89 := (fh78 7 (by decide)).trans s67
  have s90 := (fh78 8 (by decide)).trans s68
  have s91 := (fh78 9 (by decide)).trans s69
  have s92 := (fh78 10 (by decide)).trans s70
  have s93 := (fh78 11 (by decide)).trans s71
  have s94 := (fh78 12 (by decide)).trans s72
  have s95 := (fh78 13 (by decide)).trans s73
  have s96 := (fh78 14 (by decide)).trans s74
  have s97 := (fh78 1 (by decide)).trans s75
  refine gz_s 2 (pc' := 24) (L' := [some (.ref x), some (.ref s)]) (S' := [.int (zi 64), .ref x]) rfl ?_
  refine gs_newr 74 rfl (by decide) rfl sS81.1 (Nat.le_of_lt (Nat.lt_of_le_of_lt (gJ.cell sS81.1 t59 rfl).1 (gJ.cell sS81.1 t59 rfl).2.1)) (by omega) (by omega) rfl rfl (by show (64 : Int) ≤ _; omega) (by show _ ≤ (64 : Int); omega) (fun _ _ => gos_l (by decide) (by decide)) (fun ty98 h99 c100 g101 tc100 lc100 nc100 mc100 ec100 dc100 uc100 => ?_)
  have gac100 : h.1 ≤ c100 := by have h8 := G80.2.1; have h9 := sS81.2.1; omega
  have uq102 := uc100 uq53 (Or.inr (gNo.sub (by decide) pr76))
  have G103 : gSg [71, 72, 73, 74, 75, 76, 77, 78, 79, 80, 81, 85, 91, 92, 93, 94, 95, 96, 97, 98, 99, 200] [x] [] ty h ty98 h99 := gSg.tr (gSg.ss G80 sS81 (by decide)) g101 (by decide) (by decide) (fun x hx => by cases hx)
  have rw104 := gSg.raw g101 rf82 (fun w => by cases w)
  have rf105 := (rw104.2.2.1.trans kh78)
  have rf106 := (rw104.2.2.2.trans rf83)
  have t107 : ty98 x = 200 := rw104.1.trans t58
  have t108 : ty98 s = 56 := gSg.typ g101 sS81.1 t59 rfl
  have t109 : ty98 c3 = 72 := gSg.typ g101 sS81.1 t60 rfl
  have t110 : ty98 c51 = 73 := gSg.typ g101 sS81.1 tc51 rfl
  have s111 := gSg.rawat g101 rf82 (fun w => by cases w) t58 (by decide) s84
  have s112 := gSg.rawat g101 rf82 (fun w => by cases w) t58 (by decide) s85
  have s113 := gSg.rawat g101 rf82 (fun w => by cases w) t58 (by decide) s86
  have s114 := gSg.rawat g101 rf82 (fun w => by cases w) t58 (by decide) s87
  have s115 := gSg.rawat g101 rf82 (fun w => by cases w) t58 (by decide) s88
  have s116 := gSg.rawat g101 rf82 (fun w => by cases w) t58 (by decide) s89
  have s117 := gSg.rawat g101 rf82 (fun w => by cases w) t58 (by decide) s90
  have s118 := gSg.rawat g101 rf82 (fun w => by cases w) t58 (by decide) s91
  have s119 := gSg.rawat g101 rf82 (fun w => by cases w) t58 (by decide) s92
  have s120 := gSg.rawat g101 rf82 (fun w => by cases w) t58 (by decide) s93
  have s121 := gSg.rawat g101 rf82 (fun w => by cases w) t58 (by decide) s94
  have s122 := gSg.rawat g101 rf82 (fun w => by cases w) t58 (by decide) s95
  have s123 := gSg.rawat g101 rf82 (fun w => by cases w) t58 (by decide) s96
  have s124 := gSg.rawat g101 rf82 (fun w => by cases w) t58 (by decide) s97
  have s125 := gSg.rawat g101 rf82 (fun w => by cases w) t58 (by decide) eh78
  have pr126 : gNo [71, 75, 76, 77, 78, 79, 80, 81, 85, 91, 92, 93, 94, 95, 96, 97, 98, 99] ty98 := gNo.gr g101 (by decide) (gNo.sub (by decide) pr76)
  have sS127 : gSs rT 1027 ty98 [] h99 h99 := gSs.rf g101.1
  refine gs_rput rfl (by decide) rfl sS127.1 t107 nx rw104.2.1 rf105 rfl (Or.inr rfl) (fun h128 g129 nh128 mh128 kh128 zh128 eh128 fh128 => ?_)
  have G130 : gSg [71, 72, 73, 74, 75, 76, 77, 78, 79, 80, 81, 85, 91, 92, 93, 94, 95, 96, 97, 98, 99, 200] [x] [] ty h ty98 h128 := gSg.tr (gSg.ss G103 sS127 (by decide)) g129 (by decide) (by decide) (fun x hx => Or.inr hx)
  have sS131 : gSs rT 1027 ty98 [] h128 h128 := gSs.rf g129.1
  have rf132 := Nat.lt_of_lt_of_eq rw104.2.1 nh128.symm
  have rf133 := zh128.trans rf106
  have s134 := (fh128 0 (by decide)).trans s111
  have s135 := (fh128 4 (by decide)).trans s113
  have s136 := (fh128 5 (by decide)).trans s114
  have s137 := (fh128 6 (by decide)).trans s115
  have s138 := (fh128 7 (by decide)).trans s116
  have s139 := (fh128 8 (by decide)).trans s117
  have s140 := (fh128 9 (by decide)).trans s118
  have s141 := (fh128 10 (by decide)).trans s119
  have s142 := (fh128 11 (by decide)).trans s120
  have s143 := (fh128 12 (by decide)).trans s121
  have s144 := (fh128 13 (by decide)).trans s122
  have s145 := (fh128 14 (by decide)).trans s123
  have s146 := (fh128 1 (by decide)).trans s124
  have s147 := (fh128 2 (by decide)).trans s125
  refine gz_s 2 (pc' := 31) (L' := [some (.ref x), some (.ref s)]) (S' := [.int (zi 2), .ref x]) rfl ?_
  refine gs_newq rfl (by decide) rfl sS131.1 (Nat.le_of_lt (Nat.lt_of_le_of_lt (gJ.cell sS131.1 t108 rfl).1 (gJ.cell sS131.1 t108 rfl).2.1)) (by omega) (by omega) (fun ty148 h149 c150 g151 tc150 kc150 zc150 nc150 mc150 ec150 => ?_)
  have gac150 : h.1 ≤ c150 := by have h8 := G130.2.1; have h9 := sS131.2.1; omega
  have nnc150 : 1027 ≤ c150 := by have h8 := (Nat.le_of_lt (Nat.lt_of_le_of_lt (gJ.cell sS131.1 t108 rfl).1 (gJ.cell sS131.1 t108 rfl).2.1)); omega
  have llc150 : c150 < _ := by rw [nc150, ec150]; exact Nat.lt_succ_self _
  have nex_c150 : x ≠ c150 := by have h8 := rf132; omega
  have G152 : gSg [71, 72, 73, 74, 75, 76, 77, 78, 79, 80, 81, 85, 91, 92, 93, 94, 95, 96, 97, 98, 99, 200] [x] [] ty h ty148 h149 := gSg.tr (gSg.ss G130 sS131 (by decide)) g151 (by decide) (by decide) (fun x hx => by cases hx)
  have rw153 := gSg.raw g151 rf132 (fun w => by cases w)
  have rf154 := (rw153.2.2.1.trans kh128)
  have rf155 := (rw153.2.2.2.trans rf133)
  have t156 : ty148 x = 200 := rw153.1.trans t107
  have t157 : ty148 s = 56 := gSg.typ g151 sS131.1 t108 rfl
  have t158 : ty148 c3 = 72 := gSg.typ g151 sS131.1 t109 rfl
  have t159 : ty148 c51 = 73 := gSg.typ g151 sS131.1 t110 rfl
  have t160 : ty148 c100 = 74 := gSg.typ g151 sS131.1 tc100 rfl
  have s161 := gSg.rawat g151 rf132 (fun w => by cases w) t107 (by decide) s134
  have s162 := gSg.rawat g151 rf132 (fun w => by cases w) t107 (by decide) s135
  have s163 := gSg.rawat g151 rf132 (fun w => by cases w) t107 (by decide) s136
  have s164 := gSg.rawat g151 rf132 (fun w => by cases w) t107 (by decide) s137
  have s165 := gSg.rawat g151 rf132 (fun w => by cases w) t107 (by decide) s138
  have s166 := gSg.rawat g151 rf132 (fun w => by cases w) t107 (by decide) s139
  have s167 := gSg.rawat g151 rf132 (fun w => by cases w) t107 (by decide) s140
  have s168 := gSg.rawat g151 rf132 (fun w => by cases w) t107 (by decide) s141
  have s169 := gSg.rawat g151 rf132 (fun w => by cases w) t107 (by decide) s142
  have s170 := gSg.rawat g151 rf132 (fun w => by cases w) t107 (by decide) s143
  have s171 := gSg.rawat g151 rf132 (fun w => by cases w) t107 (by decide) s144
  have s172 := gSg.rawat g151 rf132 (fun w => by cases w) t107 (by decide) s145
  have s173 := gSg.rawat g151 rf132 (fun w => by cases w) t107 (by decide) s146
  have s174 := gSg.rawat g151 rf132 (fun w => by cases w) t107 (by decide) s147
  have s175 := gSg.rawat g151 rf132 (fun w => by cases w) t107 (by decide) eh128
  have pr176 : gNo [71, 75, 76, 77, 78, 79, 80, 81, 85, 91, 92, 93, 94, 95, 96, 97, 98, 99] ty148 := gNo.gr g151 (by decide) (gNo.sub (by decide) pr126)
  have uq177 := gSg.uq g151 uq102 (by decide)
  have sS178 : gSs rT 1027 ty148 [] h149 h149 := gSs.rf g151.1
  refine gz_s 2 (pc' := 36) (L' := [some (.ref x), some (.ref s)]) (S' := [.int (zi 0), .ref c150, .ref c150, .ref x]) rfl ?_
  refine gs_newo rfl (by decide) rfl sS178.1 (Nat.le_of_lt (Nat.lt_of_le_of_lt (gJ.cell sS178.1 t157 rfl).1 (gJ.cell sS178.1 t157 rfl).2.1)) (fun ty179 h180 c181 g182 tc181 kc181 zc181 nc181 mc181 ec181 dc181 => ?_)
  have mfc181 : h180.2.1 = h149.2.1 + 9 := mc181
  have gac181 : h.1 ≤ c181 := by have h8 := G152.2.1; have h9 := sS178.2.1; omega
  have nnc181 : 1027 ≤ c181 := by have h8 := (Nat.le_of_lt (Nat.lt_of_le_of_lt (gJ.cell sS178.1 t157 rfl).1 (gJ.cell sS178.1 t157 rfl).2.1)); omega
  have llc181 : c181 < _ := by rw [nc181, ec181]; exact Nat.lt_succ_self _
  have nex_c181 : x ≠ c181 := by have h8 := rw153.2.1; omega
  have nec150_c181 : c150 ≠ c181 := by have h8 := llc150; omega
  have G183 : gSg [71, 72, 73, 74, 75, 76, 77, 78, 79, 80, 81, 85, 91, 92, 93, 94, 95, 96, 97, 98, 99, 200] [x] [] ty h ty179 h180 := gSg.tr (gSg.ss G152 sS178 (by decide)) g182 (by decide) (by decide) (fun x hx => by cases hx)
  have rw184 := gSg.raw g182 rw153.2.1 (fun w => by cases w)
  have rf185 := (rw184.2.2.1.trans rf154)
  have rf186 := (rw184.2.2.2.trans rf155)
  have t187 : ty179 x = 200 := rw184.1.trans t156
  have t188 : ty179 s = 56 := gSg.typ g182 sS178.1 t157 rfl
  have t189 : ty179 c3 = 72 := gSg.typ g182 sS178.1 t158 rfl
  have t190 : ty179 c51 = 73 := gSg.typ g182 sS178.1 t159 rfl
  have t191 : ty179 c100 = 74 := gSg.typ g182 sS178.1 t160 rfl
  have rw192 := gSg.raw g182 llc150 (fun w => by cases w)
  have rf193 := (rw192.2.2.1.trans kc150)
  have rf194 := ((congrArg (fun n : Nat => (n : Int)) rw192.2.2.2).trans zc150)
  have t195 : ty179 c150 = 200 := rw192.1.trans tc150
  have s196 := gSg.rawat g182 rw153.2.1 (fun w => by cases w) t156 (by decide) s161
  have s197 := gSg.rawat g182 rw153.2.1 (fun w => by cases w) t156 (by decide) s162
  have s198 := gSg.rawat g182 rw153.2.1 (fun w => by cases w) t156 (by decide) s163
  have s199 := gSg.rawat g182 rw153.2.1 (fun w => by cases w) t156 (by decide) s164
  have s200 := gSg.rawat g182 rw153.2.1 (fun w => by cases w) t156 (by decide) s165
  have s201 := gSg.rawat g182 rw153.2.1 (fun w => by cases w) t156 (by decide) s166
  have s202 := gSg.rawat g182 rw153.2.1 (fun w => by cases w) t156 (by decide) s167
  have s203 := gSg.rawat g182 rw153.2.1 (fun w => by cases w) t156 (by decide) s168
  have s204 := gSg.rawat g182 rw153.2.1 (fun w => by cases w) t156 (by decide) s169
  have s205 := gSg.rawat g182 rw153.2.1 (fun w => by cases w) t156 (by decide) s170
  have s206 := gSg.rawat g182 rw153.2.1 (fun w => by cases w) t156 (by decide) s171
  have s207 := gSg.rawat g182 rw153.2.1 (fun w => by cases w) t156 (by decide) s172
  have s208 := gSg.rawat g182 rw153.2.1 (fun w => by cases w) t156 (by decide) s173
  have s209 := gSg.rawat g182 rw153.2.1 (fun w => by cases w) t156 (by decide) s174
  have s210 := gSg.rawat g182 rw153.2.1 (fun w => by cases w) t156 (by decide) s175
  have pr211 : gNo [71, 75, 76, 77, 78, 79, 80, 81, 85, 91, 92, 93, 94, 95, 96, 97, 98, 99] ty179 := gNo.gr g182 (by decide) (gNo.sub (by decide) pr176)
  have uq212 := gSg.uq g182 uq177 (by decide)
  have sS213 : gSs rT 1027 ty179 [] h180 h180 := gSs.rf g182.1
  refine gz_s 1 (pc' := 40) (L' := [some (.ref x), some (.ref s)]) (S' := [.ref c181, .ref c181, .int (zi 0), .ref c150, .ref c150, .ref x]) rfl ?_
  refine gz_call rfl (by decide) rfl (by decide) (by decide) (gcal_of rfl rfl rfl (Nat.le_of_ble_eq_true rfl) rfl) (ct_Suited0 _ sS213.1 c181 tc181 nnc181 llc181 kc181 zc181 dc181 (gNo.sub (by decide) pr211) uq212) (fun q214 _ wq214 => ?_)
  obtain ⟨pq214, oq214, hq214⟩ := q214
  obtain ⟨tyq214, xq214, trq214_0, gq214, uq214_0, uq214_1, uqq214⟩ := wq214
  dsimp only at uq214_0 uq214_1
  refine ⟨_, gq214, ?_⟩
  show gz gPP gGG gcn _ _ 43 [some (.ref x), some (.ref s)] [.ref c181, .int (zi 0), .ref c150, .ref c150, .ref x] hq214 _
  have G215 : gSg [71, 72, 73, 74, 75, 76, 77, 78, 79, 80, 81, 85, 91, 92, 93, 94, 95, 96, 97, 98, 99, 200] [x] [] ty h tyq214 hq214 := gSg.tr (gSg.ss G183 sS213 (by decide)) xq214 (by decide) (by decide) (fun x hx => Or.inl (by rw [List.mem_singleton.mp hx]; exact gac181))
  have rw216 := gSg.raw xq214 rw184.2.1 (fun w => nex_c181 (List.mem_singleton.mp w))
  have rf217 := (rw216.2.2.1.trans rf185)
  have rf218 := (rw216.2.2.2.trans rf186)
  have t219 : tyq214 x = 200 := rw216.1.trans t187
  have t220 : tyq214 s = 56 := gSg.typ xq214 sS213.1 t188 rfl
  have t221 : tyq214 c3 = 72 := gSg.typ xq214 sS213.1 t189 rfl
  have t222 : tyq214 c51 = 73 := gSg.typ xq214 sS213.1 t190 rfl
  have t223 : tyq214 c100 = 74 := gSg.typ xq214 sS213.1 t191 rfl
  have rw224 := gSg.raw xq214 rw192.2.1 (fun w => nec150_c181 (List.mem_singleton.mp w))
  have rf225 := (rw224.2.2.1.trans rf193)
  have rf226 := ((congrArg (fun n : Nat => (n : Int)) rw224.2.2.2).trans rf194)
  have t227 : tyq214 c150 = 200 := rw224.1.trans t195
  have s228 := gSg.rawat xq214 rw184.2.1 (fun w => nex_c181 (List.mem_singleton.mp w)) t187 (by decide) s196
  have s229 := gSg.rawat xq214 rw184.2.1 (fun w => nex_c181 (List.mem_singleton.mp w)) t187 (by decide) s197
  have s230 := gSg.rawat xq214 rw184.2.1 (fun w => nex_c181 (List.mem_singleton.mp w)) t187 (by decide) s198
  have s231 := gSg.rawat xq214 rw184.2.1 (fun w => nex_c181 (List.mem_singleton.mp w)) t187 (by decide) s199
  have s232 := gSg.rawat xq214 rw184.2.1 (fun w => nex_c181 (List.mem_singleton.mp w)) t187 (by decide) s200
  have s233 := gSg.rawat xq214 rw184.2.1 (fun w => nex_c181 (List.mem_singleton.mp w)) t187 (by decide) s201
  have s234 := gSg.rawat xq214 rw184.2.1 (fun w => nex_c181 (List.mem_singleton.mp w)) t187 (by decide) s202
  have s235 := gSg.rawat xq214 rw184.2.1 (fun w => nex_c181 (List.mem_singleton.mp w)) t187 (by decide) s203
  have s236 := gSg.rawat xq214 rw184.2.1 (fun w => nex_c181 (List.mem_singleton.mp w)) t187 (by decide) s204
  have s237 := gSg.rawat xq214 rw184.2.1 (fun w => nex_c181 (List.mem_singleton.mp w)) t187 (by decide) s205
  have s238 := gSg.rawat xq214 rw184.2.1 (fun w => nex_c181 (List.mem_singleton.mp w)) t187 (by decide) s206
  have s239 := gSg.rawat xq214 rw184.2.1 (fun w => nex_c181 (List.mem_singleton.mp w)) t187 (by decide) s207
  have s240 := gSg.rawat xq214 rw184.2.1 (fun w => nex_c181 (List.mem_singleton.mp w)) t187 (by decide) s208
  have s241 := gSg.rawat xq214 rw184.2.1 (fun w => nex_c181 (List.mem_singleton.mp w)) t187 (by decide) s209
  have s242 := gSg.rawat xq214 rw184.2.1 (fun w => nex_c181 (List.mem_singleton.mp w)) t187 (by decide) s210
  have pr243 : gNo [71, 75, 76, 77, 78, 79, 80, 81, 85, 92] tyq214 := gNo.gr xq214 (by decide) (gNo.sub (by decide) pr211)
  have sS244 : gSs rT 1027 tyq214 [] hq214 hq214 := gSs.rf xq214.1
  refine gs_rast (j := 0) rfl (by decide) sS244.1 t227 nnc150 rw224.2.1 rf225 rfl (gJ.cell sS244.1 trq214_0 rfl).1 (gJ.cell sS244.1 trq214_0 rfl).2.1 (gJ.cell sS244.1 trq214_0 rfl).2.2 rfl (by have h9 := rf226; omega) (by have h9 := rf226; omega) (fun h245 g246 nh245 mh245 kh245 zh245 eh245 fh245 => ?_)
  have G247 : gSg [71, 72, 73, 74, 75, 76, 77, 78, 79, 80, 81, 85, 91, 92, 93, 94, 95, 96, 97, 98, 99, 200] [x] [] ty h tyq214 h245 := gSg.tr (gSg.ss G215 sS244 (by decide)) g246 (by decide) (by decide) (fun x hx => Or.inl (by rw [List.mem_singleton.mp hx]; exact gac150))
  have rw248 := gSg.raw g246 rw216.2.1 (fun w => nex_c150 (List.mem_singleton.mp w))
  have rf249 := (rw248.2.2.1.trans rf217)
  have rf250 := (rw248.2.2.2.trans rf218)
  have s251 := gSg.rawat g246 rw216.2.1 (fun w => nex_c150 (List.mem_singleton.mp w)) t219 (by decide) s228
  have s252 := gSg.rawat g246 rw216.2.1 (fun w => nex_c150 (List.mem_singleton.mp w)) t219 (by decide) s229
  have s253 := gSg.rawat g246 rw216.2.1 (fun w => nex_c150 (List.mem_singleton.mp w)) t219 (by decide) s230
  have s254 := gSg.rawat g246 rw216.2.1 (fun w => nex_c150 (List.mem_singleton.mp w)) t219 (by decide) s231
  have s255 := gSg.rawat g246 rw216.2.1 (fun w => nex_c150 (List.mem_singleton.mp w)) t219 (by decide) s232
  have s256 := gSg.rawat g246 rw216.2.1 (fun w => nex_c150 (List.mem_singleton.mp w)) t219 (by decide) s233
  have s257 := gSg.rawat g246 rw216.2.1 (fun w => nex_c150 (List.mem_singleton.mp w)) t219 (by decide) s234
  have s258 := gSg.rawat g246 rw216.2.1 (fun w => nex_c150 (List.mem_singleton.mp w)) t219 (by decide) s235
  have s259 := gSg.rawat g246 rw216.2.1 (fun w => nex_c150 (List.mem_singleton.mp w)) t219 (by decide) s236
  have s260 := gSg.rawat g246 rw216.2.1 (fun w => nex_c150 (List.mem_singleton.mp w)) t219 (by decide) s237
  have s261 := gSg.rawat g246 rw216.2.1 (fun w => nex_c150 (List.mem_singleton.mp w)) t219 (by decide) s238
  have s262 := gSg.rawat g246 rw216.2.1 (fun w => nex_c150 (List.mem_singleton.mp w)) t219 (by decide) s239
  have s263 := gSg.rawat g246 rw216.2.1 (fun w => nex_c150 (List.mem_singleton.mp w)) t219 (by decide) s240
  have s264 := gSg.rawat g246 rw216.2.1 (fun w => nex_c150 (List.mem_singleton.mp w)) t219 (by decide) s241
  have s265 := gSg.rawat g246 rw216.2.1 (fun w => nex_c150 (List.mem_singleton.mp w)) t219 (by decide) s242
  have sS266 : gSs rT 1027 tyq214 [] h245 h245 := gSs.rf g246.1
  have rf267 := Nat.lt_of_lt_of_eq rw224.2.1 nh245.symm
  have rf268 := (congrArg (fun n : Nat => (n : Int)) zh245).trans rf226
  refine gz_s 2 (pc' := 46) (L' := [some (.ref x), some (.ref s)]) (S' := [.int (zi 1), .ref c150, .ref c150, .ref x]) rfl ?_
  refine gs_newo rfl (by decide) rfl sS266.1 (Nat.le_of_lt (Nat.lt_of_le_of_lt (gJ.cell sS266.1 t220 rfl).1 (gJ.cell sS266.1 t220 rfl).2.1)) (fun ty269 h270 c271 g272 tc271 kc271 zc271 nc271 mc271 ec271 dc271 => ?_)
  have mfc271 : h270.2.1 = h245.2.1 + 9 := mc271
  have gac271 : h.1 ≤ c271 := by have h8 := G247.2.1; have h9 := sS266.2.1; omega
  have nnc271 : 1027 ≤ c271 := by have h8 := (Nat.le_of_lt (Nat.lt_of_le_of_lt (gJ.cell sS266.1 t220 rfl).1 (gJ.cell sS266.1 t220 rfl).2.1)); omega
  have llc271 : c271 < _ := by rw [nc271, ec271]; exact Nat.lt_succ_self _
  have nex_c271 : x ≠ c271 := by have h8 := rw248.2.1; omega
  have nec150_c271 : c150 ≠ c271 := by have h8 := rf267; omega
  have G273 : gSg [71, 72, 73, 74, 75, 76, 77, 78, 79, 80, 81, 85, 91, 92, 93, 94, 95, 96, 97, 98, 99, 200] [x] [] ty h ty269 h270 := gSg.tr (gSg.ss G247 sS266 (by decide)) g272 (by decide) (by decide) (fun x hx => by cases hx)
  have rw274 := gSg.raw g272 rw248.2.1 (fun w => by cases w)
  have rf275 := (rw274.2.2.1.trans rf249)
  have rf276 := (rw274.2.2.2.trans rf250)
  have t277 : ty269 x = 200 := rw274.1.trans t219
  have t278 : ty269 s = 56 := gSg.typ g272 sS266.1 t220 rfl
  have t279 : ty269 c3 = 72 := gSg.typ g272 sS266.1 t221 rfl
  have t280 : ty269 c51 = 73 := gSg.typ g272 sS266.1 t222 rfl
  have t281 : ty269 c100 = 74 := gSg.typ g272 sS266.1 t223 rfl
  have rw282 := gSg.raw g272 rf267 (fun w => by cases w)
  have rf283 := (rw282.2.2.1.trans kh245)
  have rf284 := ((congrArg (fun n : Nat => (n : Int)) rw282.2.2.2).trans rf268)
  have t285 : ty269 c150 = 200 := rw282.1.trans t227
  have t286 : ty269 c181 = 91 := gSg.typ g272 sS266.1 trq214_0 rfl
  have s287 := gSg.rawat g272 rw248.2.1 (fun w => by cases w) t219 (by decide) s251
  have s288 := gSg.rawat g272 rw248.2.1 (fun w => by cases w) t219 (by decide) s252
  have s289 := gSg.rawat g272 rw248.2.1 (fun w => by cases w) t219 (by decide) s253
  have s290 := gSg.rawat g272 rw248.2.1 (fun w => by cases w) t219 (by decide) s254
  have s291 := gSg.rawat g272 rw248.2.1 (fun w => by cases w) t219 (by decide) s255
  have s292 := gSg.rawat g272 rw248.2.1 (fun w => by cases w) t219 (by decide) s256
  have s293 := gSg.rawat g272 rw248.2.1 (fun w => by cases w) t219 (by decide) s257
  have s294 := gSg.rawat g272 rw248.2.1 (fun w => by cases w) t219 (by decide) s258
  have s295 := gSg.rawat g272 rw248.2.1 (fun w => by cases w) t219 (by decide) s259
  have s296 := gSg.rawat g272 rw248.2.1 (fun w => by cases w) t219 (by decide) s260
  have s297 := gSg.rawat g272 rw248.2.1 (fun w => by cases w) t219 (by decide) s261
  have s298 := gSg.rawat g272 rw248.2.1 (fun w => by cases w) t219 (by decide) s262
  have s299 := gSg.rawat g272 rw248.2.1 (fun w => by cases w) t219 (by decide) s263
  have s300 := gSg.rawat g272 rw248.2.1 (fun w => by cases w) t219 (by decide) s264
  have s301 := gSg.rawat g272 rw248.2.1 (fun w => by cases w) t219 (by decide) s265
  have s302 := gSg.rawat g272 rf267 (fun w => by cases w) t227 (by decide) eh245
  have pr303 : gNo [71, 75, 76, 77, 78, 79, 80, 81, 85, 92] ty269 := gNo.gr g272 (by decide) (gNo.sub (by decide) pr243)
  have uq304 := gSg.uq g272 uqq214 (by decide)
  have sS305 : gSs rT 1027 ty269 [] h270 h270 := gSs.rf g272.1
  refine gz_s 1 (pc' := 50) (L' := [some (.ref x), some (.ref s)]) (S' := [.ref c271, .ref c271, .int (zi 1), .ref c150, .ref c150, .ref x]) rfl ?_
  refine gz_call rfl (by decide) rfl (by decide) (by decide) (gcal_of rfl rfl rfl (Nat.le_of_ble_eq_true rfl) rfl) (ct_Suited1 _ sS305.1 c271 tc271 nnc271 llc271 kc271 zc271 dc271 (gNo.sub (by decide) pr303) uq304) (fun q306 _ wq306 => ?_)
  obtain ⟨pq306, oq306, hq306⟩ := q306
  obtain ⟨tyq306, xq306, trq306_0, gq306, uq306_0, uq306_1, uqq306⟩ := wq306
  dsimp only at uq306_0 uq306_1
  refine ⟨_, gq306, ?_⟩
  show gz gPP gGG gcn _ _ 53 [some (.ref x), some (.ref s)] [.ref c271, .int (zi 1), .ref c150, .ref c150, .ref x] hq306 _
  have G307 : gSg [71, 72, 73, 74, 75, 76, 77, 78, 79, 80, 81, 85, 91, 92, 93, 94, 95, 96, 97, 98, 99, 200] [x] [] ty h tyq306 hq306 := gSg.tr (gSg.ss G273 sS305 (by decide)) xq306 (by decide) (by decide) (fun x hx => Or.inl (by rw [List.mem_singleton.mp hx]; exact gac271))
  have rw308 := gSg.raw xq306 rw274.2.1 (fun w => nex_c271 (List.mem_singleton.mp w))
  have rf309 := (rw308.2.2.1.trans rf275)
  have rf310 := (rw308.2.2.2.trans rf276)
  have t311 : tyq306 x = 200 := rw308.1.trans t277
  have t312 : tyq306 s = 56 := gSg.typ xq306 sS305.1 t278 rfl
  have t313 : tyq306 c3 = 72 := gSg.typ xq306 sS305.1 t279 rfl
  have t314 : tyq306 c51 = 73 := gSg.typ xq306 sS305.1 t280 rfl
  have t315 : tyq306 c100 = 74 := gSg.typ xq306 sS305.1 t281 rfl
  have rw316 := gSg.raw xq306 rw282.2.1 (fun w => nec150_c271 (List.mem_singleton.mp w))
  have rf317 := (rw316.2.2.1.trans rf283)
  have rf318 := ((congrArg (fun n : Nat => (n : Int)) rw316.2.2.2).trans rf284)
  have t319 : tyq306 c150 = 200 := rw316.1.trans t285
  have t320 : tyq306 c181 = 91 := gSg.typ xq306 sS305.1 t286 rfl
  have s321 := gSg.rawat xq306 rw274.2.1 (fun w => nex_c271 (List.mem_singleton.mp w)) t277 (by decide) s287
  have s322 := gSg.rawat xq306 rw274.2.1 (fun w => nex_c271 (List.mem_singleton.mp w)) t277 (by decide) s288
  have s323 := gSg.rawat xq306 rw274.2.1 (fun w => nex_c271 (List.mem_singleton.mp w)) t277 (by decide) s289
  have s324 := gSg.rawat xq306 rw274.2.1 (fun w => nex_c271 (List.mem_singleton.mp w)) t277 (by decide) s290
  have s325 := gSg.rawat xq306 rw274.2.1 (fun w => nex_c271 (List.mem_singleton.mp w)) t277 (by decide) s291
  have s326 := gSg.rawat xq306 rw274.2.1 (fun w => nex_c271 (List.mem_singleton.mp w)) t277 (by decide) s292
  have s327 := gSg.rawat xq306 rw274.2.1 (fun w => nex_c271 (List.mem_singleton.mp w)) t277 (by decide) s293
  have s328 := gSg.rawat xq306 rw274.2.1 (fun w => nex_c271 (List.mem_singleton.mp w)) t277 (by decide) s294
  have s329 := gSg.rawat xq306 rw274.2.1 (fun w => nex_c271 (List.mem_singleton.mp w)) t277 (by decide) s295
  have s330 := gSg.rawat xq306 rw274.2.1 (fun w => nex_c271 (List.mem_singleton.mp w)) t277 (by decide) s296
  have s331 := gSg.rawat xq306 rw274.2.1 (fun w => nex_c271 (List.mem_singleton.mp w)) t277 (by decide) s297
  have s332 := gSg.rawat xq306 rw274.2.1 (fun w => nex_c271 (List.mem_singleton.mp w)) t277 (by decide) s298
  have s333 := gSg.rawat xq306 rw274.2.1 (fun w => nex_c271 (List.mem_singleton.mp w)) t277 (by decide) s299
  have s334 := gSg.rawat xq306 rw274.2.1 (fun w => nex_c271 (List.mem_singleton.mp w)) t277 (by decide) s300
  have s335 := gSg.rawat xq306 rw274.2.1 (fun w => nex_c271 (List.mem_singleton.mp w)) t277 (by decide) s301
  have s336 := gSg.rawat xq306 rw282.2.1 (fun w => nec150_c271 (List.mem_singleton.mp w)) t285 (by decide) s302
  have pr337 : gNo [71, 75] tyq306 := gNo.gr xq306 (by decide) (gNo.sub (by decide) pr303)
  have sS338 : gSs rT 1027 tyq306 [] hq306 hq306 := gSs.rf xq306.1
  refine gs_rast (j := 1) rfl (by decide) sS338.1 t319 nnc150 rw316.2.1 rf317 rfl (gJ.cell sS338.1 trq306_0 rfl).1 (gJ.cell sS338.1 trq306_0 rfl).2.1 (gJ.cell sS338.1 trq306_0 rfl).2.2 rfl (by have h9 := rf318; omega) (by have h9 := rf318; omega) (fun h339 g340 nh339 mh339 kh339 zh339 eh339 fh339 => ?_)
  have G341 : gSg [71, 72, 73, 74, 75, 76, 77, 78, 79, 80, 81, 85, 91, 92, 93, 94, 95, 96, 97, 98, 99, 200] [x] [] ty h tyq306 h339 := gSg.tr (gSg.ss G307 sS338 (by decide)) g340 (by decide) (by decide) (fun x hx => Or.inl (by rw [List.mem_singleton.mp hx]; exact gac150))
  have rw342 := gSg.raw g340 rw308.2.1 (fun w => nex_c150 (List.mem_singleton.mp w))
  have rf343 := (rw342.2.2.1.trans rf309)
  have rf344 := (rw342.2.2.2.trans rf310)
  have s345 := gSg.rawat g340 rw308.2.1 (fun w => nex_c150 (List.mem_singleton.mp w)) t311 (by decide) s321
  have s346 := gSg.rawat g340 rw308.2.1 (fun w => nex_c150 (List.mem_singleton.mp w)) t311 (by decide) s322
  have s347 := gSg.rawat g340 rw308.2.1 (fun w => nex_c150 (List.mem_singleton.mp w)) t311 (by decide) s323
  have s348 := gSg.rawat g340 rw308.2.1 (fun w => nex_c150 (List.mem_singleton.mp w)) t311 (by decide) s324
  have s349 := gSg.rawat g340 rw308.2.1 (fun w => nex_c150 (List.mem_singleton.mp w)) t311 (by decide) s325
  have s350 := gSg.rawat g340 rw308.2.1 (fun w => nex_c150 (List.mem_singleton.mp w)) t311 (by decide) s326
  have s351 := gSg.rawat g340 rw308.2.1 (fun w => nex_c150 (List.mem_singleton.mp w)) t311 (by decide) s327
  have s352 := gSg.rawat g340 rw308.2.1 (fun w => nex_c150 (List.mem_singleton.mp w)) t311 (by decide) s328
  have s353 := gSg.rawat g340 rw308.2.1 (fun w => nex_c150 (List.mem_singleton.mp w)) t311 (by decide) s329
  have s354 := gSg.rawat g340 rw308.2.1 (fun w => nex_c150 (List.mem_singleton.mp w)) t311 (by decide) s330
  have s355 := gSg.rawat g340 rw308.2.1 (fun w => nex_c150 (List.mem_singleton.mp w)) t311 (by decide) s331
  have s356 := gSg.rawat g340 rw308.2.1 (fun w => nex_c150 (List.mem_singleton.mp w)) t311 (by decide) s332
  have s357 := gSg.rawat g340 rw308.2.1 (fun w => nex_c150 (List.mem_singleton.mp w)) t311 (by decide) s333
  have s358 := gSg.rawat g340 rw308.2.1 (fun w => nex_c150 (List.mem_singleton.mp w)) t311 (by decide) s334
  have s359 := gSg.rawat g340 rw308.2.1 (fun w => nex_c150 (List.mem_singleton.mp w)) t311 (by decide) s335
  have sS360 : gSs rT 1027 tyq306 [] h339 h339 := gSs.rf g340.1
  have rf361 := Nat.lt_of_lt_of_eq rw316.2.1 nh339.symm
  have rf362 := (congrArg (fun n : Nat => (n : Int)) zh339).trans rf318
  have s363 := (fh339 0 (by decide)).trans s336
  refine gs_rput rfl (by decide) rfl sS360.1 t311 nx rw342.2.1 rf343 rfl (Or.inr rfl) (fun h364 g365 nh364 mh364 kh364 zh364 eh364 fh364 => ?_)
  have G366 : gSg [71, 72, 73, 74, 75, 76, 77, 78, 79, 80, 81, 85, 91, 92, 93, 94, 95, 96, 97, 98, 99, 200] [x] [] ty h tyq306 h364 := gSg.tr (gSg.ss G341 sS360 (by decide)) g365 (by decide) (by decide) (fun x hx => Or.inr hx)
  have rw367 := gSg.raw g365 rf361 (fun w => nex_c150.symm (List.mem_singleton.mp w))
  have rf368 := (rw367.2.2.1.trans kh339)
  have rf369 := ((congrArg (fun n : Nat => (n : Int)) rw367.2.2.2).trans rf362)
  have s370 := gSg.rawat g365 rf361 (fun w => nex_c150.symm (List.mem_singleton.mp w)) t319 (by decide) s363
  have s371 := gSg.rawat g365 rf361 (fun w => nex_c150.symm (List.mem_singleton.mp w)) t319 (by decide) eh339
  have sS372 : gSs rT 1027 tyq306 [] h364 h364 := gSs.rf g365.1
  have rf373 := Nat.lt_of_lt_of_eq rw342.2.1 nh364.symm
  have rf374 := zh364.trans rf344
  have s375 := (fh364 0 (by decide)).trans s345
  have s376 := (fh364 5 (by decide)).trans s347
  have s377 := (fh364 6 (by decide)).trans s348
  have s378 := (fh364 7 (by decide)).trans s349
  have s379 := (fh364 8 (by decide)).trans s350
  have s380 := (fh364 9 (by decide)).trans s351
  have s381 := (fh364 10 (by decide)).trans s352
  have s382 := (fh364 11 (by decide)).trans s353
  have s383 := (fh364 12 (by decide)).trans s354
  have s384 := (fh364 13 (by decide)).trans s355
  have s385 := (fh364 14 (by decide)).trans s356
  have s386 := (fh364 1 (by decide)).trans s357
  have s387 := (fh364 2 (by decide)).trans s358
  have s388 := (fh364 3 (by decide)).trans s359
  refine gz_s 2 (pc' := 59) (L' := [some (.ref x), some (.ref s)]) (S' := [.ref s, .ref x]) rfl ?_
  refine gs_rput rfl (by decide) rfl sS372.1 t311 nx rf373 kh364 rfl (Or.inr rfl) (fun h389 g390 nh389 mh389 kh389 zh389 eh389 fh389 => ?_)
  have G391 : gSg [71, 72, 73, 74, 75, 76, 77, 78, 79, 80, 81, 85, 91, 92, 93, 94, 95, 96, 97, 98, 99, 200] [x] [] ty h tyq306 h389 := gSg.tr (gSg.ss G366 sS372 (by decide)) g390 (by decide) (by decide) (fun x hx => Or.inr hx)
  have rw392 := gSg.raw g390 rw367.2.1 (fun w => nex_c150.symm (List.mem_singleton.mp w))
  have rf393 := (rw392.2.2.1.trans rf368)
  have rf394 := ((congrArg (fun n : Nat => (n : Int)) rw392.2.2.2).trans rf369)
  have s395 := gSg.rawat g390 rw367.2.1 (fun w => nex_c150.symm (List.mem_singleton.mp w)) t319 (by decide) s370
  have s396 := gSg.rawat g390 rw367.2.1 (fun w => nex_c150.symm (List.mem_singleton.mp w)) t319 (by decide) s371
  have sS397 : gSs rT 1027 tyq306 [] h389 h389 := gSs.rf g390.1
  have rf398 := Nat.lt_of_lt_of_eq rf373 nh389.symm
  have rf399 := zh389.trans rf374
  have s400 := (fh389 5 (by decide)).trans s376
  have s401 := (fh389 6 (by decide)).trans s377
  have s402 := (fh389 7 (by decide)).trans s378
  have s403 := (fh389 8 (by decide)).trans s379
  have s404 := (fh389 9 (by decide)).trans s380
  have s405 := (fh389 10 (by decide)).trans s381
  have s406 := (fh389 11 (by decide)).trans s382
  have s407 := (fh389 12 (by decide)).trans s383
  have s408 := (fh389 13 (by decide)).trans s384
  have s409 := (fh389 14 (by decide)).trans s385
  have s410 := (fh389 1 (by decide)).trans s386
  have s411 := (fh389 2 (by decide)).trans s387
  have s412 := (fh389 3 (by decide)).trans s388
  have s413 := (fh389 4 (by decide)).trans eh364
  obtain ⟨ty415, g414, tg414, ug414⟩ := gSg.adx 75 sS397.1 t319 nnc150 rw392.2.1 rfl rf393 (by show (2 : Nat) ≤ _; have h9 := rf394; omega) (by show _ ≤ (2 : Nat); have h9 := rf394; omega) (fun ty9 w9 k hk => ad75 (by rw [s395]; exact ⟨c181, rfl, w9 c181 _ t320 (by decide)⟩) (by rw [s396]; exact ⟨c271, rfl, w9 c271 _ trq306_0 (by decide)⟩) k (by have h8 : k < h389.2.2.2.1 c150 := hk; have h9 := rf394; omega))
  have uq416 := ug414 uqq306 (Or.inr (gNo.sub (by decide) pr337))
  have G417 : gSg [71, 72, 73, 74, 75, 76, 77, 78, 79, 80, 81, 85, 91, 92, 93, 94, 95, 96, 97, 98, 99, 200] [x] [] ty h ty415 h389 := gSg.tr (gSg.ss G391 sS397 (by decide)) g414 (by decide) (by decide) (fun x hx => Or.inl (by rw [List.mem_singleton.mp hx]; exact gac150))
  have rw418 := gSg.raw g414 rf398 (fun w => nex_c150 (List.mem_singleton.mp w))
  have rf419 := (rw418.2.2.1.trans kh389)
  have rf420 := (rw418.2.2.2.trans rf399)
  have t421 : ty415 x = 200 := rw418.1.trans t311
  have t422 : ty415 s = 56 := gSg.typ g414 sS397.1 t312 rfl
  have t423 : ty415 c3 = 72 := gSg.typ g414 sS397.1 t313 rfl
  have t424 : ty415 c51 = 73 := gSg.typ g414 sS397.1 t314 rfl
  have t425 : ty415 c100 = 74 := gSg.typ g414 sS397.1 t315 rfl
  have t426 : ty415 c181 = 91 := gSg.typ g414 sS397.1 t320 rfl
  have t427 : ty415 c271 = 92 := gSg.typ g414 sS397.1 trq306_0 rfl
  have pr428 : gNo [71] ty415 := gNo.gr g414 (by decide) (gNo.sub (by decide) pr337)
  have sS429 : gSs rT 1027 ty415 [] h389 h389 := gSs.rf g414.1
  obtain ⟨ty431, g430, tg430, ug430⟩ := gSg.adx 71 sS429.1 t421 nx rw418.2.1 rfl rf419 (by show (0 : Nat) ≤ _; have h9 := rf420; omega) (by show _ ≤ (0 : Nat); have h9 := rf420; omega) (fun ty9 w9 k hk => ad71 (by rw [eh389]; exact ⟨s, rfl, w9 s _ t422 (by decide)⟩) (by rw [s410]; exact ⟨c3, rfl, w9 c3 _ t423 (by decide)⟩) (by rw [s411]; exact ⟨c51, rfl, w9 c51 _ t424 (by decide)⟩) (by rw [s412]; exact ⟨c100, rfl, w9 c100 _ t425 (by decide)⟩) (by rw [s413]; exact ⟨c150, rfl, w9 c150 _ tg414 (by decide)⟩) (by rw [s400]; exact ⟨0, rfl, by show (0 : Int) ≤ _; omega, by show _ ≤ (16 : Int); omega⟩) (by rw [s401]; exact ⟨0, rfl, by show (0 : Int) ≤ _; omega, by show _ ≤ (100 : Int); omega⟩) (by rw [s402]; exact ⟨0, rfl, by show (0 : Int) ≤ _; omega, by show _ ≤ (63 : Int); omega⟩) (by rw [s403]; exact ⟨0, rfl, by show (0 : Int) ≤ _; omega, by show _ ≤ (63 : Int); omega⟩) (by rw [s404]; exact ⟨0, rfl, by show (0 : Int) ≤ _; omega, by show _ ≤ (4 : Int); omega⟩) (by rw [s405]; exact ⟨0, rfl, by show (0 : Int) ≤ _; omega, by show _ ≤ (3 : Int); omega⟩) (by rw [s406]; exact ⟨0, rfl, by show (0 : Int) ≤ _; omega, by show _ ≤ (1 : Int); omega⟩) (by rw [s407]; exact ⟨0, rfl, by show ((-2048) : Int) ≤ _; omega, by show _ ≤ (2048 : Int); omega⟩) (by rw [s408]; exact ⟨0, rfl, by show ((-9223372036854775808) : Int) ≤ _; omega, by show _ ≤ (9223372036854775807 : Int); omega⟩) (by rw [s409]; exact ⟨0, rfl, by show (0 : Int) ≤ _; omega, by show _ ≤ (64 : Int); omega⟩) k)
  have uq432 := ug430 uq416 (Or.inr pr428)
  have G433 : gSg [71, 72, 73, 74, 75, 76, 77, 78, 79, 80, 81, 85, 91, 92, 93, 94, 95, 96, 97, 98, 99, 200] [x] [] ty h ty431 h389 := gSg.tr (gSg.ss G417 sS429 (by decide)) g430 (by decide) (by decide) (fun x hx => Or.inr hx)
  have t434 : ty431 s = 56 := gSg.typ g430 sS429.1 t422 rfl
  have t435 : ty431 c3 = 72 := gSg.typ g430 sS429.1 t423 rfl
  have t436 : ty431 c51 = 73 := gSg.typ g430 sS429.1 t424 rfl
  have t437 : ty431 c100 = 74 := gSg.typ g430 sS429.1 t425 rfl
  have t438 : ty431 c150 = 75 := gSg.typ g430 sS429.1 tg414 rfl
  have t439 : ty431 c181 = 91 := gSg.typ g430 sS429.1 t426 rfl
  have t440 : ty431 c271 = 92 := gSg.typ g430 sS429.1 t427 rfl
  have sS441 : gSs rT 1027 ty431 [] h389 h389 := gSs.rf g430.1
  have G442 : gSg [71, 72, 73, 74, 75, 76, 77, 78, 79, 80, 81, 85, 91, 92, 93, 94, 95, 96, 97, 98, 99, 200] [x] [] ty h ty431 h389 := gSg.ss G433 sS441 (by decide)
  exact gz_end (I := .return_) (len := 1) rfl (Or.inl rfl) ⟨ty431, G442, tg430, rfl, (by dsimp only; omega), (by dsimp only; omega), uq432⟩
set_option maxRecDepth 20000 in
set_option maxHeartbeats 4000000 in
theorem ct_Collected (d : Nat) {ty : Nat → Nat} {h : gH} (hJ : gJ rT 1027 ty h) (x : Nat) (tx : ty x = 200) (nx : 1027 ≤ x) (lx : x < h.1) (kx : h.2.2.1 x = some (.inr 3)) (zx : h.2.2.2.1 x = 0) (dx : ∀ k, h.2.2.2.2 x k = defaultValue (gGG.2.1 3 k)) (no0 : gNo [51, 52] ty) (uq : gUq ty) : gz gPP gGG gcn (d + 1) gt1 0 (gent [.ref x] 1) [] h (fun q _ => ∃ ty9 : Nat → Nat, gSg [51, 52, 200] [x] [] ty h ty9 q.2.2 ∧ ∃ sz : Int, ty9 x = 51 ∧ gfin gt1 q.1 q.2.1 = some none ∧ q.2.2.2.2.2.2 x 1 = .int (zi sz) ∧ 0 ≤ sz ∧ sz ≤ 2000 ∧ ((q.2.2.1 : Int) = h.1 + 1) ∧ ((q.2.2.2.1 : Int) = h.2.1 + 2000) ∧ gUq ty9) := by
  have hS : gSs rT 1027 ty [] h h := gSs.rf hJ
  have G0 : gSg [51, 52, 200] [x] [] ty h ty h := gSg.rf hJ (fun x hx => by rw [List.mem_singleton.mp hx, tx]; rfl)
  refine gz_s 1 (pc' := 1) (L' := [some (.ref x)]) (S' := [.ref x]) rfl ?_
  refine gz_obj rfl (by decide) (by omega) rfl (by decide) ?_
  refine gz_s 2 (pc' := 8) (L' := [some (.ref x)]) (S' := [.int (zi 2000), .ref x]) rfl ?_
  refine gs_newr 52 rfl (by decide) rfl hS.1 (Nat.le_of_lt (Nat.lt_of_le_of_lt nx lx)) (by omega) (by omega) rfl rfl (by show (2000 : Int) ≤ _; omega) (by show _ ≤ (2000 : Int); omega) (fun _ _ => gos_i (by decide) (by decide)) (fun ty1 h2 c3 g4 tc3 lc3 nc3 mc3 ec3 dc3 uc3 => ?_)
  have gac3 : h.1 ≤ c3 := by have h8 := G0.2.1; have h9 := hS.2.1; omega
  have uq5 := uc3 uq (Or.inr (gNo.sub (by decide) no0))
  have G6 : gSg [51, 52, 200] [x] [] ty h ty1 h2 := gSg.tr (gSg.ss G0 hS (by decide)) g4 (by decide) (by decide) (fun x hx => by cases hx)
  have rw7 := gSg.raw g4 lx (fun w => by cases w)
  have rf8 := (rw7.2.2.1.trans kx)
  have rf9 := (rw7.2.2.2.trans zx)
  have t10 : ty1 x = 200 := rw7.1.trans tx
  have s11 := gSg.rawat g4 lx (fun w => by cases w) tx (by decide) (show h.2.2.2.2 x 0 = .null from dx 0)
  have s12 := gSg.rawat g4 lx (fun w => by cases w) tx (by decide) (show h.2.2.2.2 x 1 = .int (zi 0) from dx 1)
  have pr13 : gNo [51] ty1 := gNo.gr g4 (by decide) (gNo.sub (by decide) no0)
  have sS14 : gSs rT 1027 ty1 [] h2 h2 := gSs.rf g4.1
  refine gs_rput rfl (by decide) rfl sS14.1 t10 nx rw7.2.1 rf8 rfl (Or.inr rfl) (fun h15 g16 nh15 mh15 kh15 zh15 eh15 fh15 => ?_)
  have G17 : gSg [51, 52, 200] [x] [] ty h ty1 h15 := gSg.tr (gSg.ss G6 sS14 (by decide)) g16 (by decide) (by decide) (fun x hx => Or.inr hx)
  have sS18 : gSs rT 1027 ty1 [] h15 h15 := gSs.rf g16.1
  have rf19 := Nat.lt_of_lt_of_eq rw7.2.1 nh15.symm
  have rf20 := zh15.trans rf9
  have s21 := (fh15 1 (by decide)).trans s12
  obtain ⟨ty23, g22, tg22, ug22⟩ := gSg.adx 51 sS18.1 t10 nx rf19 rfl kh15 (by show (0 : Nat) ≤ _; have h9 := rf20; omega) (by show _ ≤ (0 : Nat); have h9 := rf20; omega) (fun ty9 w9 k hk => ad51 (by rw [eh15]; exact ⟨c3, rfl, w9 c3 _ tc3 (by decide)⟩) (by rw [s21]; exact ⟨0, rfl, by show (0 : Int) ≤ _; omega, by show _ ≤ (2000 : Int); omega⟩) k)
  have uq24 := ug22 uq5 (Or.inr pr13)
  have G25 : gSg [51, 52, 200] [x] [] ty h ty23 h15 := gSg.tr (gSg.ss G17 sS18 (by decide)) g22 (by decide) (by decide) (fun x hx => Or.inr hx)
  have t26 : ty23 c3 = 52 := gSg.typ g22 sS18.1 tc3 rfl
  have sS27 : gSs rT 1027 ty23 [] h15 h15 := gSs.rf g22.1
  have G28 : gSg [51, 52, 200] [x] [] ty h ty23 h15 := gSg.ss G25 sS27 (by decide)
  exact gz_end (I := .return_) (len := 1) rfl (Or.inl rfl) ⟨ty23, G28, 0, tg22, rfl, s21, (by omega), (by omega), (by dsimp only; omega), (by dsimp only; omega), uq24⟩
set_option maxRecDepth 20000 in
set_option maxHeartbeats 4000000 in
theorem ct_Sink (d : Nat) {ty : Nat → Nat} {h : gH} (hJ : gJ rT 1027 ty h) (x : Nat) (tx : ty x = 200) (nx : 1027 ≤ x) (lx : x < h.1) (kx : h.2.2.1 x = some (.inr 8)) (zx : h.2.2.2.1 x = 0) (dx : ∀ k, h.2.2.2.2 x k = defaultValue (gGG.2.1 8 k)) (no0 : gNo [56] ty) (uq : gUq ty) : gz gPP gGG gcn (d + 1) gt6 0 (gent [.ref x] 1) [] h (fun q _ => ∃ ty9 : Nat → Nat, gSg [56, 114, 200] [x] [] ty h ty9 q.2.2 ∧ ∃ bt2 : Nat, True ∧ ∃ c1 : Int, q.2.2.2.2.2.2 x 0 = .ref bt2 ∧ ty9 bt2 = 114 ∧ ty9 x = 56 ∧ gfin gt6 q.1 q.2.1 = some none ∧ q.2.2.2.2.2.2 x 1 = .int (zi c1) ∧ 0 ≤ c1 ∧ c1 ≤ 500000 ∧ ((q.2.2.1 : Int) = h.1 + 1) ∧ ((q.2.2.2.1 : Int) = h.2.1 + 1024) ∧ (c1 = 0) ∧ (((q.2.2.2.2.2.1 bt2 : Int) = 1024)) ∧ gUq ty9) := by
  have hS : gSs rT 1027 ty [] h h := gSs.rf hJ
  have G0 : gSg [56, 114, 200] [x] [] ty h ty h := gSg.rf hJ (fun x hx => by rw [List.mem_singleton.mp hx, tx]; rfl)
  refine gz_s 1 (pc' := 1) (L' := [some (.ref x)]) (S' := [.ref x]) rfl ?_
  refine gz_obj rfl (by decide) (by omega) rfl (by decide) ?_
  refine gz_s 2 (pc' := 8) (L' := [some (.ref x)]) (S' := [.int (zi 1024), .ref x]) rfl ?_
  refine gs_newr 114 rfl (by decide) rfl hS.1 (Nat.le_of_lt (Nat.lt_of_le_of_lt nx lx)) (by omega) (by omega) rfl rfl (by show (1024 : Int) ≤ _; omega) (by show _ ≤ (1000000 : Int); omega) (fun _ _ => gos_i (by decide) (by decide)) (fun ty1 h2 c3 g4 tc3 lc3 nc3 mc3 ec3 dc3 uc3 => ?_)
  have gac3 : h.1 ≤ c3 := by have h8 := G0.2.1; have h9 := hS.2.1; omega
  have uq5 := uc3 uq (Or.inl (by decide))
  have G6 : gSg [56, 114, 200] [x] [] ty h ty1 h2 := gSg.tr (gSg.ss G0 hS (by decide)) g4 (by decide) (by decide) (fun x hx => by cases hx)
  have rw7 := gSg.raw g4 lx (fun w => by cases w)
  have rf8 := (rw7.2.2.1.trans kx)
  have rf9 := (rw7.2.2.2.trans zx)
  have t10 : ty1 x = 200 := rw7.1.trans tx
  have s11 := gSg.rawat g4 lx (fun w => by cases w) tx (by decide) (show h.2.2.2.2 x 0 = .null from dx 0)
  have s12 := gSg.rawat g4 lx (fun w => by cases w) tx (by decide) (show h.2.2.2.2 x 1 = .int (zi 0) from dx 1)
  have s13 := gSg.rawat g4 lx (fun w => by cases w) tx (by decide) (show h.2.2.2.2 x 2 = .int (zi 0) from dx 2)
  have s14 := gSg.rawat g4 lx (fun w => by cases w) tx (by decide) (show h.2.2.2.2 x 3 = .int (zi 0) from dx 3)
  have pr15 : gNo [56] ty1 := gNo.gr g4 (by decide) (gNo.sub (by decide) no0)
  have sS16 : gSs rT 1027 ty1 [] h2 h2 := gSs.rf g4.1
  refine gs_rput rfl (by decide) rfl sS16.1 t10 nx rw7.2.1 rf8 rfl (Or.inl rfl) (fun h17 g18 nh17 mh17 kh17 zh17 eh17 fh17 => ?_)
  have G19 : gSg [56, 114, 200] [x] [] ty h ty1 h17 := gSg.tr (gSg.ss G6 sS16 (by decide)) g18 (by decide) (by decide) (fun x hx => Or.inr hx)
  have hl20 : h17.2.2.2.1 c3 = h2.2.2.2.1 c3 := gSg.len g18 sS16.1 tc3 rfl
  have sS21 : gSs rT 1027 ty1 [] h17 h17 := gSs.rf g18.1
  have rf22 := Nat.lt_of_lt_of_eq rw7.2.1 nh17.symm
  have rf23 := zh17.trans rf9
  have s24 := (fh17 1 (by decide)).trans s12
  have s25 := (fh17 2 (by decide)).trans s13
  have s26 := (fh17 3 (by decide)).trans s14
  obtain ⟨ty28, g27, tg27, ug27⟩ := gSg.adx 56 sS21.1 t10 nx rf22 rfl kh17 (by show (0 : Nat) ≤ _; have h9 := rf23; omega) (by show _ ≤ (0 : Nat); have h9 := rf23; omega) (fun ty9 w9 k hk => ad56 (by rw [eh17]; exact ⟨c3, rfl, w9 c3 _ tc3 (by decide)⟩) (by rw [s24]; exact ⟨0, rfl, by show (0 : Int) ≤ _; omega, by show _ ≤ (500000 : Int); omega⟩) (by rw [s25]; exact ⟨0, rfl, by show ((-2147483648) : Int) ≤ _; omega, by show _ ≤ (2147483647 : Int); omega⟩) (by rw [s26]; exact ⟨0, rfl, by show (0 : Int) ≤ _; omega, by show _ ≤ (8 : Int); omega⟩) k)
  have uq29 := ug27 uq5 (Or.inr pr15)
  have G30 : gSg [56, 114, 200] [x] [] ty h ty28 h17 := gSg.tr (gSg.ss G19 sS21 (by decide)) g27 (by decide) (by decide) (fun x hx => Or.inr hx)
  have t31 : ty28 c3 = 114 := gSg.typ g27 sS21.1 tc3 rfl
  have sS32 : gSs rT 1027 ty28 [] h17 h17 := gSs.rf g27.1
  have hl33 : 1024 ≤ h17.2.2.2.1 c3 ∧ h17.2.2.2.1 c3 ≤ 1000000 := gJ.rowl (G := gGG) sS32.1 t31 rfl
  have G34 : gSg [56, 114, 200] [x] [] ty h ty28 h17 := gSg.ss G30 sS32 (by decide)
  exact gz_end (I := .return_) (len := 1) rfl (Or.inl rfl) ⟨ty28, G34, c3, trivial, 0, eh17, t31, tg27, rfl, s24, (by omega), (by omega), (by dsimp only; omega), (by dsimp only; omega), (by omega), (by dsimp only; omega), uq29⟩
set_option maxRecDepth 20000 in
set_option maxHeartbeats 4000000 in
theorem ct_Draft (d : Nat) {ty : Nat → Nat} {h : gH} (hJ : gJ rT 1027 ty h) (x : Nat) (tx : ty x = 200) (nx : 1027 ≤ x) (lx : x < h.1) (kx : h.2.2.1 x = some (.inr 4)) (zx : h.2.2.2.1 x = 0) (dx : ∀ k, h.2.2.2.2 x k = defaultValue (gGG.2.1 4 k)) (no0 : gNo [55, 59, 60, 61, 62, 63, 64] ty) (uq : gUq ty) : gz gPP gGG gcn (d + 2) gt4 0 (gent [.ref x] 1) [] h (fun q _ => ∃ ty9 : Nat → Nat, gSg [55, 59, 60, 61, 62, 63, 64, 200] [x] [64999] ty h ty9 q.2.2 ∧ ∃ n1 iv1 : Int, ty9 x = 55 ∧ gfin gt4 q.1 q.2.1 = some none ∧ q.2.2.2.2.2.2 x 8 = .int (zi n1) ∧ 0 ≤ n1 ∧ n1 ≤ 10 ∧ q.2.2.2.2.2.2 x 3 = .int (zi iv1) ∧ 0 ≤ iv1 ∧ iv1 ≤ 100 ∧ ((q.2.2.1 : Int) = h.1 + 6) ∧ ((q.2.2.2.1 : Int) = h.2.1 + 1128) ∧ (n1 = 0) ∧ (iv1 = 0) ∧ (gTc ty9 0 q.2.2) ∧ gUq ty9) := by
  have hS : gSs rT 1027 ty [64999] h h := gSs.rf hJ
  have G0 : gSg [55, 59, 60, 61, 62, 63, 64, 200] [x] [64999] ty h ty h := gSg.rf hJ (fun x hx => by rw [List.mem_singleton.mp hx, tx]; rfl)
  refine gz_s 1 (pc' := 1) (L' := [some (.ref x)]) (S' := [.ref x]) rfl ?_
  refine gz_obj rfl (by decide) (by omega) rfl (by decide) ?_
  refine gz_s 2 (pc' := 8) (L' := [some (.ref x)]) (S' := [.int (zi 1024), .ref x]) rfl ?_
  refine gs_newr 59 rfl (by decide) rfl hS.1 (Nat.le_of_lt (Nat.lt_of_le_of_lt nx lx)) (by omega) (by omega) rfl rfl (by show (1024 : Int) ≤ _; omega) (by show _ ≤ (1024 : Int); omega) (fun _ _ => gos_i (by decide) (by decide)) (fun ty1 h2 c3 g4 tc3 lc3 nc3 mc3 ec3 dc3 uc3 => ?_)
  have gac3 : h.1 ≤ c3 := by have h8 := G0.2.1; have h9 := hS.2.1; omega
  have uq5 := uc3 uq (Or.inr (gNo.sub (by decide) no0))
  have G6 : gSg [55, 59, 60, 61, 62, 63, 64, 200] [x] [64999] ty h ty1 h2 := gSg.tr (gSg.ss G0 hS (by decide)) g4 (by decide) (by decide) (fun x hx => by cases hx)
  have rw7 := gSg.raw g4 lx (fun w => by cases w)
  have rf8 := (rw7.2.2.1.trans kx)
  have rf9 := (rw7.2.2.2.trans zx)
  have t10 : ty1 x = 200 := rw7.1.trans tx
  have s11 := gSg.rawat g4 lx (fun w => by cases w) tx (by decide) (show h.2.2.2.2 x 0 = .null from dx 0)
  have s12 := gSg.rawat g4 lx (fun w => by cases w) tx (by decide) (show h.2.2.2.2 x 1 = .int (zi 0) from dx 1)
  have s13 := gSg.rawat g4 lx (fun w => by cases w) tx (by decide) (show h.2.2.2.2 x 2 = .int (zi 0) from dx 2)
  have s14 := gSg.rawat g4 lx (fun w => by cases w) tx (by decide) (show h.2.2.2.2 x 3 = .int (zi 0) from dx 3)
  have s15 := gSg.rawat g4 lx (fun w => by cases w) tx (by decide) (show h.2.2.2.2 x 4 = .null from dx 4)
  have s16 := gSg.rawat g4 lx (fun w => by cases w) tx (by decide) (show h.2.2.2.2 x 5 = .null from dx 5)
  have s17 := gSg.rawat g4 lx (fun w => by cases w) tx (by decide) (show h.2.2.2.2 x 6 = .null from dx 6)
  have s18 := gSg.rawat g4 lx (fun w => by cases w) tx (by decide) (show h.2.2.2.2 x 7 = .null from dx 7)
  have s19 := gSg.rawat g4 lx (fun w => by cases w) tx (by decide) (show h.2.2.2.2 x 8 = .int (zi 0) from dx 8)
  have s20 := gSg.rawat g4 lx (fun w => by cases w) tx (by decide) (show h.2.2.2.2 x 9 = .null from dx 9)
  have pr21 : gNo [55, 60, 61, 62, 63, 64] ty1 := gNo.gr g4 (by decide) (gNo.sub (by decide) no0)
  have sS22 : gSs rT 1027 ty1 [64999] h2 h2 := gSs.rf g4.1
  refine gs_rput rfl (by decide) rfl sS22.1 t10 nx rw7.2.1 rf8 rfl (Or.inr rfl) (fun h23 g24 nh23 mh23 kh23 zh23 eh23 fh23 => ?_)
  have G25 : gSg [55, 59, 60, 61, 62, 63, 64, 200] [x] [64999] ty h ty1 h23 := gSg.tr (gSg.ss G6 sS22 (by decide)) g24 (by decide) (by decide) (fun x hx => Or.inr hx)
  have sS26 : gSs rT 1027 ty1 [64999] h23 h23 := gSs.rf g24.1
  have rf27 := Nat.lt_of_lt_of_eq rw7.2.1 nh23.symm
  have rf28 := zh23.trans rf9
  have s29 := (fh23 1 (by decide)).trans s12
  have s30 := (fh23 2 (by decide)).trans s13
  have s31 := (fh23 3 (by decide)).trans s14
  have s32 := (fh23 4 (by decide)).trans s15
  have s33 := (fh23 5 (by decide)).trans s16
  have s34 := (fh23 6 (by decide)).trans s17
  have s35 := (fh23 7 (by decide)).trans s18
  have s36 := (fh23 8 (by decide)).trans s19
  have s37 := (fh23 9 (by decide)).trans s20
  refine gz_s 2 (pc' := 16) (L' := [some (.ref x)]) (S' := [.int (zi 10), .ref x]) rfl ?_
  refine gs_newr 60 rfl (by decide) rfl sS26.1 (Nat.le_of_lt (Nat.lt_of_le_of_lt (gJ.cell sS26.1 tc3 rfl).1 (gJ.cell sS26.1 tc3 rfl).2.1)) (by omega) (by omega) rfl rfl (by show (10 : Int) ≤ _; omega) (by show _ ≤ (10 : Int); omega) (fun _ _ => gos_i (by decide) (by decide)) (fun ty38 h39 c40 g41 tc40 lc40 nc40 mc40 ec40 dc40 uc40 => ?_)
  have gac40 : h.1 ≤ c40 := by have h8 := G25.2.1; have h9 := sS26.2.1; omega
  have uq42 := uc40 uq5 (Or.inr (gNo.sub (by decide) pr21))
  have G43 : gSg [55, 59, 60, 61, 62, 63, 64, 200] [x] [64999] ty h ty38 h39 := gSg.tr (gSg.ss G25 sS26 (by decide)) g41 (by decide) (by decide) (fun x hx => by cases hx)
  have rw44 := gSg.raw g41 rf27 (fun w => by cases w)
  have rf45 := (rw44.2.2.1.trans kh23)
  have rf46 := (rw44.2.2.2.trans rf28)
  have t47 : ty38 x = 200 := rw44.1.trans t10
  have t48 : ty38 c3 = 59 := gSg.typ g41 sS26.1 tc3 rfl
  have s49 := gSg.rawat g41 rf27 (fun w => by cases w) t10 (by decide) s29
  have s50 := gSg.rawat g41 rf27 (fun w => by cases w) t10 (by decide) s30
  have s51 := gSg.rawat g41 rf27 (fun w => by cases w) t10 (by decide) s31
  have s52 := gSg.rawat g41 rf27 (fun w => by cases w) t10 (by decide) s32
  have s53 := gSg.rawat g41 rf27 (fun w => by cases w) t10 (by decide) s33
  have s54 := gSg.rawat g41 rf27 (fun w => by cases w) t10 (by decide) s34
  have s55 := gSg.rawat g41 rf27 (fun w => by cases w) t10 (by decide) s35
  have s56 := gSg.rawat g41 rf27 (fun w => by cases w) t10 (by decide) s36
  have s57 := gSg.rawat g41 rf27 (fun w => by cases w) t10 (by decide) s37
  have s58 := gSg.rawat g41 rf27 (fun w => by cases w) t10 (by decide) eh23
  have pr59 : gNo [55, 61, 62, 63, 64] ty38 := gNo.gr g41 (by decide) (gNo.sub (by decide) pr21)
  have sS60 : gSs rT 1027 ty38 [64999] h39 h39 := gSs.rf g41.1
  refine gs_rput rfl (by decide) rfl sS60.1 t47 nx rw44.2.1 rf45 rfl (Or.inr rfl) (fun h61 g62 nh61 mh61 kh61 zh61 eh61 fh61 => ?_)
  have G63 : gSg [55, 59, 60, 61, 62, 63, 64, 200] [x] [64999] ty h ty38 h61 := gSg.tr (gSg.ss G43 sS60 (by decide)) g62 (by decide) (by decide) (fun x hx => Or.inr hx)
  have sS64 : gSs rT 1027 ty38 [64999] h61 h61 := gSs.rf g62.1
  have rf65 := Nat.lt_of_lt_of_eq rw44.2.1 nh61.symm
  have rf66 := zh61.trans rf46
  have s67 := (fh61 1 (by decide)).trans s49
  have s68 := (fh61 2 (by decide)).trans s50
  have s69 := (fh61 3 (by decide)).trans s51
  have s70 := (fh61 5 (by decide)).trans s53
  have s71 := (fh61 6 (by decide)).trans s54
  have s72 := (fh61 7 (by decide)).trans s55
  have s73 := (fh61 8 (by decide)).trans s56
  have s74 := (fh61 9 (by decide)).trans s57
  have s75 := (fh61 0 (by decide)).trans s58
  refine gz_s 2 (pc' := 24) (L' := [some (.ref x)]) (S' := [.int (zi 10), .ref x]) rfl ?_
  refine gs_newr 61 rfl (by decide) rfl sS64.1 (Nat.le_of_lt (Nat.lt_of_le_of_lt (gJ.cell sS64.1 t48 rfl).1 (gJ.cell sS64.1 t48 rfl).2.1)) (by omega) (by omega) rfl rfl (by show (10 : Int) ≤ _; omega) (by show _ ≤ (10 : Int); omega) (fun _ _ => gos_i (by decide) (by decide)) (fun ty76 h77 c78 g79 tc78 lc78 nc78 mc78 ec78 dc78 uc78 => ?_)
  have gac78 : h.1 ≤ c78 := by have h8 := G63.2.1; have h9 := sS64.2.1; omega
  have uq80 := uc78 uq42 (Or.inr (gNo.sub (by decide) pr59))
  have G81 : gSg [55, 59, 60, 61, 62, 63, 64, 200] [x] [64999] ty h ty76 h77 := gSg.tr (gSg.ss G63 sS64 (by decide)) g79 (by decide) (by decide) (fun x hx => by cases hx)
  have rw82 := gSg.raw g79 rf65 (fun w => by cases w)
  have rf83 := (rw82.2.2.1.trans kh61)
  have rf84 := (rw82.2.2.2.trans rf66)
  have t85 : ty76 x = 200 := rw82.1.trans t47
  have t86 : ty76 c3 = 59 := gSg.typ g79 sS64.1 t48 rfl
  have t87 : ty76 c40 = 60 := gSg.typ g79 sS64.1 tc40 rfl
  have s88 := gSg.rawat g79 rf65 (fun w => by cases w) t47 (by decide) s67
  have s89 := gSg.rawat g79 rf65 (fun w => by cases w) t47 (by decide) s68
  have s90 := gSg.rawat g79 rf65 (fun w => by cases w) t47 (by decide) s69
  have s91 := gSg.rawat g79 rf65 (fun w => by cases w) t47 (by decide) s70
  have s92 := gSg.rawat g79 rf65 (fun w => by cases w) t47 (by decide) s71
  have s93 := gSg.rawat g79 rf65 (fun w => by cases w) t47 (by decide) s72
  have s94 := gSg.rawat g79 rf65 (fun w => by cases w) t47 (by decide) s73
  have s95 := gSg.rawat g79 rf65 (fun w => by cases w) t47 (by decide) s74
  have s96 := gSg.rawat g79 rf65 (fun w => by cases w) t47 (by decide) s75
  have s97 := gSg.rawat g79 rf65 (fun w => by cases w) t47 (by decide) eh61
  have pr98 : gNo [55, 62, 63, 64] ty76 := gNo.gr g79 (by decide) (gNo.sub (by decide) pr59)
  have sS99 : gSs rT 1027 ty76 [64999] h77 h77 := gSs.rf g79.1
  refine gs_rput rfl (by decide) rfl sS99.1 t85 nx rw82.2.1 rf83 rfl (Or.inr rfl) (fun h100 g101 nh100 mh100 kh100 zh100 eh100 fh100 => ?_)
  have G102 : gSg [55, 59, 60, 61, 62, 63, 64, 200] [x] [64999] ty h ty76 h100 := gSg.tr (gSg.ss G81 sS99 (by decide)) g101 (by decide) (by decide) (fun x hx => Or.inr hx)
  have sS103 : gSs rT 1027 ty76 [64999] h100 h100 := gSs.rf g101.1
  have rf104 := Nat.lt_of_lt_of_eq rw82.2.1 nh100.symm
  have rf105 := zh100.trans rf84
  have s106 := (fh100 1 (by decide)).trans s88
  have s107 := (fh100 2 (by decide)).trans s89
  have s108 := (fh100 3 (by decide)).trans s90
  have s109 := (fh100 6 (by decide)).trans s92
  have s110 := (fh100 7 (by decide)).trans s93
  have s111 := (fh100 8 (by decide)).trans s94
  have s112 := (fh100 9 (by decide)).trans s95
  have s113 := (fh100 0 (by decide)).trans s96
  have s114 := (fh100 4 (by decide)).trans s97
  refine gz_s 2 (pc' := 32) (L' := [some (.ref x)]) (S' := [.int (zi 10), .ref x]) rfl ?_
  refine gs_newr 62 rfl (by decide) rfl sS103.1 (Nat.le_of_lt (Nat.lt_of_le_of_lt (gJ.cell sS103.1 t86 rfl).1 (gJ.cell sS103.1 t86 rfl).2.1)) (by omega) (by omega) rfl rfl (by show (10 : Int) ≤ _; omega) (by show _ ≤ (10 : Int); omega) (fun _ _ => gos_i (by decide) (by decide)) (fun ty115 h116 c117 g118 tc117 lc117 nc117 mc117 ec117 dc117 uc117 => ?_)
  have gac117 : h.1 ≤ c117 := by have h8 := G102.2.1; have h9 := sS103.2.1; omega
  have uq119 := uc117 uq80 (Or.inr (gNo.sub (by decide) pr98))
  have G120 : gSg [55, 59, 60, 61, 62, 63, 64, 200] [x] [64999] ty h ty115 h116 := gSg.tr (gSg.ss G102 sS103 (by decide)) g118 (by decide) (by decide) (fun x hx => by cases hx)
  have rw121 := gSg.raw g118 rf104 (fun w => by cases w)
  have rf122 := (rw121.2.2.1.trans kh100)
  have rf123 := (rw121.2.2.2.trans rf105)
  have t124 : ty115 x = 200 := rw121.1.trans t85
  have t125 : ty115 c3 = 59 := gSg.typ g118 sS103.1 t86 rfl
  have t126 : ty115 c40 = 60 := gSg.typ g118 sS103.1 t87 rfl
  have t127 : ty115 c78 = 61 := gSg.typ g118 sS103.1 tc78 rfl
  have s128 := gSg.rawat g118 rf104 (fun w => by cases w) t85 (by decide) s106
  have s129 := gSg.rawat g118 rf104 (fun w => by cases w) t85 (by decide) s107
  have s130 := gSg.rawat g118 rf104 (fun w => by cases w) t85 (by decide) s108
  have s131 := gSg.rawat g118 rf104 (fun w => by cases w) t85 (by decide) s109
  have s132 := gSg.rawat g118 rf104 (fun w => by cases w) t85 (by decide) s110
  have s133 := gSg.rawat g118 rf104 (fun w => by cases w) t85 (by decide) s111
  have s134 := gSg.rawat g118 rf104 (fun w => by cases w) t85 (by decide) s112
  have s135 := gSg.rawat g118 rf104 (fun w => by cases w) t85 (by decide) s113
  have s136 := gSg.rawat g118 rf104 (fun w => by cases w) t85 (by decide) s114
  have s137 := gSg.rawat g118 rf104 (fun w => by cases w) t85 (by decide) eh100
  have pr138 : gNo [55, 63, 64] ty115 := gNo.gr g118 (by decide) (gNo.sub (by decide) pr98)
  have sS139 : gSs rT 1027 ty115 [64999] h116 h116 := gSs.rf g118.1
  refine gs_rput rfl (by decide) rfl sS139.1 t124 nx rw121.2.1 rf122 rfl (Or.inr rfl) (fun h140 g141 nh140 mh140 kh140 zh140 eh140 fh140 => ?_)
  have G142 : gSg [55, 59, 60, 61, 62, 63, 64, 200] [x] [64999] ty h ty115 h140 := gSg.tr (gSg.ss G120 sS139 (by decide)) g141 (by decide) (by decide) (fun x hx => Or.inr hx)
  have sS143 : gSs rT 1027 ty115 [64999] h140 h140 := gSs.rf g141.1
  have rf144 := Nat.lt_of_lt_of_eq rw121.2.1 nh140.symm
  have rf145 := zh140.trans rf123
  have s146 := (fh140 1 (by decide)).trans s128
  have s147 := (fh140 2 (by decide)).trans s129
  have s148 := (fh140 3 (by decide)).trans s130
  have s149 := (fh140 7 (by decide)).trans s132
  have s150 := (fh140 8 (by decide)).trans s133
  have s151 := (fh140 9 (by decide)).trans s134
  have s152 := (fh140 0 (by decide)).trans s135
  have s153 := (fh140 4 (by decide)).trans s136
  have s154 := (fh140 5 (by decide)).trans s137
  refine gz_s 2 (pc' := 40) (L' := [some (.ref x)]) (S' := [.int (zi 10), .ref x]) rfl ?_
  refine gs_newr 63 rfl (by decide) rfl sS143.1 (Nat.le_of_lt (Nat.lt_of_le_of_lt (gJ.cell sS143.1 t125 rfl).1 (gJ.cell sS143.1 t125 rfl).2.1)) (by omega) (by omega) rfl rfl (by show (10 : Int) ≤ _; omega) (by show _ ≤ (10 : Int); omega) (fun _ _ => gos_i (by decide) (by decide)) (fun ty155 h156 c157 g158 tc157 lc157 nc157 mc157 ec157 dc157 uc157 => ?_)
  have gac157 : h.1 ≤ c157 := by have h8 := G142.2.1; have h9 := sS143.2.1; omega
  have uq159 := uc157 uq119 (Or.inr (gNo.sub (by decide) pr138))
  have G160 : gSg [55, 59, 60, 61, 62, 63, 64, 200] [x] [64999] ty h ty155 h156 := gSg.tr (gSg.ss G142 sS143 (by decide)) g158 (by decide) (by decide) (fun x hx => by cases hx)
  have rw161 := gSg.raw g158 rf144 (fun w => by cases w)
  have rf162 := (rw161.2.2.1.trans kh140)
  have rf163 := (rw161.2.2.2.trans rf145)
  have t164 : ty155 x = 200 := rw161.1.trans t124
  have t165 : ty155 c3 = 59 := gSg.typ g158 sS143.1 t125 rfl
  have t166 : ty155 c40 = 60 := gSg.typ g158 sS143.1 t126 rfl
  have t167 : ty155 c78 = 61 := gSg.typ g158 sS143.1 t127 rfl
  have t168 : ty155 c117 = 62 := gSg.typ g158 sS143.1 tc117 rfl
  have s169 := gSg.rawat g158 rf144 (fun w => by cases w) t124 (by decide) s146
  have s170 := gSg.rawat g158 rf144 (fun w => by cases w) t124 (by decide) s147
  have s171 := gSg.rawat g158 rf144 (fun w => by cases w) t124 (by decide) s148
  have s172 := gSg.rawat g158 rf144 (fun w => by cases w) t124 (by decide) s149
  have s173 := gSg.rawat g158 rf144 (fun w => by cases w) t124 (by decide) s150
  have s174 := gSg.rawat g158 rf144 (fun w => by cases w) t124 (by decide) s151
  have s175 := gSg.rawat g158 rf144 (fun w => by cases w) t124 (by decide) s152
  have s176 := gSg.rawat g158 rf144 (fun w => by cases w) t124 (by decide) s153
  have s177 := gSg.rawat g158 rf144 (fun w => by cases w) t124 (by decide) s154
  have s178 := gSg.rawat g158 rf144 (fun w => by cases w) t124 (by decide) eh140
  have pr179 : gNo [55, 64] ty155 := gNo.gr g158 (by decide) (gNo.sub (by decide) pr138)
  have sS180 : gSs rT 1027 ty155 [64999] h156 h156 := gSs.rf g158.1
  refine gs_rput rfl (by decide) rfl sS180.1 t164 nx rw161.2.1 rf162 rfl (Or.inr rfl) (fun h181 g182 nh181 mh181 kh181 zh181 eh181 fh181 => ?_)
  have G183 : gSg [55, 59, 60, 61, 62, 63, 64, 200] [x] [64999] ty h ty155 h181 := gSg.tr (gSg.ss G160 sS180 (by decide)) g182 (by decide) (by decide) (fun x hx => Or.inr hx)
  have sS184 : gSs rT 1027 ty155 [64999] h181 h181 := gSs.rf g182.1
  have rf185 := Nat.lt_of_lt_of_eq rw161.2.1 nh181.symm
  have rf186 := zh181.trans rf163
  have s187 := (fh181 1 (by decide)).trans s169
  have s188 := (fh181 2 (by decide)).trans s170
  have s189 := (fh181 3 (by decide)).trans s171
  have s190 := (fh181 8 (by decide)).trans s173
  have s191 := (fh181 9 (by decide)).trans s174
  have s192 := (fh181 0 (by decide)).trans s175
  have s193 := (fh181 4 (by decide)).trans s176
  have s194 := (fh181 5 (by decide)).trans s177
  have s195 := (fh181 6 (by decide)).trans s178
  refine gz_s 2 (pc' := 48) (L' := [some (.ref x)]) (S' := [.int (zi 64), .ref x]) rfl ?_
  refine gs_newr 64 rfl (by decide) rfl sS184.1 (Nat.le_of_lt (Nat.lt_of_le_of_lt (gJ.cell sS184.1 t165 rfl).1 (gJ.cell sS184.1 t165 rfl).2.1)) (by omega) (by omega) rfl rfl (by show (64 : Int) ≤ _; omega) (by show _ ≤ (64 : Int); omega) (fun _ _ => gos_i (by decide) (by decide)) (fun ty196 h197 c198 g199 tc198 lc198 nc198 mc198 ec198 dc198 uc198 => ?_)
  have gac198 : h.1 ≤ c198 := by have h8 := G183.2.1; have h9 := sS184.2.1; omega
  have uq200 := uc198 uq159 (Or.inr (gNo.sub (by decide) pr179))
  have G201 : gSg [55, 59, 60, 61, 62, 63, 64, 200] [x] [64999] ty h ty196 h197 := gSg.tr (gSg.ss G183 sS184 (by decide)) g199 (by decide) (by decide) (fun x hx => by cases hx)
  have rw202 := gSg.raw g199 rf185 (fun w => by cases w)
  have rf203 := (rw202.2.2.1.trans kh181)
  have rf204 := (rw202.2.2.2.trans rf186)
  have t205 : ty196 x = 200 := rw202.1.trans t164
  have t206 : ty196 c3 = 59 := gSg.typ g199 sS184.1 t165 rfl
  have t207 : ty196 c40 = 60 := gSg.typ g199 sS184.1 t166 rfl
  have t208 : ty196 c78 = 61 := gSg.typ g199 sS184.1 t167 rfl
  have t209 : ty196 c117 = 62 := gSg.typ g199 sS184.1 t168 rfl
  have t210 : ty196 c157 = 63 := gSg.typ g199 sS184.1 tc157 rfl
  have s211 := gSg.rawat g199 rf185 (fun w => by cases w) t164 (by decide) s187
  have s212 := gSg.rawat g199 rf185 (fun w => by cases w) t164 (by decide) s188
  have s213 := gSg.rawat g199 rf185 (fun w => by cases w) t164 (by decide) s189
  have s214 := gSg.rawat g199 rf185 (fun w => by cases w) t164 (by decide) s190
  have s215 := gSg.rawat g199 rf185 (fun w => by cases w) t164 (by decide) s191
  have s216 := gSg.rawat g199 rf185 (fun w => by cases w) t164 (by decide) s192
  have s217 := gSg.rawat g199 rf185 (fun w => by cases w) t164 (by decide) s193
  have s218 := gSg.rawat g199 rf185 (fun w => by cases w) t164 (by decide) s194
  have s219 := gSg.rawat g199 rf185 (fun w => by cases w) t164 (by decide) s195
  have s220 := gSg.rawat g199 rf185 (fun w => by cases w) t164 (by decide) eh181
  have pr221 : gNo [55] ty196 := gNo.gr g199 (by decide) (gNo.sub (by decide) pr179)
  have sS222 : gSs rT 1027 ty196 [64999] h197 h197 := gSs.rf g199.1
  refine gs_rput rfl (by decide) rfl sS222.1 t205 nx rw202.2.1 rf203 rfl (Or.inr rfl) (fun h223 g224 nh223 mh223 kh223 zh223 eh223 fh223 => ?_)
  have G225 : gSg [55, 59, 60, 61, 62, 63, 64, 200] [x] [64999] ty h ty196 h223 := gSg.tr (gSg.ss G201 sS222 (by decide)) g224 (by decide) (by decide) (fun x hx => Or.inr hx)
  have sS226 : gSs rT 1027 ty196 [64999] h223 h223 := gSs.rf g224.1
  have rf227 := Nat.lt_of_lt_of_eq rw202.2.1 nh223.symm
  have rf228 := zh223.trans rf204
  have s229 := (fh223 1 (by decide)).trans s211
  have s230 := (fh223 2 (by decide)).trans s212
  have s231 := (fh223 3 (by decide)).trans s213
  have s232 := (fh223 8 (by decide)).trans s214
  have s233 := (fh223 0 (by decide)).trans s216
  have s234 := (fh223 4 (by decide)).trans s217
  have s235 := (fh223 5 (by decide)).trans s218
  have s236 := (fh223 6 (by decide)).trans s219
  have s237 := (fh223 7 (by decide)).trans s220
  refine gz_s 1 (pc' := 54) (L' := [some (.ref x)]) (S' := [.ref x]) rfl ?_
  refine gz_get rfl (by decide) rfl nx rf227 kh223 eh223 ?_
  refine gz_s 1 (pc' := 58) (L' := [some (.ref x)]) (S' := [.int (zi (-1)), .ref c198]) rfl ?_
  refine gz_call rfl (by decide) rfl (by decide) (by decide) (gcal_of rfl rfl rfl (Nat.le_of_ble_eq_true rfl) rfl) (cl_fill_lowest _ sS226.1 c198 tc198 (-1) (by omega) uq200) (fun q238 _ wq238 => ?_)
  obtain ⟨pq238, oq238, hq238⟩ := q238
  obtain ⟨xq238, gq238, yq238_0⟩ := wq238
  refine ⟨_, gq238, ?_⟩
  show gz gPP gGG gcn _ _ 61 [some (.ref x)] [] hq238 _
  have sq238 : gSs rT 1027 ty196 [64999] h223 hq238 := gSs.tr sS226 xq238 (by decide)
  have s239 := (xq238.2.2.2.2.2 x 1 (by rw [t205]; decide)).trans s229
  have s240 := (xq238.2.2.2.2.2 x 2 (by rw [t205]; decide)).trans s230
  have s241 := (xq238.2.2.2.2.2 x 3 (by rw [t205]; decide)).trans s231
  have s242 := (xq238.2.2.2.2.2 x 8 (by rw [t205]; decide)).trans s232
  have s243 := (xq238.2.2.2.2.2 x 0 (by rw [t205]; decide)).trans s233
  have s244 := (xq238.2.2.2.2.2 x 4 (by rw [t205]; decide)).trans s234
  have s245 := (xq238.2.2.2.2.2 x 5 (by rw [t205]; decide)).trans s235
  have s246 := (xq238.2.2.2.2.2 x 6 (by rw [t205]; decide)).trans s236
  have s247 := (xq238.2.2.2.2.2 x 7 (by rw [t205]; decide)).trans s237
  have s248 := (xq238.2.2.2.2.2 x 9 (by rw [t205]; decide)).trans eh223
  obtain ⟨ty250, g249, tg249, ug249⟩ := gSg.adx 55 sq238.1 t205 nx (Nat.lt_of_lt_of_eq rf227 sq238.2.1.symm) rfl ((congrFun sq238.2.2.2.1 x).trans kh223) (by show (0 : Nat) ≤ _; have h9 := ((congrFun sq238.2.2.2.2.1 x).trans rf228); omega) (by show _ ≤ (0 : Nat); have h9 := ((congrFun sq238.2.2.2.2.1 x).trans rf228); omega) (fun ty9 w9 k hk => ad55 (by rw [s243]; exact ⟨c3, rfl, w9 c3 _ t206 (by decide)⟩) (by rw [s239]; exact ⟨0, rfl, by show (0 : Int) ≤ _; omega, by show _ ≤ (32 : Int); omega⟩) (by rw [s240]; exact ⟨0, rfl, by show (0 : Int) ≤ _; omega, by show _ ≤ (32 : Int); omega⟩) (by rw [s241]; exact ⟨0, rfl, by show (0 : Int) ≤ _; omega, by show _ ≤ (100 : Int); omega⟩) (by rw [s244]; exact ⟨c40, rfl, w9 c40 _ t207 (by decide)⟩) (by rw [s245]; exact ⟨c78, rfl, w9 c78 _ t208 (by decide)⟩) (by rw [s246]; exact ⟨c117, rfl, w9 c117 _ t209 (by decide)⟩) (by rw [s247]; exact ⟨c157, rfl, w9 c157 _ t210 (by decide)⟩) (by rw [s242]; exact ⟨0, rfl, by show (0 : Int) ≤ _; omega, by show _ ≤ (10 : Int); omega⟩) (by rw [s248]; exact ⟨c198, rfl, w9 c198 _ tc198 (by decide)⟩) k)
  have uq251 := ug249 uq200 (Or.inr pr221)
  have G252 : gSg [55, 59, 60, 61, 62, 63, 64, 200] [x] [64999] ty h ty250 hq238 := gSg.tr (gSg.ss G225 sq238 (by decide)) g249 (by decide) (by decide) (fun x hx => Or.inr hx)
  have t253 : ty250 c3 = 59 := gSg.typ g249 sq238.1 t206 rfl
  have t254 : ty250 c40 = 60 := gSg.typ g249 sq238.1 t207 rfl
  have t255 : ty250 c78 = 61 := gSg.typ g249 sq238.1 t208 rfl
  have t256 : ty250 c117 = 62 := gSg.typ g249 sq238.1 t209 rfl
  have t257 : ty250 c157 = 63 := gSg.typ g249 sq238.1 t210 rfl
  have t258 : ty250 c198 = 64 := gSg.typ g249 sq238.1 tc198 rfl
  have pr259 := gOy.gr g249 sq238.1 rfl (by decide) (by decide) yq238_0
  have sS260 : gSs rT 1027 ty250 [64999] hq238 hq238 := gSs.rf g249.1
  have hts261 : gTc ty250 0 hq238 := gTc.anew (gRow.mk uq251 t254 (by decide) (fun _ => rfl)) (gRow.mk uq251 t255 (by decide) (fun _ => rfl)) pr259
  have G262 : gSg [55, 59, 60, 61, 62, 63, 64, 200] [x] [64999] ty h ty250 hq238 := gSg.ss G252 sS260 (by decide)
  exact gz_end (I := .return_) (len := 1) rfl (Or.inl rfl) ⟨ty250, G262, 0, 0, tg249, rfl, s242, (by omega), (by omega), s241, (by omega), (by omega), (by dsimp only; omega), (by dsimp only; omega), (by omega), (by omega), hts261, uq251⟩
set_option maxRecDepth 20000 in
set_option maxHeartbeats 4000000 in
theorem ct_Picture (d : Nat) {ty : Nat → Nat} {h : gH} (hJ : gJ rT 1027 ty h) (x : Nat) (tx : ty x = 200) (nx : 1027 ≤ x) (lx : x < h.1) (kx : h.2.2.1 x = some (.inr 5)) (zx : h.2.2.2.1 x = 0) (dx : ∀ k, h.2.2.2.2 x k = defaultValue (gGG.2.1 5 k)) (no0 : gNo [54, 57, 58, 82, 83, 84] ty) (uq : gUq ty) : gz gPP gGG gcn (d + 2) gt2 0 (gent [.ref x] 1) [] h (fun q _ => ∃ ty9 : Nat → Nat, gSg [54, 57, 58, 82, 83, 84, 112, 113, 200] [x] [] ty h ty9 q.2.2 ∧ ∃ bn b0 b1 b2 : Nat, True ∧ q.2.2.2.2.2.2 x 0 = .ref bn ∧ ty9 bn = 57 ∧ q.2.2.2.2.2.2 bn 0 = .ref b0 ∧ ty9 b0 = 82 ∧ q.2.2.2.2.2.2 bn 1 = .ref b1 ∧ ty9 b1 = 83 ∧ q.2.2.2.2.2.2 bn 2 = .ref b2 ∧ ty9 b2 = 84 ∧ ty9 x = 54 ∧ gfin gt2 q.1 q.2.1 = some none ∧ ((q.2.2.1 : Int) = h.1 + 7) ∧ ((q.2.2.2.1 : Int) = h.2.1 + 295) ∧ (gPC ty9 x b0 b1 b2 0 q.2.2) ∧ gUq ty9) := by
  have hS : gSs rT 1027 ty [] h h := gSs.rf hJ
  have G0 : gSg [54, 57, 58, 82, 83, 84, 112, 113, 200] [x] [] ty h ty h := gSg.rf hJ (fun x hx => by rw [List.mem_singleton.mp hx, tx]; rfl)
  refine gz_s 1 (pc' := 1) (L' := [some (.ref x)]) (S' := [.ref x]) rfl ?_
  refine gz_obj rfl (by decide) (by omega) rfl (by decide) ?_
  refine gz_s 2 (pc' := 6) (L' := [some (.ref x)]) (S' := [.int (zi 3), .ref x]) rfl ?_
  refine gs_newq rfl (by decide) rfl hS.1 (Nat.le_of_lt (Nat.lt_of_le_of_lt nx lx)) (by omega) (by omega) (fun ty1 h2 c3 g4 tc3 kc3 zc3 nc3 mc3 ec3 => ?_)
  have gac3 : h.1 ≤ c3 := by have h8 := G0.2.1; have h9 := hS.2.1; omega
  have nnc3 : 1027 ≤ c3 := by have h8 := (Nat.le_of_lt (Nat.lt_of_le_of_lt nx lx)); omega
  have llc3 : c3 < _ := by rw [nc3, ec3]; exact Nat.lt_succ_self _
  have nex_c3 : x ≠ c3 := by have h8 := lx; omega
  have G5 : gSg [54, 57, 58, 82, 83, 84, 112, 113, 200] [x] [] ty h ty1 h2 := gSg.tr (gSg.ss G0 hS (by decide)) g4 (by decide) (by decide) (fun x hx => by cases hx)
  have rw6 := gSg.raw g4 lx (fun w => by cases w)
  have rf7 := (rw6.2.2.1.trans kx)
  have rf8 := (rw6.2.2.2.trans zx)
  have t9 : ty1 x = 200 := rw6.1.trans tx
  have s10 := gSg.rawat g4 lx (fun w => by cases w) tx (by decide) (show h.2.2.2.2 x 0 = .null from dx 0)
  have s11 := gSg.rawat g4 lx (fun w => by cases w) tx (by decide) (show h.2.2.2.2 x 1 = .null from dx 1)
  have s12 := gSg.rawat g4 lx (fun w => by cases w) tx (by decide) (show h.2.2.2.2 x 2 = .null from dx 2)
  have s13 := gSg.rawat g4 lx (fun w => by cases w) tx (by decide) (show h.2.2.2.2 x 3 = .null from dx 3)
  have s14 := gSg.rawat g4 lx (fun w => by cases w) tx (by decide) (show h.2.2.2.2 x 4 = .int (zi 0) from dx 4)
  have s15 := gSg.rawat g4 lx (fun w => by cases w) tx (by decide) (show h.2.2.2.2 x 5 = .int (zi 0) from dx 5)
  have s16 := gSg.rawat g4 lx (fun w => by cases w) tx (by decide) (show h.2.2.2.2 x 6 = .int (zi 0) from dx 6)
  have s17 := gSg.rawat g4 lx (fun w => by cases w) tx (by decide) (show h.2.2.2.2 x 7 = .int (zi 0) from dx 7)
  have s18 := gSg.rawat g4 lx (fun w => by cases w) tx (by decide) (show h.2.2.2.2 x 8 = .int (zi 0) from dx 8)
  have s19 := gSg.rawat g4 lx (fun w => by cases w) tx (by decide) (show h.2.2.2.2 x 9 = .int (zi 0) from dx 9)
  have s20 := gSg.rawat g4 lx (fun w => by cases w) tx (by decide) (show h.2.2.2.2 x 10 = .int (zi 0) from dx 10)
  have s21 := gSg.rawat g4 lx (fun w => by cases w) tx (by decide) (show h.2.2.2.2 x 11 = .int (zi 0) from dx 11)
  have s22 := gSg.rawat g4 lx (fun w => by cases w) tx (by decide) (show h.2.2.2.2 x 12 = .int (zi 0) from dx 12)
  have s23 := gSg.rawat g4 lx (fun w => by cases w) tx (by decide) (show h.2.2.2.2 x 13 = .int (zi 0) from dx 13)
  have pr24 : gNo [54, 57, 58, 82, 83, 84] ty1 := gNo.gr g4 (by decide) (gNo.sub (by decide) no0)
  have uq25 := gSg.uq g4 uq (by decide)
  have sS26 : gSs rT 1027 ty1 [] h2 h2 := gSs.rf g4.1
  refine gz_s 2 (pc' := 11) (L' := [some (.ref x)]) (S' := [.int (zi 0), .ref c3, .ref c3, .ref x]) rfl ?_
  refine gs_newo rfl (by decide) rfl sS26.1 (Nat.le_of_lt (Nat.lt_of_le_of_lt nx rw6.2.1)) (fun ty27 h28 c29 g30 tc29 kc29 zc29 nc29 mc29 ec29 dc29 => ?_)
  have mfc29 : h28.2.1 = h2.2.1 + 12 := mc29
  have gac29 : h.1 ≤ c29 := by have h8 := G5.2.1; have h9 := sS26.2.1; omega
  have nnc29 : 1027 ≤ c29 := by have h8 := (Nat.le_of_lt (Nat.lt_of_le_of_lt nx rw6.2.1)); omega
  have llc29 : c29 < _ := by rw [nc29, ec29]; exact Nat.lt_succ_self _
  have nex_c29 : x ≠ c29 := by have h8 := rw6.2.1; omega
  have nec3_c29 : c3 ≠ c29 := by have h8 := llc3; omega
  have G31 : gSg [54, 57, 58, 82, 83, 84, 112, 113, 200] [x] [] ty h ty27 h28 := gSg.tr (gSg.ss G5 sS26 (by decide)) g30 (by decide) (by decide) (fun x hx => by cases hx)
  have rw32 := gSg.raw g30 rw6.2.1 (fun w => by cases w)
  have rf33 := (rw32.2.2.1.trans rf7)
  have rf34 := (rw32.2.2.2.trans rf8)
  have t35 : ty27 x = 200 := rw32.1.trans t9
  have rw36 := gSg.raw g30 llc3 (fun w => by cases w)
  have rf37 := (rw36.2.2.1.trans kc3)
  have rf38 := ((congrArg (fun n : Nat => (n : Int)) rw36.2.2.2).trans zc3)
  have t39 : ty27 c3 = 200 := rw36.1.trans tc3
  have s40 := gSg.rawat g30 rw6.2.1 (fun w => by cases w) t9 (by decide) s10
  have s41 := gSg.rawat g30 rw6.2.1 (fun w => by cases w) t9 (by decide) s11
  have s42 := gSg.rawat g30 rw6.2.1 (fun w => by cases w) t9 (by decide) s12
  have s43 := gSg.rawat g30 rw6.2.1 (fun w => by cases w) t9 (by decide) s13
  have s44 := gSg.rawat g30 rw6.2.1 (fun w => by cases w) t9 (by decide) s14
  have s45 := gSg.rawat g30 rw6.2.1 (fun w => by cases w) t9 (by decide) s15
  have s46 := gSg.rawat g30 rw6.2.1 (fun w => by cases w) t9 (by decide) s16
  have s47 := gSg.rawat g30 rw6.2.1 (fun w => by cases w) t9 (by decide) s17
  have s48 := gSg.rawat g30 rw6.2.1 (fun w => by cases w) t9 (by decide) s18
  have s49 := gSg.rawat g30 rw6.2.1 (fun w => by cases w) t9 (by decide) s19
  have s50 := gSg.rawat g30 rw6.2.1 (fun w => by cases w) t9 (by decide) s20
  have s51 := gSg.rawat g30 rw6.2.1 (fun w => by cases w) t9 (by decide) s21
  have s52 := gSg.rawat g30 rw6.2.1 (fun w => by cases w) t9 (by decide) s22
  have s53 := gSg.rawat g30 rw6.2.1 (fun w => by cases w) t9 (by decide) s23
  have pr54 : gNo [54, 57, 58, 82, 83, 84] ty27 := gNo.gr g30 (by decide) (gNo.sub (by decide) pr24)
  have uq55 := gSg.uq g30 uq25 (by decide)
  have sS56 : gSs rT 1027 ty27 [] h28 h28 := gSs.rf g30.1
  refine gz_s 1 (pc' := 15) (L' := [some (.ref x)]) (S' := [.ref c29, .ref c29, .int (zi 0), .ref c3, .ref c3, .ref x]) rfl ?_
  refine gz_call rfl (by decide) rfl (by decide) (by decide) (gcal_of rfl rfl rfl (Nat.le_of_ble_eq_true rfl) rfl) (ct_Band0 _ sS56.1 c29 tc29 nnc29 llc29 kc29 zc29 dc29 (gNo.sub (by decide) pr54) uq55) (fun q57 _ wq57 => ?_)
  obtain ⟨pq57, oq57, hq57⟩ := q57
  obtain ⟨tyq57, xq57, trq57_0, gq57, uq57_0, uq57_1, uqq57⟩ := wq57
  dsimp only at uq57_0 uq57_1
  refine ⟨_, gq57, ?_⟩
  show gz gPP gGG gcn _ _ 18 [some (.ref x)] [.ref c29, .int (zi 0), .ref c3, .ref c3, .ref x] hq57 _
  have G58 : gSg [54, 57, 58, 82, 83, 84, 112, 113, 200] [x] [] ty h tyq57 hq57 := gSg.tr (gSg.ss G31 sS56 (by decide)) xq57 (by decide) (by decide) (fun x hx => Or.inl (by rw [List.mem_singleton.mp hx]; exact gac29))
  have rw59 := gSg.raw xq57 rw32.2.1 (fun w => nex_c29 (List.mem_singleton.mp w))
  have rf60 := (rw59.2.2.1.trans rf33)
  have rf61 := (rw59.2.2.2.trans rf34)
  have t62 : tyq57 x = 200 := rw59.1.trans t35
  have rw63 := gSg.raw xq57 rw36.2.1 (fun w => nec3_c29 (List.mem_singleton.mp w))
  have rf64 := (rw63.2.2.1.trans rf37)
  have rf65 := ((congrArg (fun n : Nat => (n : Int)) rw63.2.2.2).trans rf38)
  have t66 : tyq57 c3 = 200 := rw63.1.trans t39
  have s67 := gSg.rawat xq57 rw32.2.1 (fun w => nex_c29 (List.mem_singleton.mp w)) t35 (by decide) s40
  have s68 := gSg.rawat xq57 rw32.2.1 (fun w => nex_c29 (List.mem_singleton.mp w)) t35 (by decide) s41
  have s69 := gSg.rawat xq57 rw32.2.1 (fun w => nex_c29 (List.mem_singleton.mp w)) t35 (by decide) s42
  have s70 := gSg.rawat xq57 rw32.2.1 (fun w => nex_c29 (List.mem_singleton.mp w)) t35 (by decide) s43
  have s71 := gSg.rawat xq57 rw32.2.1 (fun w => nex_c29 (List.mem_singleton.mp w)) t35 (by decide) s44
  have s72 := gSg.rawat xq57 rw32.2.1 (fun w => nex_c29 (List.mem_singleton.mp w)) t35 (by decide) s45
  have s73 := gSg.rawat xq57 rw32.2.1 (fun w => nex_c29 (List.mem_singleton.mp w)) t35 (by decide) s46
  have s74 := gSg.rawat xq57 rw32.2.1 (fun w => nex_c29 (List.mem_singleton.mp w)) t35 (by decide) s47
  have s75 := gSg.rawat xq57 rw32.2.1 (fun w => nex_c29 (List.mem_singleton.mp w)) t35 (by decide) s48
  have s76 := gSg.rawat xq57 rw32.2.1 (fun w => nex_c29 (List.mem_singleton.mp w)) t35 (by decide) s49
  have s77 := gSg.rawat xq57 rw32.2.1 (fun w => nex_c29 (List.mem_singleton.mp w)) t35 (by decide) s50
  have s78 := gSg.rawat xq57 rw32.2.1 (fun w => nex_c29 (List.mem_singleton.mp w)) t35 (by decide) s51
  have s79 := gSg.rawat xq57 rw32.2.1 (fun w => nex_c29 (List.mem_singleton.mp w)) t35 (by decide) s52
  have s80 := gSg.rawat xq57 rw32.2.1 (fun w => nex_c29 (List.mem_singleton.mp w)) t35 (by decide) s53
  have pr81 : gNo [54, 57, 58, 83, 84] tyq57 := gNo.gr xq57 (by decide) (gNo.sub (by decide) pr54)
  have sS82 : gSs rT 1027 tyq57 [] hq57 hq57 := gSs.rf xq57.1
  refine gs_rast (j := 0) rfl (by decide) sS82.1 t66 nnc3 rw63.2.1 rf64 rfl (gJ.cell sS82.1 trq57_0 rfl).1 (gJ.cell sS82.1 trq57_0 rfl).2.1 (gJ.cell sS82.1 trq57_0 rfl).2.2 rfl (by have h9 := rf65; omega) (by have h9 := rf65; omega) (fun h83 g84 nh83 mh83 kh83 zh83 eh83 fh83 => ?_)
  have G85 : gSg [54, 57, 58, 82, 83, 84, 112, 113, 200] [x] [] ty h tyq57 h83 := gSg.tr (gSg.ss G58 sS82 (by decide)) g84 (by decide) (by decide) (fun x hx => Or.inl (by rw [List.mem_singleton.mp hx]; exact gac3))
  have rw86 := gSg.raw g84 rw59.2.1 (fun w => nex_c3 (List.mem_singleton.mp w))
  have rf87 := (rw86.2.2.1.trans rf60)
  have rf88 := (rw86.2.2.2.trans rf61)
  have s89 := gSg.rawat g84 rw59.2.1 (fun w => nex_c3 (List.mem_singleton.mp w)) t62 (by decide) s67
  have s90 := gSg.rawat g84 rw59.2.1 (fun w => nex_c3 (List.mem_singleton.mp w)) t62 (by decide) s68
  have s91 := gSg.rawat g84 rw59.2.1 (fun w => nex_c3 (List.mem_singleton.mp w)) t62 (by decide) s69
  have s92 := gSg.rawat g84 rw59.2.1 (fun w => nex_c3 (List.mem_singleton.mp w)) t62 (by decide) s70
  have s93 := gSg.rawat g84 rw59.2.1 (fun w => nex_c3 (List.mem_singleton.mp w)) t62 (by decide) s71
  have s94 := gSg.rawat g84 rw59.2.1 (fun w => nex_c3 (List.mem_singleton.mp w)) t62 (by decide) s72
  have s95 := gSg.rawat g84 rw59.2.1 (fun w => nex_c3 (List.mem_singleton.mp w)) t62 (by decide) s73
  have s96 := gSg.rawat g84 rw59.2.1 (fun w => nex_c3 (List.mem_singleton.mp w)) t62 (by decide) s74
  have s97 := gSg.rawat g84 rw59.2.1 (fun w => nex_c3 (List.mem_singleton.mp w)) t62 (by decide) s75
  have s98 := gSg.rawat g84 rw59.2.1 (fun w => nex_c3 (List.mem_singleton.mp w)) t62 (by decide) s76
  have s99 := gSg.rawat g84 rw59.2.1 (fun w => nex_c3 (List.mem_singleton.mp w)) t62 (by decide) s77
  have s100 := gSg.rawat g84 rw59.2.1 (fun w => nex_c3 (List.mem_singleton.mp w)) t62 (by decide) s78
  have s101 := gSg.rawat g84 rw59.2.1 (fun w => nex_c3 (List.mem_singleton.mp w)) t62 (by decide) s79
  have s102 := gSg.rawat g84 rw59.2.1 (fun w => nex_c3 (List.mem_singleton.mp w)) t62 (by decide) s80
  have sS103 : gSs rT 1027 tyq57 [] h83 h83 := gSs.rf g84.1
  have rf104 := Nat.lt_of_lt_of_eq rw63.2.1 nh83.symm
  have rf105 := (congrArg (fun n : Nat => (n : Int)) zh83).trans rf65
  refine gz_s 2 (pc' := 21) (L' := [some (.ref x)]) (S' := [.int (zi 1), .ref c3, .ref c3, .ref x]) rfl ?_
  refine gs_newo rfl (by decide) rfl sS103.1 (Nat.le_of_lt (Nat.lt_of_le_of_lt (gJ.cell sS103.1 trq57_0 rfl).1 (gJ.cell sS103.1 trq57_0 rfl).2.1)) (fun ty106 h107 c108 g109 tc108 kc108 zc108 nc108 mc108 ec108 dc108 => ?_)
  have mfc108 : h107.2.1 = h83.2.1 + 12 := mc108
  have gac108 : h.1 ≤ c108 := by have h8 := G85.2.1; have h9 := sS103.2.1; omega
  have nnc108 : 1027 ≤ c108 := by have h8 := (Nat.le_of_lt (Nat.lt_of_le_of_lt (gJ.cell sS103.1 trq57_0 rfl).1 (gJ.cell sS103.1 trq57_0 rfl).2.1)); omega
  have llc108 : c108 < _ := by rw [nc108, ec108]; exact Nat.lt_succ_self _
  have nex_c108 : x ≠ c108 := by have h8 := rw86.2.1; omega
  have nec3_c108 : c3 ≠ c108 := by have h8 := rf104; omega
  have G110 : gSg [54, 57, 58, 82, 83, 84, 112, 113, 200] [x] [] ty h ty106 h107 := gSg.tr (gSg.ss G85 sS103 (by decide)) g109 (by decide) (by decide) (fun x hx => by cases hx)
  have rw111 := gSg.raw g109 rw86.2.1 (fun w => by cases w)
  have rf112 := (rw111.2.2.1.trans rf87)
  have rf113 := (rw111.2.2.2.trans rf88)
  have t114 : ty106 x = 200 := rw111.1.trans t62
  have rw115 := gSg.raw g109 rf104 (fun w => by cases w)
  have rf116 := (rw115.2.2.1.trans kh83)
  have rf117 := ((congrArg (fun n : Nat => (n : Int)) rw115.2.2.2).trans rf105)
  have t118 : ty106 c3 = 200 := rw115.1.trans t66
  have t119 : ty106 c29 = 82 := gSg.typ g109 sS103.1 trq57_0 rfl
  have s120 := gSg.rawat g109 rw86.2.1 (fun w => by cases w) t62 (by decide) s89
  have s121 := gSg.rawat g109 rw86.2.1 (fun w => by cases w) t62 (by decide) s90
  have s122 := gSg.rawat g109 rw86.2.1 (fun w => by cases w) t62 (by decide) s91
  have s123 := gSg.rawat g109 rw86.2.1 (fun w => by cases w) t62 (by decide) s92
  have s124 := gSg.rawat g109 rw86.2.1 (fun w => by cases w) t62 (by decide) s93
  have s125 := gSg.rawat g109 rw86.2.1 (fun w => by cases w) t62 (by decide) s94
  have s126 := gSg.rawat g109 rw86.2.1 (fun w => by cases w) t62 (by decide) s95
  have s127 := gSg.rawat g109 rw86.2.1 (fun w => by cases w) t62 (by decide) s96
  have s128 := gSg.rawat g109 rw86.2.1 (fun w => by cases w) t62 (by decide) s97
  have s129 := gSg.rawat g109 rw86.2.1 (fun w => by cases w) t62 (by decide) s98
  have s130 := gSg.rawat g109 rw86.2.1 (fun w => by cases w) t62 (by decide) s99
  have s131 := gSg.rawat g109 rw86.2.1 (fun w => by cases w) t62 (by decide) s100
  have s132 := gSg.rawat g109 rw86.2.1 (fun w => by cases w) t62 (by decide) s101
  have s133 := gSg.rawat g109 rw86.2.1 (fun w => by cases w) t62 (by decide) s102
  have s134 := gSg.rawat g109 rf104 (fun w => by cases w) t66 (by decide) eh83
  have pr135 : gNo [54, 57, 58, 83, 84] ty106 := gNo.gr g109 (by decide) (gNo.sub (by decide) pr81)
  have uq136 := gSg.uq g109 uqq57 (by decide)
  have sS137 : gSs rT 1027 ty106 [] h107 h107 := gSs.rf g109.1
  refine gz_s 1 (pc' := 25) (L' := [some (.ref x)]) (S' := [.ref c108, .ref c108, .int (zi 1), .ref c3, .ref c3, .ref x]) rfl ?_
  refine gz_call rfl (by decide) rfl (by decide) (by decide) (gcal_of rfl rfl rfl (Nat.le_of_ble_eq_true rfl) rfl) (ct_Band1 _ sS137.1 c108 tc108 nnc108 llc108 kc108 zc108 dc108 (gNo.sub (by decide) pr135) uq136) (fun q138 _ wq138 => ?_)
  obtain ⟨pq138, oq138, hq138⟩ := q138
  obtain ⟨tyq138, xq138, trq138_0, gq138, uq138_0, uq138_1, uqq138⟩ := wq138
  dsimp only at uq138_0 uq138_1
  refine ⟨_, gq138, ?_⟩
  show gz gPP gGG gcn _ _ 28 [some (.ref x)] [.ref c108, .int (zi 1), .ref c3, .ref c3, .ref x] hq138 _
  have G139 : gSg [54, 57, 58, 82, 83, 84, 112, 113, 200] [x] [] ty h tyq138 hq138 := gSg.tr (gSg.ss G110 sS137 (by decide)) xq138 (by decide) (by decide) (fun x hx => Or.inl (by rw [List.mem_singleton.mp hx]; exact gac108))
  have rw140 := gSg.raw xq138 rw111.2.1 (fun w => nex_c108 (List.mem_singleton.mp w))
  have rf141 := (rw140.2.2.1.trans rf112)
  have rf142 := (rw140.2.2.2.trans rf113)
  have t143 : tyq138 x = 200 := rw140.1.trans t114
  have rw144 := gSg.raw xq138 rw115.2.1 (fun w => nec3_c108 (List.mem_singleton.mp w))
  have rf145 := (rw144.2.2.1.trans rf116)
  have rf146 := ((congrArg (fun n : Nat => (n : Int)) rw144.2.2.2).trans rf117)
  have t147 : tyq138 c3 = 200 := rw144.1.trans t118
  have t148 : tyq138 c29 = 82 := gSg.typ xq138 sS137.1 t119 rfl
  have s149 := gSg.rawat xq138 rw111.2.1 (fun w => nex_c108 (List.mem_singleton.mp w)) t114 (by decide) s120
  have s150 := gSg.rawat xq138 rw111.2.1 (fun w => nex_c108 (List.mem_singleton.mp w)) t114 (by decide) s121
  have s151 := gSg.rawat xq138 rw111.2.1 (fun w => nex_c108 (List.mem_singleton.mp w)) t114 (by decide) s122
  have s152 := gSg.rawat xq138 rw111.2.1 (fun w => nex_c108 (List.mem_singleton.mp w)) t114 (by decide) s123
  have s153 := gSg.rawat xq138 rw111.2.1 (fun w => nex_c108 (List.mem_singleton.mp w)) t114 (by decide) s124
  have s154 := gSg.rawat xq138 rw111.2.1 (fun w => nex_c108 (List.mem_singleton.mp w)) t114 (by decide) s125
  have s155 := gSg.rawat xq138 rw111.2.1 (fun w => nex_c108 (List.mem_singleton.mp w)) t114 (by decide) s126
  have s156 := gSg.rawat xq138 rw111.2.1 (fun w => nex_c108 (List.mem_singleton.mp w)) t114 (by decide) s127
  have s157 := gSg.rawat xq138 rw111.2.1 (fun w => nex_c108 (List.mem_singleton.mp w)) t114 (by decide) s128
  have s158 := gSg.rawat xq138 rw111.2.1 (fun w => nex_c108 (List.mem_singleton.mp w)) t114 (by decide) s129
  have s159 := gSg.rawat xq138 rw111.2.1 (fun w => nex_c108 (List.mem_singleton.mp w)) t114 (by decide) s130
  have s160 := gSg.rawat xq138 rw111.2.1 (fun w => nex_c108 (List.mem_singleton.mp w)) t114 (by decide) s131
  have s161 := gSg.rawat xq138 rw111.2.1 (fun w => nex_c108 (List.mem_singleton.mp w)) t114 (by decide) s132
  have s162 := gSg.rawat xq138 rw111.2.1 (fun w => nex_c108 (List.mem_singleton.mp w)) t114 (by decide) s133
  have s163 := gSg.rawat xq138 rw115.2.1 (fun w => nec3_c108 (List.mem_singleton.mp w)) t118 (by decide) s134
  have pr164 : gNo [54, 57, 58, 84] tyq138 := gNo.gr xq138 (by decide) (gNo.sub (by decide) pr135)
  have sS165 : gSs rT 1027 tyq138 [] hq138 hq138 := gSs.rf xq138.1
  refine gs_rast (j := 1) rfl (by decide) sS165.1 t147 nnc3 rw144.2.1 rf145 rfl (gJ.cell sS165.1 trq138_0 rfl).1 (gJ.cell sS165.1 trq138_0 rfl).2.1 (gJ.cell sS165.1 trq138_0 rfl).2.2 rfl (by have h9 := rf146; omega) (by have h9 := rf146; omega) (fun h166 g167 nh166 mh166 kh166 zh166 eh166 fh166 => ?_)
  have G168 : gSg [54, 57, 58, 82, 83, 84, 112, 113, 200] [x] [] ty h tyq138 h166 := gSg.tr (gSg.ss G139 sS165 (by decide)) g167 (by decide) (by decide) (fun x hx => Or.inl (by rw [List.mem_singleton.mp hx]; exact gac3))
  have rw169 := gSg.raw g167 rw140.2.1 (fun w => nex_c3 (List.mem_singleton.mp w))
  have rf170 := (rw169.2.2.1.trans rf141)
  have rf171 := (rw169.2.2.2.trans rf142)
  have s172 := gSg.rawat g167 rw140.2.1 (fun w => nex_c3 (List.mem_singleton.mp w)) t143 (by decide) s149
  have s173 := gSg.rawat g167 rw140.2.1 (fun w => nex_c3 (List.mem_singleton.mp w)) t143 (by decide) s150
  have s174 := gSg.rawat g167 rw140.2.1 (fun w => nex_c3 (List.mem_singleton.mp w)) t143 (by decide) s151
  have s175 := gSg.rawat g167 rw140.2.1 (fun w => nex_c3 (List.mem_singleton.mp w)) t143 (by decide) s152
  have s176 := gSg.rawat g167 rw140.2.1 (fun w => nex_c3 (List.mem_singleton.mp w)) t143 (by decide) s153
  have s177 := gSg.rawat g167 rw140.2.1 (fun w => nex_c3 (List.mem_singleton.mp w)) t143 (by decide) s154
  have s178 := gSg.rawat g167 rw140.2.1 (fun w => nex_c3 (List.mem_singleton.mp w)) t143 (by decide) s155
  have s179 := gSg.rawat g167 rw140.2.1 (fun w => nex_c3 (List.mem_singleton.mp w)) t143 (by decide) s156
  have s180 := gSg.rawat g167 rw140.2.1 (fun w => nex_c3 (List.mem_singleton.mp w)) t143 (by decide) s157
  have s181 := gSg.rawat g167 rw140.2.1 (fun w => nex_c3 (List.mem_singleton.mp w)) t143 (by decide) s158
  have s182 := gSg.rawat g167 rw140.2.1 (fun w => nex_c3 (List.mem_singleton.mp w)) t143 (by decide) s159
  have s183 := gSg.rawat g167 rw140.2.1 (fun w => nex_c3 (List.mem_singleton.mp w)) t143 (by decide) s160
  have s184 := gSg.rawat g167 rw140.2.1 (fun w => nex_c3 (List.mem_singleton.mp w)) t143 (by decide) s161
  have s185 := gSg.rawat g167 rw140.2.1 (fun w => nex_c3 (List.mem_singleton.mp w)) t143 (by decide) s162
  have sS186 : gSs rT 1027 tyq138 [] h166 h166 := gSs.rf g167.1
  have rf187 := Nat.lt_of_lt_of_eq rw144.2.1 nh166.symm
  have rf188 := (congrArg (fun n : Nat => (n : Int)) zh166).trans rf146
  have s189 := (fh166 0 (by decide)).trans s163
  refine gz_s 2 (pc' := 31) (L' := [some (.ref x)]) (S' := [.int (zi 2), .ref c3, .ref c3, .ref x]) rfl ?_
  refine gs_newo rfl (by decide) rfl sS186.1 (Nat.le_of_lt (Nat.lt_of_le_of_lt (gJ.cell sS186.1 t148 rfl).1 (gJ.cell sS186.1 t148 rfl).2.1)) (fun ty190 h191 c192 g193 tc192 kc192 zc192 nc192 mc192 ec192 dc192 => ?_)
  have mfc192 : h191.2.1 = h166.2.1 + 12 := mc192
  have gac192 : h.1 ≤ c192 := by have h8 := G168.2.1; have h9 := sS186.2.1; omega
  have nnc192 : 1027 ≤ c192 := by have h8 := (Nat.le_of_lt (Nat.lt_of_le_of_lt (gJ.cell sS186.1 t148 rfl).1 (gJ.cell sS186.1 t148 rfl).2.1)); omega
  have llc192 : c192 < _ := by rw [nc192, ec192]; exact Nat.lt_succ_self _
  have nex_c192 : x ≠ c192 := by have h8 := rw169.2.1; omega
  have nec3_c192 : c3 ≠ c192 := by have h8 := rf187; omega
  have G194 : gSg [54, 57, 58, 82, 83, 84, 112, 113, 200] [x] [] ty h ty190 h191 := gSg.tr (gSg.ss G168 sS186 (by decide)) g193 (by decide) (by decide) (fun x hx => by cases hx)
  have rw195 := gSg.raw g193 rw169.2.1 (fun w => by cases w)
  have rf196 := (rw195.2.2.1.trans rf170)
  have rf197 := (rw195.2.2.2.trans rf171)
  have t198 : ty190 x = 200 := rw195.1.trans t143
  have rw199 := gSg.raw g193 rf187 (fun w => by cases w)
  have rf200 := (rw199.2.2.1.trans kh166)
  have rf201 := ((congrArg (fun n : Nat => (n : Int)) rw199.2.2.2).trans rf188)
  have t202 : ty190 c3 = 200 := rw199.1.trans t147
  have t203 : ty190 c29 = 82 := gSg.typ g193 sS186.1 t148 rfl
  have t204 : ty190 c108 = 83 := gSg.typ g193 sS186.1 trq138_0 rfl
  have s205 := gSg.rawat g193 rw169.2.1 (fun w => by cases w) t143 (by decide) s172
  have s206 := gSg.rawat g193 rw169.2.1 (fun w => by cases w) t143 (by decide) s173
  have s207 := gSg.rawat g193 rw169.2.1 (fun w => by cases w) t143 (by decide) s174
  have s208 := gSg.rawat g193 rw169.2.1 (fun w => by cases w) t143 (by decide) s175
  have s209 := gSg.rawat g193 rw169.2.1 (fun w => by cases w) t143 (by decide) s176
  have s210 := gSg.rawat g193 rw169.2.1 (fun w => by cases w) t143 (by decide) s177
  have s211 := gSg.rawat g193 rw169.2.1 (fun w => by cases w) t143 (by decide) s178
  have s212 := gSg.rawat g193 rw169.2.1 (fun w => by cases w) t143 (by decide) s179
  have s213 := gSg.rawat g193 rw169.2.1 (fun w => by cases w) t143 (by decide) s180
  have s214 := gSg.rawat g193 rw169.2.1 (fun w => by cases w) t143 (by decide) s181
  have s215 := gSg.rawat g193 rw169.2.1 (fun w => by cases w) t143 (by decide) s182
  have s216 := gSg.rawat g193 rw169.2.1 (fun w => by cases w) t143 (by decide) s183
  have s217 := gSg.rawat g193 rw169.2.1 (fun w => by cases w) t143 (by decide) s184
  have s218 := gSg.rawat g193 rw169.2.1 (fun w => by cases w) t143 (by decide) s185
  have s219 := gSg.rawat g193 rf187 (fun w => by cases w) t147 (by decide) s189
  have s220 := gSg.rawat g193 rf187 (fun w => by cases w) t147 (by decide) eh166
  have pr221 : gNo [54, 57, 58, 84] ty190 := gNo.gr g193 (by decide) (gNo.sub (by decide) pr164)
  have uq222 := gSg.uq g193 uqq138 (by decide)
  have sS223 : gSs rT 1027 ty190 [] h191 h191 := gSs.rf g193.1
  refine gz_s 1 (pc' := 35) (L' := [some (.ref x)]) (S' := [.ref c192, .ref c192, .int (zi 2), .ref c3, .ref c3, .ref x]) rfl ?_
  refine gz_call rfl (by decide) rfl (by decide) (by decide) (gcal_of rfl rfl rfl (Nat.le_of_ble_eq_true rfl) rfl) (ct_Band2 _ sS223.1 c192 tc192 nnc192 llc192 kc192 zc192 dc192 (gNo.sub (by decide) pr221) uq222) (fun q224 _ wq224 => ?_)
  obtain ⟨pq224, oq224, hq224⟩ := q224
  obtain ⟨tyq224, xq224, trq224_0, gq224, uq224_0, uq224_1, uqq224⟩ := wq224
  dsimp only at uq224_0 uq224_1
  refine ⟨_, gq224, ?_⟩
  show gz gPP gGG gcn _ _ 38 [some (.ref x)] [.ref c192, .int (zi 2), .ref c3, .ref c3, .ref x] hq224 _
  have G225 : gSg [54, 57, 58, 82, 83, 84, 112, 113, 200] [x] [] ty h tyq224 hq224 := gSg.tr (gSg.ss G194 sS223 (by decide)) xq224 (by decide) (by decide) (fun x hx => Or.inl (by rw [List.mem_singleton.mp hx]; exact gac192))
  have rw226 := gSg.raw xq224 rw195.2.1 (fun w => nex_c192 (List.mem_singleton.mp w))
  have rf227 := (rw226.2.2.1.trans rf196)
  have rf228 := (rw226.2.2.2.trans rf197)
  have t229 : tyq224 x = 200 := rw226.1.trans t198
  have rw230 := gSg.raw xq224 rw199.2.1 (fun w => nec3_c192 (List.mem_singleton.mp w))
  have rf231 := (rw230.2.2.1.trans rf200)
  have rf232 := ((congrArg (fun n : Nat => (n : Int)) rw230.2.2.2).trans rf201)
  have t233 : tyq224 c3 = 200 := rw230.1.trans t202
  have t234 : tyq224 c29 = 82 := gSg.typ xq224 sS223.1 t203 rfl
  have t235 : tyq224 c108 = 83 := gSg.typ xq224 sS223.1 t204 rfl
  have s236 := gSg.rawat xq224 rw195.2.1 (fun w => nex_c192 (List.mem_singleton.mp w)) t198 (by decide) s205
  have s237 := gSg.rawat xq224 rw195.2.1 (fun w => nex_c192 (List.mem_singleton.mp w)) t198 (by decide) s206
  have s238 := gSg.rawat xq224 rw195.2.1 (fun w => nex_c192 (List.mem_singleton.mp w)) t198 (by decide) s207
  have s239 := gSg.rawat xq224 rw195.2.1 (fun w => nex_c192 (List.mem_singleton.mp w)) t198 (by decide) s208
  have s240 := gSg.rawat xq224 rw195.2.1 (fun w => nex_c192 (List.mem_singleton.mp w)) t198 (by decide) s209
  have s241 := gSg.rawat xq224 rw195.2.1 (fun w => nex_c192 (List.mem_singleton.mp w)) t198 (by decide) s210
  have s242 := gSg.rawat xq224 rw195.2.1 (fun w => nex_c192 (List.mem_singleton.mp w)) t198 (by decide) s211
  have s243 := gSg.rawat xq224 rw195.2.1 (fun w => nex_c192 (List.mem_singleton.mp w)) t198 (by decide) s212
  have s244 := gSg.rawat xq224 rw195.2.1 (fun w => nex_c192 (List.mem_singleton.mp w)) t198 (by decide) s213
  have s245 := gSg.rawat xq224 rw195.2.1 (fun w => nex_c192 (List.mem_singleton.mp w)) t198 (by decide) s214
  have s246 := gSg.rawat xq224 rw195.2.1 (fun w => nex_c192 (List.mem_singleton.mp w)) t198 (by decide) s215
  have s247 := gSg.rawat xq224 rw195.2.1 (fun w => nex_c192 (List.mem_singleton.mp w)) t198 (by decide) s216
  have s248 := gSg.rawat xq224 rw195.2.1 (fun w => nex_c192 (List.mem_singleton.mp w)) t198 (by decide) s217
  have s249 := gSg.rawat xq224 rw195.2.1 (fun w => nex_c192 (List.mem_singleton.mp w)) t198 (by decide) s218
  have s250 := gSg.rawat xq224 rw199.2.1 (fun w => nec3_c192 (List.mem_singleton.mp w)) t202 (by decide) s219
  have s251 := gSg.rawat xq224 rw199.2.1 (fun w => nec3_c192 (List.mem_singleton.mp w)) t202 (by decide) s220
  have pr252 : gNo [54, 57, 58] tyq224 := gNo.gr xq224 (by decide) (gNo.sub (by decide) pr221)
  have sS253 : gSs rT 1027 tyq224 [] hq224 hq224 := gSs.rf xq224.1
  refine gs_rast (j := 2) rfl (by decide) sS253.1 t233 nnc3 rw230.2.1 rf231 rfl (gJ.cell sS253.1 trq224_0 rfl).1 (gJ.cell sS253.1 trq224_0 rfl).2.1 (gJ.cell sS253.1 trq224_0 rfl).2.2 rfl (by have h9 := rf232; omega) (by have h9 := rf232; omega) (fun h254 g255 nh254 mh254 kh254 zh254 eh254 fh254 => ?_)
  have G256 : gSg [54, 57, 58, 82, 83, 84, 112, 113, 200] [x] [] ty h tyq224 h254 := gSg.tr (gSg.ss G225 sS253 (by decide)) g255 (by decide) (by decide) (fun x hx => Or.inl (by rw [List.mem_singleton.mp hx]; exact gac3))
  have rw257 := gSg.raw g255 rw226.2.1 (fun w => nex_c3 (List.mem_singleton.mp w))
  have rf258 := (rw257.2.2.1.trans rf227)
  have rf259 := (rw257.2.2.2.trans rf228)
  have s260 := gSg.rawat g255 rw226.2.1 (fun w => nex_c3 (List.mem_singleton.mp w)) t229 (by decide) s236
  have s261 := gSg.rawat g255 rw226.2.1 (fun w => nex_c3 (List.mem_singleton.mp w)) t229 (by decide) s237
  have s262 := gSg.rawat g255 rw226.2.1 (fun w => nex_c3 (List.mem_singleton.mp w)) t229 (by decide) s238
  have s263 := gSg.rawat g255 rw226.2.1 (fun w => nex_c3 (List.mem_singleton.mp w)) t229 (by decide) s239
  have s264 := gSg.rawat g255 rw226.2.1 (fun w => nex_c3 (List.mem_singleton.mp w)) t229 (by decide) s240
  have s265 := gSg.rawat g255 rw226.2.1 (fun w => nex_c3 (List.mem_singleton.mp w)) t229 (by decide) s241
  have s266 := gSg.rawat g255 rw226.2.1 (fun w => nex_c3 (List.mem_singleton.mp w)) t229 (by decide) s242
  have s267 := gSg.rawat g255 rw226.2.1 (fun w => nex_c3 (List.mem_singleton.mp w)) t229 (by decide) s243
  have s268 := gSg.rawat g255 rw226.2.1 (fun w => nex_c3 (List.mem_singleton.mp w)) t229 (by decide) s244
  have s269 := gSg.rawat g255 rw226.2.1 (fun w => nex_c3 (List.mem_singleton.mp w)) t229 (by decide) s245
  have s270 := gSg.rawat g255 rw226.2.1 (fun w => nex_c3 (List.mem_singleton.mp w)) t229 (by decide) s246
  have s271 := gSg.rawat g255 rw226.2.1 (fun w => nex_c3 (List.mem_singleton.mp w)) t229 (by decide) s247
  have s272 := gSg.rawat g255 rw226.2.1 (fun w => nex_c3 (List.mem_singleton.mp w)) t229 (by decide) s248
  have s273 := gSg.rawat g255 rw226.2.1 (fun w => nex_c3 (List.mem_singleton.mp w)) t229 (by decide) s249
  have sS274 : gSs rT 1027 tyq224 [] h254 h254 := gSs.rf g255.1
  have rf275 := Nat.lt_of_lt_of_eq rw230.2.1 nh254.symm
  have rf276 := (congrArg (fun n : Nat => (n : Int)) zh254).trans rf232
  have s277 := (fh254 0 (by decide)).trans s250
  have s278 := (fh254 1 (by decide)).trans s251
  refine gs_rput rfl (by decide) rfl sS274.1 t229 nx rw257.2.1 rf258 rfl (Or.inr rfl) (fun h279 g280 nh279 mh279 kh279 zh279 eh279 fh279 => ?_)
  have G281 : gSg [54, 57, 58, 82, 83, 84, 112, 113, 200] [x] [] ty h tyq224 h279 := gSg.tr (gSg.ss G256 sS274 (by decide)) g280 (by decide) (by decide) (fun x hx => Or.inr hx)
  have rw282 := gSg.raw g280 rf275 (fun w => nex_c3.symm (List.mem_singleton.mp w))
  have rf283 := (rw282.2.2.1.trans kh254)
  have rf284 := ((congrArg (fun n : Nat => (n : Int)) rw282.2.2.2).trans rf276)
  have s285 := gSg.rawat g280 rf275 (fun w => nex_c3.symm (List.mem_singleton.mp w)) t233 (by decide) s277
  have s286 := gSg.rawat g280 rf275 (fun w => nex_c3.symm (List.mem_singleton.mp w)) t233 (by decide) s278
  have s287 := gSg.rawat g280 rf275 (fun w => nex_c3.symm (List.mem_singleton.mp w)) t233 (by decide) eh254
  have sS288 : gSs rT 1027 tyq224 [] h279 h279 := gSs.rf g280.1
  have rf289 := Nat.lt_of_lt_of_eq rw257.2.1 nh279.symm
  have rf290 := zh279.trans rf259
  have s291 := (fh279 1 (by decide)).trans s261
  have s292 := (fh279 2 (by decide)).trans s262
  have s293 := (fh279 3 (by decide)).trans s263
  have s294 := (fh279 4 (by decide)).trans s264
  have s295 := (fh279 5 (by decide)).trans s265
  have s296 := (fh279 6 (by decide)).trans s266
  have s297 := (fh279 7 (by decide)).trans s267
  have s298 := (fh279 8 (by decide)).trans s268
  have s299 := (fh279 9 (by decide)).trans s269
  have s300 := (fh279 10 (by decide)).trans s270
  have s301 := (fh279 11 (by decide)).trans s271
  have s302 := (fh279 12 (by decide)).trans s272
  have s303 := (fh279 13 (by decide)).trans s273
  refine gz_s 2 (pc' := 46) (L' := [some (.ref x)]) (S' := [.int (zi 256), .ref x]) rfl ?_
  refine gs_newr 58 rfl (by decide) rfl sS288.1 (Nat.le_of_lt (Nat.lt_of_le_of_lt (gJ.cell sS288.1 t234 rfl).1 (gJ.cell sS288.1 t234 rfl).2.1)) (by omega) (by omega) rfl rfl (by show (256 : Int) ≤ _; omega) (by show _ ≤ (256 : Int); omega) (fun _ _ => gos_i (by decide) (by decide)) (fun ty304 h305 c306 g307 tc306 lc306 nc306 mc306 ec306 dc306 uc306 => ?_)
  have gac306 : h.1 ≤ c306 := by have h8 := G281.2.1; have h9 := sS288.2.1; omega
  have uq308 := uc306 uqq224 (Or.inr (gNo.sub (by decide) pr252))
  have G309 : gSg [54, 57, 58, 82, 83, 84, 112, 113, 200] [x] [] ty h ty304 h305 := gSg.tr (gSg.ss G281 sS288 (by decide)) g307 (by decide) (by decide) (fun x hx => by cases hx)
  have rw310 := gSg.raw g307 rf289 (fun w => by cases w)
  have rf311 := (rw310.2.2.1.trans kh279)
  have rf312 := (rw310.2.2.2.trans rf290)
  have t313 : ty304 x = 200 := rw310.1.trans t229
  have rw314 := gSg.raw g307 rw282.2.1 (fun w => by cases w)
  have rf315 := (rw314.2.2.1.trans rf283)
  have rf316 := ((congrArg (fun n : Nat => (n : Int)) rw314.2.2.2).trans rf284)
  have t317 : ty304 c3 = 200 := rw314.1.trans t233
  have t318 : ty304 c29 = 82 := gSg.typ g307 sS288.1 t234 rfl
  have t319 : ty304 c108 = 83 := gSg.typ g307 sS288.1 t235 rfl
  have t320 : ty304 c192 = 84 := gSg.typ g307 sS288.1 trq224_0 rfl
  have s321 := gSg.rawat g307 rw282.2.1 (fun w => by cases w) t233 (by decide) s285
  have s322 := gSg.rawat g307 rw282.2.1 (fun w => by cases w) t233 (by decide) s286
  have s323 := gSg.rawat g307 rw282.2.1 (fun w => by cases w) t233 (by decide) s287
  have s324 := gSg.rawat g307 rf289 (fun w => by cases w) t229 (by decide) s291
  have s325 := gSg.rawat g307 rf289 (fun w => by cases w) t229 (by decide) s292
  have s326 := gSg.rawat g307 rf289 (fun w => by cases w) t229 (by decide) s293
  have s327 := gSg.rawat g307 rf289 (fun w => by cases w) t229 (by decide) s294
  have s328 := gSg.rawat g307 rf289 (fun w => by cases w) t229 (by decide) s295
  have s329 := gSg.rawat g307 rf289 (fun w => by cases w) t229 (by decide) s296
  have s330 := gSg.rawat g307 rf289 (fun w => by cases w) t229 (by decide) s297
  have s331 := gSg.rawat g307 rf289 (fun w => by cases w) t229 (by decide) s298
  have s332 := gSg.rawat g307 rf289 (fun w => by cases w) t229 (by decide) s299
  have s333 := gSg.rawat g307 rf289 (fun w => by cases w) t229 (by decide) s300
  have s334 := gSg.rawat g307 rf289 (fun w => by cases w) t229 (by decide) s301
  have s335 := gSg.rawat g307 rf289 (fun w => by cases w) t229 (by decide) s302
  have s336 := gSg.rawat g307 rf289 (fun w => by cases w) t229 (by decide) s303
  have s337 := gSg.rawat g307 rf289 (fun w => by cases w) t229 (by decide) eh279
  have pr338 : gNo [54, 57] ty304 := gNo.gr g307 (by decide) (gNo.sub (by decide) pr252)
  have sS339 : gSs rT 1027 ty304 [] h305 h305 := gSs.rf g307.1
  refine gs_rput rfl (by decide) rfl sS339.1 t313 nx rw310.2.1 rf311 rfl (Or.inr rfl) (fun h340 g341 nh340 mh340 kh340 zh340 eh340 fh340 => ?_)
  have G342 : gSg [54, 57, 58, 82, 83, 84, 112, 113, 200] [x] [] ty h ty304 h340 := gSg.tr (gSg.ss G309 sS339 (by decide)) g341 (by decide) (by decide) (fun x hx => Or.inr hx)
  have rw343 := gSg.raw g341 rw314.2.1 (fun w => nex_c3.symm (List.mem_singleton.mp w))
  have rf344 := (rw343.2.2.1.trans rf315)
  have rf345 := ((congrArg (fun n : Nat => (n : Int)) rw343.2.2.2).trans rf316)
  have s346 := gSg.rawat g341 rw314.2.1 (fun w => nex_c3.symm (List.mem_singleton.mp w)) t317 (by decide) s321
  have s347 := gSg.rawat g341 rw314.2.1 (fun w => nex_c3.symm (List.mem_singleton.mp w)) t317 (by decide) s322
  have s348 := gSg.rawat g341 rw314.2.1 (fun w => nex_c3.symm (List.mem_singleton.mp w)) t317 (by decide) s323
  have sS349 : gSs rT 1027 ty304 [] h340 h340 := gSs.rf g341.1
  have rf350 := Nat.lt_of_lt_of_eq rw310.2.1 nh340.symm
  have rf351 := zh340.trans rf312
  have s352 := (fh340 2 (by decide)).trans s325
  have s353 := (fh340 3 (by decide)).trans s326
  have s354 := (fh340 4 (by decide)).trans s327
  have s355 := (fh340 5 (by decide)).trans s328
  have s356 := (fh340 6 (by decide)).trans s329
  have s357 := (fh340 7 (by decide)).trans s330
  have s358 := (fh340 8 (by decide)).trans s331
  have s359 := (fh340 9 (by decide)).trans s332
  have s360 := (fh340 10 (by decide)).trans s333
  have s361 := (fh340 11 (by decide)).trans s334
  have s362 := (fh340 12 (by decide)).trans s335
  have s363 := (fh340 13 (by decide)).trans s336
  have s364 := (fh340 0 (by decide)).trans s337
  refine gz_s 2 (pc' := 53) (L' := [some (.ref x)]) (S' := [.int (zi 0), .ref x]) rfl ?_
  refine gs_newr 112 rfl (by decide) rfl sS349.1 (Nat.le_of_lt (Nat.lt_of_le_of_lt (gJ.cell sS349.1 t318 rfl).1 (gJ.cell sS349.1 t318 rfl).2.1)) (by omega) (by omega) rfl rfl (by show (0 : Int) ≤ _; omega) (by show _ ≤ (12288 : Int); omega) (fun _ _ => gos_i (by decide) (by decide)) (fun ty365 h366 c367 g368 tc367 lc367 nc367 mc367 ec367 dc367 uc367 => ?_)
  have gac367 : h.1 ≤ c367 := by have h8 := G342.2.1; have h9 := sS349.2.1; omega
  have uq369 := uc367 uq308 (Or.inl (by decide))
  have G370 : gSg [54, 57, 58, 82, 83, 84, 112, 113, 200] [x] [] ty h ty365 h366 := gSg.tr (gSg.ss G342 sS349 (by decide)) g368 (by decide) (by decide) (fun x hx => by cases hx)
  have rw371 := gSg.raw g368 rf350 (fun w => by cases w)
  have rf372 := (rw371.2.2.1.trans kh340)
  have rf373 := (rw371.2.2.2.trans rf351)
  have t374 : ty365 x = 200 := rw371.1.trans t313
  have rw375 := gSg.raw g368 rw343.2.1 (fun w => by cases w)
  have rf376 := (rw375.2.2.1.trans rf344)
  have rf377 := ((congrArg (fun n : Nat => (n : Int)) rw375.2.2.2).trans rf345)
  have t378 : ty365 c3 = 200 := rw375.1.trans t317
  have t379 : ty365 c29 = 82 := gSg.typ g368 sS349.1 t318 rfl
  have t380 : ty365 c108 = 83 := gSg.typ g368 sS349.1 t319 rfl
  have t381 : ty365 c192 = 84 := gSg.typ g368 sS349.1 t320 rfl
  have t382 : ty365 c306 = 58 := gSg.typ g368 sS349.1 tc306 rfl
  have s383 := gSg.rawat g368 rw343.2.1 (fun w => by cases w) t317 (by decide) s346
  have s384 := gSg.rawat g368 rw343.2.1 (fun w => by cases w) t317 (by decide) s347
  have s385 := gSg.rawat g368 rw343.2.1 (fun w => by cases w) t317 (by decide) s348
  have s386 := gSg.rawat g368 rf350 (fun w => by cases w) t313 (by decide) s352
  have s387 := gSg.rawat g368 rf350 (fun w => by cases w) t313 (by decide) s353
  have s388 := gSg.rawat g368 rf350 (fun w => by cases w) t313 (by decide) s354
  have s389 := gSg.rawat g368 rf350 (fun w => by cases w) t313 (by decide) s355
  have s390 := gSg.rawat g368 rf350 (fun w => by cases w) t313 (by decide) s356
  have s391 := gSg.rawat g368 rf350 (fun w => by cases w) t313 (by decide) s357
  have s392 := gSg.rawat g368 rf350 (fun w => by cases w) t313 (by decide) s358
  have s393 := gSg.rawat g368 rf350 (fun w => by cases w) t313 (by decide) s359
  have s394 := gSg.rawat g368 rf350 (fun w => by cases w) t313 (by decide) s360
  have s395 := gSg.rawat g368 rf350 (fun w => by cases w) t313 (by decide) s361
  have s396 := gSg.rawat g368 rf350 (fun w => by cases w) t313 (by decide) s362
  have s397 := gSg.rawat g368 rf350 (fun w => by cases w) t313 (by decide) s363
  have s398 := gSg.rawat g368 rf350 (fun w => by cases w) t313 (by decide) s364
  have s399 := gSg.rawat g368 rf350 (fun w => by cases w) t313 (by decide) eh340
  have pr400 : gNo [54, 57] ty365 := gNo.gr g368 (by decide) (gNo.sub (by decide) pr338)
  have sS401 : gSs rT 1027 ty365 [] h366 h366 := gSs.rf g368.1
  refine gs_rput rfl (by decide) rfl sS401.1 t374 nx rw371.2.1 rf372 rfl (Or.inl rfl) (fun h402 g403 nh402 mh402 kh402 zh402 eh402 fh402 => ?_)
  have G404 : gSg [54, 57, 58, 82, 83, 84, 112, 113, 200] [x] [] ty h ty365 h402 := gSg.tr (gSg.ss G370 sS401 (by decide)) g403 (by decide) (by decide) (fun x hx => Or.inr hx)
  have rw405 := gSg.raw g403 rw375.2.1 (fun w => nex_c3.symm (List.mem_singleton.mp w))
  have rf406 := (rw405.2.2.1.trans rf376)
  have rf407 := ((congrArg (fun n : Nat => (n : Int)) rw405.2.2.2).trans rf377)
  have hl408 : h402.2.2.2.1 c367 = h366.2.2.2.1 c367 := gSg.len g403 sS401.1 tc367 rfl
  have s409 := gSg.rawat g403 rw375.2.1 (fun w => nex_c3.symm (List.mem_singleton.mp w)) t378 (by decide) s383
  have s410 := gSg.rawat g403 rw375.2.1 (fun w => nex_c3.symm (List.mem_singleton.mp w)) t378 (by decide) s384
  have s411 := gSg.rawat g403 rw375.2.1 (fun w => nex_c3.symm (List.mem_singleton.mp w)) t378 (by decide) s385
  have sS412 : gSs rT 1027 ty365 [] h402 h402 := gSs.rf g403.1
  have rf413 := Nat.lt_of_lt_of_eq rw371.2.1 nh402.symm
  have rf414 := zh402.trans rf373
  have s415 := (fh402 3 (by decide)).trans s387
  have s416 := (fh402 4 (by decide)).trans s388
  have s417 := (fh402 5 (by decide)).trans s389
  have s418 := (fh402 6 (by decide)).trans s390
  have s419 := (fh402 7 (by decide)).trans s391
  have s420 := (fh402 8 (by decide)).trans s392
  have s421 := (fh402 9 (by decide)).trans s393
  have s422 := (fh402 10 (by decide)).trans s394
  have s423 := (fh402 11 (by decide)).trans s395
  have s424 := (fh402 12 (by decide)).trans s396
  have s425 := (fh402 13 (by decide)).trans s397
  have s426 := (fh402 0 (by decide)).trans s398
  have s427 := (fh402 1 (by decide)).trans s399
  refine gz_s 2 (pc' := 60) (L' := [some (.ref x)]) (S' := [.int (zi 0), .ref x]) rfl ?_
  refine gs_newr 113 rfl (by decide) rfl sS412.1 (Nat.le_of_lt (Nat.lt_of_le_of_lt (gJ.cell sS412.1 t379 rfl).1 (gJ.cell sS412.1 t379 rfl).2.1)) (by omega) (by omega) rfl rfl (by show (0 : Int) ≤ _; omega) (by show _ ≤ (192 : Int); omega) (fun _ _ => gos_i (by decide) (by decide)) (fun ty428 h429 c430 g431 tc430 lc430 nc430 mc430 ec430 dc430 uc430 => ?_)
  have gac430 : h.1 ≤ c430 := by have h8 := G404.2.1; have h9 := sS412.2.1; omega
  have uq432 := uc430 uq369 (Or.inl (by decide))
  have G433 : gSg [54, 57, 58, 82, 83, 84, 112, 113, 200] [x] [] ty h ty428 h429 := gSg.tr (gSg.ss G404 sS412 (by decide)) g431 (by decide) (by decide) (fun x hx => by cases hx)
  have rw434 := gSg.raw g431 rf413 (fun w => by cases w)
  have rf435 := (rw434.2.2.1.trans kh402)
  have rf436 := (rw434.2.2.2.trans rf414)
  have t437 : ty428 x = 200 := rw434.1.trans t374
  have rw438 := gSg.raw g431 rw405.2.1 (fun w => by cases w)
  have rf439 := (rw438.2.2.1.trans rf406)
  have rf440 := ((congrArg (fun n : Nat => (n : Int)) rw438.2.2.2).trans rf407)
  have t441 : ty428 c3 = 200 := rw438.1.trans t378
  have t442 : ty428 c29 = 82 := gSg.typ g431 sS412.1 t379 rfl
  have t443 : ty428 c108 = 83 := gSg.typ g431 sS412.1 t380 rfl
  have t444 : ty428 c192 = 84 := gSg.typ g431 sS412.1 t381 rfl
  have t445 : ty428 c306 = 58 := gSg.typ g431 sS412.1 t382 rfl
  have t446 : ty428 c367 = 112 := gSg.typ g431 sS412.1 tc367 rfl
  have hl447 : h429.2.2.2.1 c367 = h402.2.2.2.1 c367 := gSg.len g431 sS412.1 tc367 rfl
  have s448 := gSg.rawat g431 rw405.2.1 (fun w => by cases w) t378 (by decide) s409
  have s449 := gSg.rawat g431 rw405.2.1 (fun w => by cases w) t378 (by decide) s410
  have s450 := gSg.rawat g431 rw405.2.1 (fun w => by cases w) t378 (by decide) s411
  have s451 := gSg.rawat g431 rf413 (fun w => by cases w) t374 (by decide) s415
  have s452 := gSg.rawat g431 rf413 (fun w => by cases w) t374 (by decide) s416
  have s453 := gSg.rawat g431 rf413 (fun w => by cases w) t374 (by decide) s417
  have s454 := gSg.rawat g431 rf413 (fun w => by cases w) t374 (by decide) s418
  have s455 := gSg.rawat g431 rf413 (fun w => by cases w) t374 (by decide) s419
  have s456 := gSg.rawat g431 rf413 (fun w => by cases w) t374 (by decide) s420
  have s457 := gSg.rawat g431 rf413 (fun w => by cases w) t374 (by decide) s421
  have s458 := gSg.rawat g431 rf413 (fun w => by cases w) t374 (by decide) s422
  have s459 := gSg.rawat g431 rf413 (fun w => by cases w) t374 (by decide) s423
  have s460 := gSg.rawat g431 rf413 (fun w => by cases w) t374 (by decide) s424
  have s461 := gSg.rawat g431 rf413 (fun w => by cases w) t374 (by decide) s425
  have s462 := gSg.rawat g431 rf413 (fun w => by cases w) t374 (by decide) s426
  have s463 := gSg.rawat g431 rf413 (fun w => by cases w) t374 (by decide) s427
  have s464 := gSg.rawat g431 rf413 (fun w => by cases w) t374 (by decide) eh402
  have pr465 : gNo [54, 57] ty428 := gNo.gr g431 (by decide) (gNo.sub (by decide) pr400)
  have sS466 : gSs rT 1027 ty428 [] h429 h429 := gSs.rf g431.1
  refine gs_rput rfl (by decide) rfl sS466.1 t437 nx rw434.2.1 rf435 rfl (Or.inl rfl) (fun h467 g468 nh467 mh467 kh467 zh467 eh467 fh467 => ?_)
  have G469 : gSg [54, 57, 58, 82, 83, 84, 112, 113, 200] [x] [] ty h ty428 h467 := gSg.tr (gSg.ss G433 sS466 (by decide)) g468 (by decide) (by decide) (fun x hx => Or.inr hx)
  have rw470 := gSg.raw g468 rw438.2.1 (fun w => nex_c3.symm (List.mem_singleton.mp w))
  have rf471 := (rw470.2.2.1.trans rf439)
  have rf472 := ((congrArg (fun n : Nat => (n : Int)) rw470.2.2.2).trans rf440)
  have hl473 : h467.2.2.2.1 c367 = h429.2.2.2.1 c367 := gSg.len g468 sS466.1 t446 rfl
  have hl474 : h467.2.2.2.1 c430 = h429.2.2.2.1 c430 := gSg.len g468 sS466.1 tc430 rfl
  have s475 := gSg.rawat g468 rw438.2.1 (fun w => nex_c3.symm (List.mem_singleton.mp w)) t441 (by decide) s448
  have s476 := gSg.rawat g468 rw438.2.1 (fun w => nex_c3.symm (List.mem_singleton.mp w)) t441 (by decide) s449
  have s477 := gSg.rawat g468 rw438.2.1 (fun w => nex_c3.symm (List.mem_singleton.mp w)) t441 (by decide) s450
  have sS478 : gSs rT 1027 ty428 [] h467 h467 := gSs.rf g468.1
  have rf479 := Nat.lt_of_lt_of_eq rw434.2.1 nh467.symm
  have rf480 := zh467.trans rf436
  have s481 := (fh467 4 (by decide)).trans s452
  have s482 := (fh467 5 (by decide)).trans s453
  have s483 := (fh467 6 (by decide)).trans s454
  have s484 := (fh467 7 (by decide)).trans s455
  have s485 := (fh467 8 (by decide)).trans s456
  have s486 := (fh467 9 (by decide)).trans s457
  have s487 := (fh467 10 (by decide)).trans s458
  have s488 := (fh467 11 (by decide)).trans s459
  have s489 := (fh467 12 (by decide)).trans s460
  have s490 := (fh467 13 (by decide)).trans s461
  have s491 := (fh467 0 (by decide)).trans s462
  have s492 := (fh467 1 (by decide)).trans s463
  have s493 := (fh467 2 (by decide)).trans s464
  refine gz_s 2 (pc' := 67) (L' := [some (.ref x)]) (S' := [.int (zi 1), .ref x]) rfl ?_
  refine gs_rput rfl (by decide) rfl sS478.1 t437 nx rf479 kh467 rfl (Or.inl rfl) (fun h494 g495 nh494 mh494 kh494 zh494 eh494 fh494 => ?_)
  have G496 : gSg [54, 57, 58, 82, 83, 84, 112, 113, 200] [x] [] ty h ty428 h494 := gSg.tr (gSg.ss G469 sS478 (by decide)) g495 (by decide) (by decide) (fun x hx => Or.inr hx)
  have rw497 := gSg.raw g495 rw470.2.1 (fun w => nex_c3.symm (List.mem_singleton.mp w))
  have rf498 := (rw497.2.2.1.trans rf471)
  have rf499 := ((congrArg (fun n : Nat => (n : Int)) rw497.2.2.2).trans rf472)
  have hl500 : h494.2.2.2.1 c367 = h467.2.2.2.1 c367 := gSg.len g495 sS478.1 t446 rfl
  have hl501 : h494.2.2.2.1 c430 = h467.2.2.2.1 c430 := gSg.len g495 sS478.1 tc430 rfl
  have s502 := gSg.rawat g495 rw470.2.1 (fun w => nex_c3.symm (List.mem_singleton.mp w)) t441 (by decide) s475
  have s503 := gSg.rawat g495 rw470.2.1 (fun w => nex_c3.symm (List.mem_singleton.mp w)) t441 (by decide) s476
  have s504 := gSg.rawat g495 rw470.2.1 (fun w => nex_c3.symm (List.mem_singleton.mp w)) t441 (by decide) s477
  have sS505 : gSs rT 1027 ty428 [] h494 h494 := gSs.rf g495.1
  have rf506 := Nat.lt_of_lt_of_eq rf479 nh494.symm
  have rf507 := zh494.trans rf480
  have s508 := (fh494 4 (by decide)).trans s481
  have s509 := (fh494 5 (by decide)).trans s482
  have s510 := (fh494 6 (by decide)).trans s483
  have s511 := (fh494 7 (by decide)).trans s484
  have s512 := (fh494 8 (by decide)).trans s485
  have s513 := (fh494 9 (by decide)).trans s486
  have s514 := (fh494 11 (by decide)).trans s488
  have s515 := (fh494 12 (by decide)).trans s489
  have s516 := (fh494 13 (by decide)).trans s490
  have s517 := (fh494 0 (by decide)).trans s491
  have s518 := (fh494 1 (by decide)).trans s492
  have s519 := (fh494 2 (by decide)).trans s493
  have s520 := (fh494 3 (by decide)).trans eh467
  refine gz_s 2 (pc' := 72) (L' := [some (.ref x)]) (S' := [.int (zi 1), .ref x]) rfl ?_
  refine gs_rput rfl (by decide) rfl sS505.1 t437 nx rf506 kh494 rfl (Or.inl rfl) (fun h521 g522 nh521 mh521 kh521 zh521 eh521 fh521 => ?_)
  have G523 : gSg [54, 57, 58, 82, 83, 84, 112, 113, 200] [x] [] ty h ty428 h521 := gSg.tr (gSg.ss G496 sS505 (by decide)) g522 (by decide) (by decide) (fun x hx => Or.inr hx)
  have rw524 := gSg.raw g522 rw497.2.1 (fun w => nex_c3.symm (List.mem_singleton.mp w))
  have rf525 := (rw524.2.2.1.trans rf498)
  have rf526 := ((congrArg (fun n : Nat => (n : Int)) rw524.2.2.2).trans rf499)
  have hl527 : h521.2.2.2.1 c367 = h494.2.2.2.1 c367 := gSg.len g522 sS505.1 t446 rfl
  have hl528 : h521.2.2.2.1 c430 = h494.2.2.2.1 c430 := gSg.len g522 sS505.1 tc430 rfl
  have s529 := gSg.rawat g522 rw497.2.1 (fun w => nex_c3.symm (List.mem_singleton.mp w)) t441 (by decide) s502
  have s530 := gSg.rawat g522 rw497.2.1 (fun w => nex_c3.symm (List.mem_singleton.mp w)) t441 (by decide) s503
  have s531 := gSg.rawat g522 rw497.2.1 (fun w => nex_c3.symm (List.mem_singleton.mp w)) t441 (by decide) s504
  have sS532 : gSs rT 1027 ty428 [] h521 h521 := gSs.rf g522.1
  have rf533 := Nat.lt_of_lt_of_eq rf506 nh521.symm
  have rf534 := zh521.trans rf507
  have s535 := (fh521 4 (by decide)).trans s508
  have s536 := (fh521 5 (by decide)).trans s509
  have s537 := (fh521 6 (by decide)).trans s510
  have s538 := (fh521 7 (by decide)).trans s511
  have s539 := (fh521 8 (by decide)).trans s512
  have s540 := (fh521 9 (by decide)).trans s513
  have s541 := (fh521 12 (by decide)).trans s515
  have s542 := (fh521 13 (by decide)).trans s516
  have s543 := (fh521 0 (by decide)).trans s517
  have s544 := (fh521 1 (by decide)).trans s518
  have s545 := (fh521 2 (by decide)).trans s519
  have s546 := (fh521 3 (by decide)).trans s520
  have s547 := (fh521 10 (by decide)).trans eh494
  obtain ⟨ty549, g548, tg548, ug548⟩ := gSg.adx 57 sS532.1 t441 nnc3 rw524.2.1 rfl rf525 (by show (3 : Nat) ≤ _; have h9 := rf526; omega) (by show _ ≤ (3 : Nat); have h9 := rf526; omega) (fun ty9 w9 k hk => ad57 (by rw [s529]; exact ⟨c29, rfl, w9 c29 _ t442 (by decide)⟩) (by rw [s530]; exact ⟨c108, rfl, w9 c108 _ t443 (by decide)⟩) (by rw [s531]; exact ⟨c192, rfl, w9 c192 _ t444 (by decide)⟩) k (by have h8 : k < h521.2.2.2.1 c3 := hk; have h9 := rf526; omega))
  have uq550 := ug548 uq432 (Or.inr (gNo.sub (by decide) pr465))
  have G551 : gSg [54, 57, 58, 82, 83, 84, 112, 113, 200] [x] [] ty h ty549 h521 := gSg.tr (gSg.ss G523 sS532 (by decide)) g548 (by decide) (by decide) (fun x hx => Or.inl (by rw [List.mem_singleton.mp hx]; exact gac3))
  have rw552 := gSg.raw g548 rf533 (fun w => nex_c3 (List.mem_singleton.mp w))
  have rf553 := (rw552.2.2.1.trans kh521)
  have rf554 := (rw552.2.2.2.trans rf534)
  have t555 : ty549 x = 200 := rw552.1.trans t437
  have t556 : ty549 c29 = 82 := gSg.typ g548 sS532.1 t442 rfl
  have t557 : ty549 c108 = 83 := gSg.typ g548 sS532.1 t443 rfl
  have t558 : ty549 c192 = 84 := gSg.typ g548 sS532.1 t444 rfl
  have t559 : ty549 c306 = 58 := gSg.typ g548 sS532.1 t445 rfl
  have t560 : ty549 c367 = 112 := gSg.typ g548 sS532.1 t446 rfl
  have t561 : ty549 c430 = 113 := gSg.typ g548 sS532.1 tc430 rfl
  have pr562 : gNo [54] ty549 := gNo.gr g548 (by decide) (gNo.sub (by decide) pr465)
  have sS563 : gSs rT 1027 ty549 [] h521 h521 := gSs.rf g548.1
  obtain ⟨ty565, g564, tg564, ug564⟩ := gSg.adx 54 sS563.1 t555 nx rw552.2.1 rfl rf553 (by show (0 : Nat) ≤ _; have h9 := rf554; omega) (by show _ ≤ (0 : Nat); have h9 := rf554; omega) (fun ty9 w9 k hk => ad54 (by rw [s543]; exact ⟨c3, rfl, w9 c3 _ tg548 (by decide)⟩) (by rw [s544]; exact ⟨c306, rfl, w9 c306 _ t559 (by decide)⟩) (by rw [s545]; exact ⟨c367, rfl, w9 c367 _ t560 (by decide)⟩) (by rw [s546]; exact ⟨c430, rfl, w9 c430 _ t561 (by decide)⟩) (by rw [s535]; exact ⟨0, rfl, by show (0 : Int) ≤ _; omega, by show _ ≤ (1 : Int); omega⟩) (by rw [s536]; exact ⟨0, rfl, by show (0 : Int) ≤ _; omega, by show _ ≤ (64 : Int); omega⟩) (by rw [s537]; exact ⟨0, rfl, by show (0 : Int) ≤ _; omega, by show _ ≤ (64 : Int); omega⟩) (by rw [s538]; exact ⟨0, rfl, by show (0 : Int) ≤ _; omega, by show _ ≤ (3 : Int); omega⟩) (by rw [s539]; exact ⟨0, rfl, by show (0 : Int) ≤ _; omega, by show _ ≤ (192 : Int); omega⟩) (by rw [s540]; exact ⟨0, rfl, by show ((-2147483648) : Int) ≤ _; omega, by show _ ≤ (2147483647 : Int); omega⟩) (by rw [s547]; exact ⟨1, rfl, by show (1 : Int) ≤ _; omega, by show _ ≤ (2 : Int); omega⟩) (by rw [eh521]; exact ⟨1, rfl, by show (1 : Int) ≤ _; omega, by show _ ≤ (2 : Int); omega⟩) (by rw [s541]; exact ⟨0, rfl, by show (0 : Int) ≤ _; omega, by show _ ≤ (8 : Int); omega⟩) (by rw [s542]; exact ⟨0, rfl, by show (0 : Int) ≤ _; omega, by show _ ≤ (8 : Int); omega⟩) k)
  have uq566 := ug564 uq550 (Or.inr pr562)
  have G567 : gSg [54, 57, 58, 82, 83, 84, 112, 113, 200] [x] [] ty h ty565 h521 := gSg.tr (gSg.ss G551 sS563 (by decide)) g564 (by decide) (by decide) (fun x hx => Or.inr hx)
  have t568 : ty565 c3 = 57 := gSg.typ g564 sS563.1 tg548 rfl
  have t569 : ty565 c29 = 82 := gSg.typ g564 sS563.1 t556 rfl
  have t570 : ty565 c108 = 83 := gSg.typ g564 sS563.1 t557 rfl
  have t571 : ty565 c192 = 84 := gSg.typ g564 sS563.1 t558 rfl
  have t572 : ty565 c306 = 58 := gSg.typ g564 sS563.1 t559 rfl
  have t573 : ty565 c367 = 112 := gSg.typ g564 sS563.1 t560 rfl
  have t574 : ty565 c430 = 113 := gSg.typ g564 sS563.1 t561 rfl
  have sS575 : gSs rT 1027 ty565 [] h521 h521 := gSs.rf g564.1
  have hl576 : 0 ≤ h521.2.2.2.1 c367 ∧ h521.2.2.2.1 c367 ≤ 12288 := gJ.rowl (G := gGG) sS575.1 t573 rfl
  have hl577 : 0 ≤ h521.2.2.2.1 c430 ∧ h521.2.2.2.1 c430 ≤ 192 := gJ.rowl (G := gGG) sS575.1 t574 rfl
  have hpc578 : gPC ty565 x c29 c108 c192 0 h521 := gPC.zero sS575.1 tg564 s543 t568 s529 t569 s530 t570 s531 t571 s545 t573 s546 t574 s538 0 s539 (by omega) 0 s536 (by omega) (by omega) (by omega) (by omega) (by omega)
  have G579 : gSg [54, 57, 58, 82, 83, 84, 112, 113, 200] [x] [] ty h ty565 h521 := gSg.ss G567 sS575 (by decide)
  exact gz_end (I := .return_) (len := 1) rfl (Or.inl rfl) ⟨ty565, G579, c3, c29, c108, c192, trivial, s543, t568, s529, t569, s530, t570, s531, t571, tg564, rfl, (by dsimp only; omega), (by dsimp only; omega), hpc578, uq566⟩
