/-! ===== methods of the landed text (by program) ===== -/
set_option maxRecDepth 20000 in
set_option maxHeartbeats 4000000 in
theorem ct_ScanReader (d : Nat) {ty : Nat → Nat} {h : gH} (hJ : gJ rT 1027 ty h) (x : Nat) (tx : ty x = 200) (nx : 1027 ≤ x) (lx : x < h.1) (kx : h.2.2.1 x = some (.inr 7)) (zx : h.2.2.2.1 x = 0) (dx : ∀ k, h.2.2.2.2 x k = defaultValue (gGG.2.1 7 k)) (s : Nat) (ts : ty s = 51) (p : Nat) (tp : ty p = 54) (no0 : gNo [66, 67, 68, 69, 70] ty) (uq : gUq ty) : gz gPP gGG gcn (d + 2) gt9 0 (gent [.ref x, .ref s, .ref p] 4) [] h (fun q _ => ∃ ty9 : Nat → Nat, gSg [66, 67, 68, 69, 70, 101, 102, 103, 200] [x] [] ty h ty9 q.2.2 ∧ ty9 x = 66 ∧ gfin gt9 q.1 q.2.1 = some none ∧ ((q.2.2.1 : Int) = h.1 + 28) ∧ ((q.2.2.2.1 : Int) = h.2.1 + 2236) ∧ gUq ty9) := by
  have hS : gSs rT 1027 ty [] h h := gSs.rf hJ
  have G0 : gSg [66, 67, 68, 69, 70, 101, 102, 103, 200] [x] [] ty h ty h := gSg.rf hJ (fun x hx => by rw [List.mem_singleton.mp hx, tx]; rfl)
  refine gz_s 1 (pc' := 1) (L' := [some (.ref x), some (.ref s), some (.ref p), none]) (S' := [.ref x]) rfl ?_
  refine gz_obj rfl (by decide) (by omega) rfl (by decide) ?_
  refine gz_s 2 (pc' := 7) (L' := [some (.ref x), some (.ref s), some (.ref p), none]) (S' := [.int (zi 8), .ref x]) rfl ?_
  refine gs_newq rfl (by decide) rfl hS.1 (Nat.le_of_lt (Nat.lt_of_le_of_lt (gJ.cell hS.1 ts rfl).1 (gJ.cell hS.1 ts rfl).2.1)) (by omega) (by omega) (fun ty1 h2 c3 g4 tc3 kc3 zc3 nc3 mc3 ec3 => ?_)
  have gac3 : h.1 ≤ c3 := by have h8 := G0.2.1; have h9 := hS.2.1; omega
  have nnc3 : 1027 ≤ c3 := by have h8 := (Nat.le_of_lt (Nat.lt_of_le_of_lt (gJ.cell hS.1 ts rfl).1 (gJ.cell hS.1 ts rfl).2.1)); omega
  have llc3 := Nat.lt_of_lt_of_eq (Nat.lt_succ_of_le (Nat.le_of_eq ec3)) nc3.symm
  have nex_c3 : x ≠ c3 := by have h8 := lx; omega
  have G5 : gSg [66, 67, 68, 69, 70, 101, 102, 103, 200] [x] [] ty h ty1 h2 := gSg.tr (gSg.ss G0 hS (by decide)) g4 (by decide) (by decide) (fun x hx => by cases hx)
  have rw6 := gSg.raw g4 lx (fun w => by cases w)
  have rf7 := (rw6.2.2.1.trans kx)
  have rf8 := (rw6.2.2.2.trans zx)
  have dd9 := gSg.rawd (ci := 7) (ps := []) g4 lx (fun w => by cases w) tx (by decide) (fun k _ => dx k)
  have t10 : ty1 x = 200 := rw6.1.trans tx
  have t11 : ty1 s = 51 := gSg.typ g4 hS.1 ts rfl
  have t12 : ty1 p = 54 := gSg.typ g4 hS.1 tp rfl
  have pr13 : gNo [66, 67, 68, 69, 70] ty1 := gNo.gr g4 (by decide) (gNo.sub (by decide) no0)
  have uq14 := gSg.uq g4 uq (by decide)
  have sS15 : gSs rT 1027 ty1 [] h2 h2 := gSs.rf g4.1
  refine gs_rput rfl (by decide) rfl sS15.1 t10 nx rw6.2.1 rf7 rfl (Or.inr rfl) (fun h16 g17 nh16 mh16 kh16 zh16 eh16 fh16 => ?_)
  have G18 : gSg [66, 67, 68, 69, 70, 101, 102, 103, 200] [x] [] ty h ty1 h16 := gSg.tr (gSg.ss G5 sS15 (by decide)) g17 (by decide) (by decide) (fun x hx => Or.inr hx)
  have rw19 := gSg.raw g17 llc3 (fun w => nex_c3.symm (List.mem_singleton.mp w))
  have rf20 := (rw19.2.2.1.trans kc3)
  have rf21 := (gcst rw19.2.2.2 zc3)
  have sS22 : gSs rT 1027 ty1 [] h16 h16 := gSs.rf g17.1
  have rf23 := Nat.lt_of_lt_of_eq rw6.2.1 nh16.symm
  have rf24 := zh16.trans rf8
  have dd25 : ∀ k, ¬ k ∈ ([6] : List Nat) → h16.2.2.2.2 x k = defaultValue (gGG.2.1 7 k) := raw_dp fh16 dd9
  refine gz_s 2 (pc' := 16) (L' := [some (.ref x), some (.ref s), some (.ref p), none]) (S' := [.int (zi 12), .ref x]) rfl ?_
  refine gs_newr 69 rfl (by decide) rfl sS22.1 (Nat.le_of_lt (Nat.lt_of_le_of_lt (gJ.cell sS22.1 t11 rfl).1 (gJ.cell sS22.1 t11 rfl).2.1)) (by omega) (by omega) rfl rfl (by show (12 : Int) ≤ _; omega) (by show _ ≤ (12 : Int); omega) (fun _ _ => gos_i (by decide) (by decide)) (fun ty26 h27 c28 g29 tc28 lc28 nc28 mc28 ec28 dc28 uc28 => ?_)
  have gac28 : h.1 ≤ c28 := by have h8 := G18.2.1; have h9 := sS22.2.1; omega
  have uq30 := uc28 uq14 (Or.inr (gNo.sub (by decide) pr13))
  have G31 : gSg [66, 67, 68, 69, 70, 101, 102, 103, 200] [x] [] ty h ty26 h27 := gSg.tr (gSg.ss G18 sS22 (by decide)) g29 (by decide) (by decide) (fun x hx => by cases hx)
  have rw32 := gSg.raw g29 rf23 (fun w => by cases w)
  have rf33 := (rw32.2.2.1.trans kh16)
  have rf34 := (rw32.2.2.2.trans rf24)
  have dd35 := gSg.rawd (ci := 7) (ps := [6]) g29 rf23 (fun w => by cases w) t10 (by decide) dd25
  have t36 : ty26 x = 200 := rw32.1.trans t10
  have t37 : ty26 s = 51 := gSg.typ g29 sS22.1 t11 rfl
  have t38 : ty26 p = 54 := gSg.typ g29 sS22.1 t12 rfl
  have rw39 := gSg.raw g29 rw19.2.1 (fun w => by cases w)
  have rf40 := (rw39.2.2.1.trans rf20)
  have rf41 := (gcst rw39.2.2.2 rf21)
  have t42 : ty26 c3 = 200 := rw39.1.trans tc3
  have s43 := gSg.rawat g29 rf23 (fun w => by cases w) t10 (by decide) eh16
  have pr44 : gNo [66, 67, 68, 70] ty26 := gNo.gr g29 (by decide) (gNo.sub (by decide) pr13)
  have sS45 : gSs rT 1027 ty26 [] h27 h27 := gSs.rf g29.1
  refine gs_rput rfl (by decide) rfl sS45.1 t36 nx rw32.2.1 rf33 rfl (Or.inr rfl) (fun h46 g47 nh46 mh46 kh46 zh46 eh46 fh46 => ?_)
  have G48 : gSg [66, 67, 68, 69, 70, 101, 102, 103, 200] [x] [] ty h ty26 h46 := gSg.tr (gSg.ss G31 sS45 (by decide)) g47 (by decide) (by decide) (fun x hx => Or.inr hx)
  have rw49 := gSg.raw g47 rw39.2.1 (fun w => nex_c3.symm (List.mem_singleton.mp w))
  have rf50 := (rw49.2.2.1.trans rf40)
  have rf51 := (gcst rw49.2.2.2 rf41)
  have sS52 : gSs rT 1027 ty26 [] h46 h46 := gSs.rf g47.1
  have rf53 := Nat.lt_of_lt_of_eq rw32.2.1 nh46.symm
  have rf54 := zh46.trans rf34
  have dd55 : ∀ k, ¬ k ∈ ([8, 6] : List Nat) → h46.2.2.2.2 x k = defaultValue (gGG.2.1 7 k) := raw_dp fh46 dd35
  have s56 := (fh46 6 (by decide)).trans s43
  refine gz_s 2 (pc' := 24) (L' := [some (.ref x), some (.ref s), some (.ref p), none]) (S' := [.int (zi 12), .ref x]) rfl ?_
  refine gs_newr 70 rfl (by decide) rfl sS52.1 (Nat.le_of_lt (Nat.lt_of_le_of_lt (gJ.cell sS52.1 t37 rfl).1 (gJ.cell sS52.1 t37 rfl).2.1)) (by omega) (by omega) rfl rfl (by show (12 : Int) ≤ _; omega) (by show _ ≤ (12 : Int); omega) (fun _ _ => gos_i (by decide) (by decide)) (fun ty57 h58 c59 g60 tc59 lc59 nc59 mc59 ec59 dc59 uc59 => ?_)
  have gac59 : h.1 ≤ c59 := by have h8 := G48.2.1; have h9 := sS52.2.1; omega
  have uq61 := uc59 uq30 (Or.inr (gNo.sub (by decide) pr44))
  have G62 : gSg [66, 67, 68, 69, 70, 101, 102, 103, 200] [x] [] ty h ty57 h58 := gSg.tr (gSg.ss G48 sS52 (by decide)) g60 (by decide) (by decide) (fun x hx => by cases hx)
  have rw63 := gSg.raw g60 rf53 (fun w => by cases w)
  have rf64 := (rw63.2.2.1.trans kh46)
  have rf65 := (rw63.2.2.2.trans rf54)
  have dd66 := gSg.rawd (ci := 7) (ps := [8, 6]) g60 rf53 (fun w => by cases w) t36 (by decide) dd55
  have t67 : ty57 x = 200 := rw63.1.trans t36
  have t68 : ty57 s = 51 := gSg.typ g60 sS52.1 t37 rfl
  have t69 : ty57 p = 54 := gSg.typ g60 sS52.1 t38 rfl
  have rw70 := gSg.raw g60 rw49.2.1 (fun w => by cases w)
  have rf71 := (rw70.2.2.1.trans rf50)
  have rf72 := (gcst rw70.2.2.2 rf51)
  have t73 : ty57 c3 = 200 := rw70.1.trans t42
  have t74 : ty57 c28 = 69 := gSg.typ g60 sS52.1 tc28 rfl
  have s75 := gSg.rawat g60 rf53 (fun w => by cases w) t36 (by decide) s56
  have s76 := gSg.rawat g60 rf53 (fun w => by cases w) t36 (by decide) eh46
  have pr77 : gNo [66, 67, 68] ty57 := gNo.gr g60 (by decide) (gNo.sub (by decide) pr44)
  have sS78 : gSs rT 1027 ty57 [] h58 h58 := gSs.rf g60.1
  refine gs_rput rfl (by decide) rfl sS78.1 t67 nx rw63.2.1 rf64 rfl (Or.inr rfl) (fun h79 g80 nh79 mh79 kh79 zh79 eh79 fh79 => ?_)
  have G81 : gSg [66, 67, 68, 69, 70, 101, 102, 103, 200] [x] [] ty h ty57 h79 := gSg.tr (gSg.ss G62 sS78 (by decide)) g80 (by decide) (by decide) (fun x hx => Or.inr hx)
  have rw82 := gSg.raw g80 rw70.2.1 (fun w => nex_c3.symm (List.mem_singleton.mp w))
  have rf83 := (rw82.2.2.1.trans rf71)
  have rf84 := (gcst rw82.2.2.2 rf72)
  have sS85 : gSs rT 1027 ty57 [] h79 h79 := gSs.rf g80.1
  have rf86 := Nat.lt_of_lt_of_eq rw63.2.1 nh79.symm
  have rf87 := zh79.trans rf65
  have dd88 : ∀ k, ¬ k ∈ ([9, 8, 6] : List Nat) → h79.2.2.2.2 x k = defaultValue (gGG.2.1 7 k) := raw_dp fh79 dd66
  have s89 := (fh79 6 (by decide)).trans s75
  have s90 := (fh79 8 (by decide)).trans s76
  refine gz_s 2 (pc' := 31) (L' := [some (.ref x), some (.ref s), some (.ref p), none]) (S' := [.ref p, .ref x]) rfl ?_
  refine gs_rput rfl (by decide) rfl sS85.1 t67 nx rf86 kh79 rfl (Or.inr rfl) (fun h91 g92 nh91 mh91 kh91 zh91 eh91 fh91 => ?_)
  have G93 : gSg [66, 67, 68, 69, 70, 101, 102, 103, 200] [x] [] ty h ty57 h91 := gSg.tr (gSg.ss G81 sS85 (by decide)) g92 (by decide) (by decide) (fun x hx => Or.inr hx)
  have rw94 := gSg.raw g92 rw82.2.1 (fun w => nex_c3.symm (List.mem_singleton.mp w))
  have rf95 := (rw94.2.2.1.trans rf83)
  have rf96 := (gcst rw94.2.2.2 rf84)
  have sS97 : gSs rT 1027 ty57 [] h91 h91 := gSs.rf g92.1
  have rf98 := Nat.lt_of_lt_of_eq rf86 nh91.symm
  have rf99 := zh91.trans rf87
  have dd100 : ∀ k, ¬ k ∈ ([7, 9, 8, 6] : List Nat) → h91.2.2.2.2 x k = defaultValue (gGG.2.1 7 k) := raw_dp fh91 dd88
  have s101 := (fh91 6 (by decide)).trans s89
  have s102 := (fh91 8 (by decide)).trans s90
  have s103 := (fh91 9 (by decide)).trans eh79
  refine gz_s 1 (pc' := 35) (L' := [some (.ref x), some (.ref s), some (.ref p), none]) (S' := [.ref x]) rfl ?_
  refine gs_newo rfl (by decide) rfl sS97.1 (Nat.le_of_lt (Nat.lt_of_le_of_lt (gJ.cell sS97.1 t68 rfl).1 (gJ.cell sS97.1 t68 rfl).2.1)) (fun ty104 h105 c106 g107 tc106 kc106 zc106 nc106 mc106 ec106 dc106 => ?_)
  have mfc106 : h105.2.1 = h91.2.1 + 4 := mc106
  have gac106 : h.1 ≤ c106 := by have h8 := G93.2.1; have h9 := sS97.2.1; omega
  have nnc106 : 1027 ≤ c106 := by have h8 := (Nat.le_of_lt (Nat.lt_of_le_of_lt (gJ.cell sS97.1 t68 rfl).1 (gJ.cell sS97.1 t68 rfl).2.1)); omega
  have llc106 := Nat.lt_of_lt_of_eq (Nat.lt_succ_of_le (Nat.le_of_eq ec106)) nc106.symm
  have nex_c106 : x ≠ c106 := by have h8 := rf98; omega
  have nec3_c106 : c3 ≠ c106 := by have h8 := rw94.2.1; omega
  have G108 : gSg [66, 67, 68, 69, 70, 101, 102, 103, 200] [x] [] ty h ty104 h105 := gSg.tr (gSg.ss G93 sS97 (by decide)) g107 (by decide) (by decide) (fun x hx => by cases hx)
  have rw109 := gSg.raw g107 rf98 (fun w => by cases w)
  have rf110 := (rw109.2.2.1.trans kh91)
  have rf111 := (rw109.2.2.2.trans rf99)
  have dd112 := gSg.rawd (ci := 7) (ps := [7, 9, 8, 6]) g107 rf98 (fun w => by cases w) t67 (by decide) dd100
  have t113 : ty104 x = 200 := rw109.1.trans t67
  have t114 : ty104 s = 51 := gSg.typ g107 sS97.1 t68 rfl
  have t115 : ty104 p = 54 := gSg.typ g107 sS97.1 t69 rfl
  have rw116 := gSg.raw g107 rw94.2.1 (fun w => by cases w)
  have rf117 := (rw116.2.2.1.trans rf95)
  have rf118 := (gcst rw116.2.2.2 rf96)
  have t119 : ty104 c3 = 200 := rw116.1.trans t73
  have t120 : ty104 c28 = 69 := gSg.typ g107 sS97.1 t74 rfl
  have t121 : ty104 c59 = 70 := gSg.typ g107 sS97.1 tc59 rfl
  have s122 := gSg.rawat g107 rf98 (fun w => by cases w) t67 (by decide) s101
  have s123 := gSg.rawat g107 rf98 (fun w => by cases w) t67 (by decide) s102
  have s124 := gSg.rawat g107 rf98 (fun w => by cases w) t67 (by decide) s103
  have s125 := gSg.rawat g107 rf98 (fun w => by cases w) t67 (by decide) eh91
  have pr126 : gNo [66, 67, 68] ty104 := gNo.gr g107 (by decide) (gNo.sub (by decide) pr77)
  have uq127 := gSg.uq g107 uq61 (by decide)
  have sS128 : gSs rT 1027 ty104 [] h105 h105 := gSs.rf g107.1
  refine gz_s 2 (pc' := 40) (L' := [some (.ref x), some (.ref s), some (.ref p), none]) (S' := [.ref s, .ref c106, .ref c106, .ref x]) rfl ?_
  refine gz_call rfl (by decide) rfl (by decide) (by decide) (gcal_of rfl rfl rfl (Nat.le_of_ble_eq_true rfl) rfl) (ct_Bits _ sS128.1 c106 tc106 nnc106 llc106 kc106 zc106 dc106 s t114 (gNo.sub (by decide) pr126) uq127) (fun q129 _ wq129 => ?_)
  obtain ⟨pq129, oq129, hq129⟩ := q129
  obtain ⟨tyq129, xq129, trq129_0, gq129, uq129_0, uq129_1, uqq129⟩ := wq129
  dsimp only at uq129_0 uq129_1
  refine ⟨_, gq129, ?_⟩
  show gz gPP gGG gcn _ _ 43 [some (.ref x), some (.ref s), some (.ref p), none] [.ref c106, .ref x] hq129 _
  have G130 : gSg [66, 67, 68, 69, 70, 101, 102, 103, 200] [x] [] ty h tyq129 hq129 := gSg.tr (gSg.ss G108 sS128 (by decide)) xq129 (by decide) (by decide) (fun x hx => Or.inl (by rw [List.mem_singleton.mp hx]; exact gac106))
  have rw131 := gSg.raw xq129 rw109.2.1 (fun w => nex_c106 (List.mem_singleton.mp w))
  have rf132 := (rw131.2.2.1.trans rf110)
  have rf133 := (rw131.2.2.2.trans rf111)
  have dd134 := gSg.rawd (ci := 7) (ps := [7, 9, 8, 6]) xq129 rw109.2.1 (fun w => nex_c106 (List.mem_singleton.mp w)) t113 (by decide) dd112
  have t135 : tyq129 x = 200 := rw131.1.trans t113
  have t136 : tyq129 s = 51 := gSg.typ xq129 sS128.1 t114 rfl
  have t137 : tyq129 p = 54 := gSg.typ xq129 sS128.1 t115 rfl
  have rw138 := gSg.raw xq129 rw116.2.1 (fun w => nec3_c106 (List.mem_singleton.mp w))
  have rf139 := (rw138.2.2.1.trans rf117)
  have rf140 := (gcst rw138.2.2.2 rf118)
  have t141 : tyq129 c3 = 200 := rw138.1.trans t119
  have t142 : tyq129 c28 = 69 := gSg.typ xq129 sS128.1 t120 rfl
  have t143 : tyq129 c59 = 70 := gSg.typ xq129 sS128.1 t121 rfl
  have s144 := gSg.rawat xq129 rw109.2.1 (fun w => nex_c106 (List.mem_singleton.mp w)) t113 (by decide) s122
  have s145 := gSg.rawat xq129 rw109.2.1 (fun w => nex_c106 (List.mem_singleton.mp w)) t113 (by decide) s123
  have s146 := gSg.rawat xq129 rw109.2.1 (fun w => nex_c106 (List.mem_singleton.mp w)) t113 (by decide) s124
  have s147 := gSg.rawat xq129 rw109.2.1 (fun w => nex_c106 (List.mem_singleton.mp w)) t113 (by decide) s125
  have pr148 : gNo [66, 68] tyq129 := gNo.gr xq129 (by decide) (gNo.sub (by decide) pr126)
  have sS149 : gSs rT 1027 tyq129 [] hq129 hq129 := gSs.rf xq129.1
  refine gs_rput rfl (by decide) rfl sS149.1 t135 nx rw131.2.1 rf132 rfl (Or.inr rfl) (fun h150 g151 nh150 mh150 kh150 zh150 eh150 fh150 => ?_)
  have G152 : gSg [66, 67, 68, 69, 70, 101, 102, 103, 200] [x] [] ty h tyq129 h150 := gSg.tr (gSg.ss G130 sS149 (by decide)) g151 (by decide) (by decide) (fun x hx => Or.inr hx)
  have rw153 := gSg.raw g151 rw138.2.1 (fun w => nex_c3.symm (List.mem_singleton.mp w))
  have rf154 := (rw153.2.2.1.trans rf139)
  have rf155 := (gcst rw153.2.2.2 rf140)
  have sS156 : gSs rT 1027 tyq129 [] h150 h150 := gSs.rf g151.1
  have rf157 := Nat.lt_of_lt_of_eq rw131.2.1 nh150.symm
  have rf158 := zh150.trans rf133
  have dd159 : ∀ k, ¬ k ∈ ([0, 7, 9, 8, 6] : List Nat) → h150.2.2.2.2 x k = defaultValue (gGG.2.1 7 k) := raw_dp fh150 dd134
  have s160 := (fh150 6 (by decide)).trans s144
  have s161 := (fh150 8 (by decide)).trans s145
  have s162 := (fh150 9 (by decide)).trans s146
  have s163 := (fh150 7 (by decide)).trans s147
  refine gz_s 4 (pc' := 50) (L' := [some (.ref x), some (.ref s), some (.ref p), some (.int (zi 0))]) (S' := [.ref x, .int (zi 0)]) rfl ?_
  refine gz_get rfl (by decide) rfl nx rf157 kh150 s160 ?_
  refine gs_rlen (z := 8) rfl (by decide) rw153.2.1 rf154 rfl rf155 ?_
  refine gy_icF rfl (by decide) (by decide) ⟨by omega, by omega⟩ ⟨by omega, by omega⟩ (by first | (simp [zc]; done) | (simp only [zc]; omega)) ?_
  refine gz_s 1 (pc' := 58) (L' := [some (.ref x), some (.ref s), some (.ref p), some (.int (zi 0))]) (S' := [.ref x]) rfl ?_
  refine gz_get rfl (by decide) rfl nx rf157 kh150 s160 ?_
  refine gz_s 1 (pc' := 62) (L' := [some (.ref x), some (.ref s), some (.ref p), some (.int (zi 0))]) (S' := [.int (zi 0), .ref c3]) rfl ?_
  refine gs_newo rfl (by decide) rfl sS156.1 (Nat.le_of_lt (Nat.lt_of_le_of_lt (gJ.cell sS156.1 t136 rfl).1 (gJ.cell sS156.1 t136 rfl).2.1)) (fun ty164 h165 c166 g167 tc166 kc166 zc166 nc166 mc166 ec166 dc166 => ?_)
  have mfc166 : h165.2.1 = h150.2.1 + 2 := mc166
  have gac166 : h.1 ≤ c166 := by have h8 := G152.2.1; have h9 := sS156.2.1; omega
  have nnc166 : 1027 ≤ c166 := by have h8 := (Nat.le_of_lt (Nat.lt_of_le_of_lt (gJ.cell sS156.1 t136 rfl).1 (gJ.cell sS156.1 t136 rfl).2.1)); omega
  have llc166 := Nat.lt_of_lt_of_eq (Nat.lt_succ_of_le (Nat.le_of_eq ec166)) nc166.symm
  have nex_c166 : x ≠ c166 := by have h8 := rf157; omega
  have nec3_c166 : c3 ≠ c166 := by have h8 := rw153.2.1; omega
  have G168 : gSg [66, 67, 68, 69, 70, 101, 102, 103, 200] [x] [] ty h ty164 h165 := gSg.tr (gSg.ss G152 sS156 (by decide)) g167 (by decide) (by decide) (fun x hx => by cases hx)
  have rw169 := gSg.raw g167 rf157 (fun w => by cases w)
  have rf170 := (rw169.2.2.1.trans kh150)
  have rf171 := (rw169.2.2.2.trans rf158)
  have dd172 := gSg.rawd (ci := 7) (ps := [0, 7, 9, 8, 6]) g167 rf157 (fun w => by cases w) t135 (by decide) dd159
  have t173 : ty164 x = 200 := rw169.1.trans t135
  have t174 : ty164 s = 51 := gSg.typ g167 sS156.1 t136 rfl
  have t175 : ty164 p = 54 := gSg.typ g167 sS156.1 t137 rfl
  have rw176 := gSg.raw g167 rw153.2.1 (fun w => by cases w)
  have rf177 := (rw176.2.2.1.trans rf154)
  have rf178 := (gcst rw176.2.2.2 rf155)
  have t179 : ty164 c3 = 200 := rw176.1.trans t141
  have t180 : ty164 c28 = 69 := gSg.typ g167 sS156.1 t142 rfl
  have t181 : ty164 c59 = 70 := gSg.typ g167 sS156.1 t143 rfl
  have t182 : ty164 c106 = 67 := gSg.typ g167 sS156.1 trq129_0 rfl
  have s183 := gSg.rawat g167 rf157 (fun w => by cases w) t135 (by decide) s160
  have s184 := gSg.rawat g167 rf157 (fun w => by cases w) t135 (by decide) s161
  have s185 := gSg.rawat g167 rf157 (fun w => by cases w) t135 (by decide) s162
  have s186 := gSg.rawat g167 rf157 (fun w => by cases w) t135 (by decide) s163
  have s187 := gSg.rawat g167 rf157 (fun w => by cases w) t135 (by decide) eh150
  have pr188 : gNo [66, 68] ty164 := gNo.gr g167 (by decide) (gNo.sub (by decide) pr148)
  have uq189 := gSg.uq g167 uqq129 (by decide)
  have sS190 : gSs rT 1027 ty164 [] h165 h165 := gSs.rf g167.1
  refine gz_s 1 (pc' := 66) (L' := [some (.ref x), some (.ref s), some (.ref p), some (.int (zi 0))]) (S' := [.ref c166, .ref c166, .int (zi 0), .ref c3]) rfl ?_
  refine gz_call rfl (by decide) rfl (by decide) (by decide) (gcal_of rfl rfl rfl (Nat.le_of_ble_eq_true rfl) rfl) (ct_Codes _ sS190.1 c166 tc166 nnc166 llc166 kc166 zc166 dc166 uq189) (fun q191 _ wq191 => ?_)
  obtain ⟨pq191, oq191, hq191⟩ := q191
  obtain ⟨tyq191, xq191, trq191_0, gq191, uq191_0, uq191_1⟩ := wq191
  dsimp only at uq191_0 uq191_1
  refine ⟨_, gq191, ?_⟩
  show gz gPP gGG gcn _ _ 69 [some (.ref x), some (.ref s), some (.ref p), some (.int (zi 0))] [.ref c166, .int (zi 0), .ref c3] hq191 _
  have G192 : gSg [66, 67, 68, 69, 70, 101, 102, 103, 200] [x] [] ty h tyq191 hq191 := gSg.tr (gSg.ss G168 sS190 (by decide)) xq191 (by decide) (by decide) (fun x hx => Or.inl (by rw [List.mem_singleton.mp hx]; exact gac166))
  have rw193 := gSg.raw xq191 rw169.2.1 (fun w => nex_c166 (List.mem_singleton.mp w))
  have rf194 := (rw193.2.2.1.trans rf170)
  have rf195 := (rw193.2.2.2.trans rf171)
  have dd196 := gSg.rawd (ci := 7) (ps := [0, 7, 9, 8, 6]) xq191 rw169.2.1 (fun w => nex_c166 (List.mem_singleton.mp w)) t173 (by decide) dd172
  have t197 : tyq191 x = 200 := rw193.1.trans t173
  have t198 : tyq191 s = 51 := gSg.typ xq191 sS190.1 t174 rfl
  have t199 : tyq191 p = 54 := gSg.typ xq191 sS190.1 t175 rfl
  have rw200 := gSg.raw xq191 rw176.2.1 (fun w => nec3_c166 (List.mem_singleton.mp w))
  have rf201 := (rw200.2.2.1.trans rf177)
  have rf202 := (gcst rw200.2.2.2 rf178)
  have t203 : tyq191 c3 = 200 := rw200.1.trans t179
  have t204 : tyq191 c28 = 69 := gSg.typ xq191 sS190.1 t180 rfl
  have t205 : tyq191 c59 = 70 := gSg.typ xq191 sS190.1 t181 rfl
  have t206 : tyq191 c106 = 67 := gSg.typ xq191 sS190.1 t182 rfl
  have s207 := gSg.rawat xq191 rw169.2.1 (fun w => nex_c166 (List.mem_singleton.mp w)) t173 (by decide) s183
  have s208 := gSg.rawat xq191 rw169.2.1 (fun w => nex_c166 (List.mem_singleton.mp w)) t173 (by decide) s184
  have s209 := gSg.rawat xq191 rw169.2.1 (fun w => nex_c166 (List.mem_singleton.mp w)) t173 (by decide) s185
  have s210 := gSg.rawat xq191 rw169.2.1 (fun w => nex_c166 (List.mem_singleton.mp w)) t173 (by decide) s186
  have s211 := gSg.rawat xq191 rw169.2.1 (fun w => nex_c166 (List.mem_singleton.mp w)) t173 (by decide) s187
  have pr212 : gNo [66, 68] tyq191 := gNo.gr xq191 (by decide) (gNo.sub (by decide) pr188)
  have uq213 := gSg.uq xq191 uq189 (by decide)
  have sS214 : gSs rT 1027 tyq191 [] hq191 hq191 := gSs.rf xq191.1
  refine gs_rast (j := 0) rfl (by decide) sS214.1 t203 nnc3 rw200.2.1 rf201 rfl (gJ.cell sS214.1 trq191_0 rfl).1 (gJ.cell sS214.1 trq191_0 rfl).2.1 (gJ.cell sS214.1 trq191_0 rfl).2.2 rfl (by have h9 : (hq191.2.2.2.1 c3 : Int) = 8 := rf202; omega) (by have h9 : (hq191.2.2.2.1 c3 : Int) = 8 := rf202; omega) (fun h215 g216 nh215 mh215 kh215 zh215 eh215 fh215 => ?_)
  have G217 : gSg [66, 67, 68, 69, 70, 101, 102, 103, 200] [x] [] ty h tyq191 h215 := gSg.tr (gSg.ss G192 sS214 (by decide)) g216 (by decide) (by decide) (fun x hx => Or.inl (by rw [List.mem_singleton.mp hx]; exact gac3))
  have rw218 := gSg.raw g216 rw193.2.1 (fun w => nex_c3 (List.mem_singleton.mp w))
  have rf219 := (rw218.2.2.1.trans rf194)
  have rf220 := (rw218.2.2.2.trans rf195)
  have dd221 := gSg.rawd (ci := 7) (ps := [0, 7, 9, 8, 6]) g216 rw193.2.1 (fun w => nex_c3 (List.mem_singleton.mp w)) t197 (by decide) dd196
  have s222 := gSg.rawat g216 rw193.2.1 (fun w => nex_c3 (List.mem_singleton.mp w)) t197 (by decide) s207
  have s223 := gSg.rawat g216 rw193.2.1 (fun w => nex_c3 (List.mem_singleton.mp w)) t197 (by decide) s208
  have s224 := gSg.rawat g216 rw193.2.1 (fun w => nex_c3 (List.mem_singleton.mp w)) t197 (by decide) s209
  have s225 := gSg.rawat g216 rw193.2.1 (fun w => nex_c3 (List.mem_singleton.mp w)) t197 (by decide) s210
  have s226 := gSg.rawat g216 rw193.2.1 (fun w => nex_c3 (List.mem_singleton.mp w)) t197 (by decide) s211
  have sS227 : gSs rT 1027 tyq191 [] h215 h215 := gSs.rf g216.1
  have rf228 := Nat.lt_of_lt_of_eq rw200.2.1 nh215.symm
  have rf229 := gcst zh215 rf202
  refine gy_s 4 (pc' := 50) (L' := [some (.ref x), some (.ref s), some (.ref p), some (.int ((zi 0) + zi 1))]) (S' := [.ref x, .int ((zi 0) + zi 1)]) (L2 := [some (.ref x), some (.ref s), some (.ref p), some (.int (zi 1))]) (S2 := [.ref x, .int (zi 1)]) rfl (by simp only [zi_add, zi_sub, zi_mul, zi_neg, zi_and1, zi_and7, zi_and15, zi_and31, zi_and255, Int.reduceAdd, Int.reduceMul, Int.reduceSub]) (by simp only [zi_add, zi_sub, zi_mul, zi_neg, zi_and1, zi_and7, zi_and15, zi_and31, zi_and255, Int.reduceAdd, Int.reduceMul, Int.reduceSub]) ?_
  refine gz_get rfl (by decide) rfl nx rw218.2.1 rf219 s222 ?_
  refine gs_rlen (z := 8) rfl (by decide) rf228 kh215 rfl rf229 ?_
  refine gy_icF rfl (by decide) (by decide) ⟨by omega, by omega⟩ ⟨by omega, by omega⟩ (by first | (simp [zc]; done) | (simp only [zc]; omega)) ?_
  refine gz_s 1 (pc' := 58) (L' := [some (.ref x), some (.ref s), some (.ref p), some (.int (zi 1))]) (S' := [.ref x]) rfl ?_
  refine gz_get rfl (by decide) rfl nx rw218.2.1 rf219 s222 ?_
  refine gz_s 1 (pc' := 62) (L' := [some (.ref x), some (.ref s), some (.ref p), some (.int (zi 1))]) (S' := [.int (zi 1), .ref c3]) rfl ?_
  refine gs_newo rfl (by decide) rfl sS227.1 (Nat.le_of_lt (Nat.lt_of_le_of_lt (gJ.cell sS227.1 t198 rfl).1 (gJ.cell sS227.1 t198 rfl).2.1)) (fun ty230 h231 c232 g233 tc232 kc232 zc232 nc232 mc232 ec232 dc232 => ?_)
  have mfc232 : h231.2.1 = h215.2.1 + 2 := mc232
  have gac232 : h.1 ≤ c232 := by have h8 := G217.2.1; have h9 := sS227.2.1; omega
  have nnc232 : 1027 ≤ c232 := by have h8 := (Nat.le_of_lt (Nat.lt_of_le_of_lt (gJ.cell sS227.1 t198 rfl).1 (gJ.cell sS227.1 t198 rfl).2.1)); omega
  have llc232 := Nat.lt_of_lt_of_eq (Nat.lt_succ_of_le (Nat.le_of_eq ec232)) nc232.symm
  have nex_c232 : x ≠ c232 := by have h8 := rw218.2.1; omega
  have nec3_c232 : c3 ≠ c232 := by have h8 := rf228; omega
  have G234 : gSg [66, 67, 68, 69, 70, 101, 102, 103, 200] [x] [] ty h ty230 h231 := gSg.tr (gSg.ss G217 sS227 (by decide)) g233 (by decide) (by decide) (fun x hx => by cases hx)
  have rw235 := gSg.raw g233 rw218.2.1 (fun w => by cases w)
  have rf236 := (rw235.2.2.1.trans rf219)
  have rf237 := (rw235.2.2.2.trans rf220)
  have dd238 := gSg.rawd (ci := 7) (ps := [0, 7, 9, 8, 6]) g233 rw218.2.1 (fun w => by cases w) t197 (by decide) dd221
  have t239 : ty230 x = 200 := rw235.1.trans t197
  have t240 : ty230 s = 51 := gSg.typ g233 sS227.1 t198 rfl
  have t241 : ty230 p = 54 := gSg.typ g233 sS227.1 t199 rfl
  have rw242 := gSg.raw g233 rf228 (fun w => by cases w)
  have rf243 := (rw242.2.2.1.trans kh215)
  have rf244 := (gcst rw242.2.2.2 rf229)
  have t245 : ty230 c3 = 200 := rw242.1.trans t203
  have t246 : ty230 c28 = 69 := gSg.typ g233 sS227.1 t204 rfl
  have t247 : ty230 c59 = 70 := gSg.typ g233 sS227.1 t205 rfl
  have t248 : ty230 c106 = 67 := gSg.typ g233 sS227.1 t206 rfl
  have t249 : ty230 c166 = 101 := gSg.typ g233 sS227.1 trq191_0 rfl
  have s250 := gSg.rawat g233 rw218.2.1 (fun w => by cases w) t197 (by decide) s222
  have s251 := gSg.rawat g233 rw218.2.1 (fun w => by cases w) t197 (by decide) s223
  have s252 := gSg.rawat g233 rw218.2.1 (fun w => by cases w) t197 (by decide) s224
  have s253 := gSg.rawat g233 rw218.2.1 (fun w => by cases w) t197 (by decide) s225
  have s254 := gSg.rawat g233 rw218.2.1 (fun w => by cases w) t197 (by decide) s226
  have s255 := gSg.rawat g233 rf228 (fun w => by cases w) t203 (by decide) eh215
  have pr256 : gNo [66, 68] ty230 := gNo.gr g233 (by decide) (gNo.sub (by decide) pr212)
  have uq257 := gSg.uq g233 uq213 (by decide)
  have sS258 : gSs rT 1027 ty230 [] h231 h231 := gSs.rf g233.1
  refine gz_s 1 (pc' := 66) (L' := [some (.ref x), some (.ref s), some (.ref p), some (.int (zi 1))]) (S' := [.ref c232, .ref c232, .int (zi 1), .ref c3]) rfl ?_
  refine gz_call rfl (by decide) rfl (by decide) (by decide) (gcal_of rfl rfl rfl (Nat.le_of_ble_eq_true rfl) rfl) (ct_Codes _ sS258.1 c232 tc232 nnc232 llc232 kc232 zc232 dc232 uq257) (fun q259 _ wq259 => ?_)
  obtain ⟨pq259, oq259, hq259⟩ := q259
  obtain ⟨tyq259, xq259, trq259_0, gq259, uq259_0, uq259_1⟩ := wq259
  dsimp only at uq259_0 uq259_1
  refine ⟨_, gq259, ?_⟩
  show gz gPP gGG gcn _ _ 69 [some (.ref x), some (.ref s), some (.ref p), some (.int (zi 1))] [.ref c232, .int (zi 1), .ref c3] hq259 _
  have G260 : gSg [66, 67, 68, 69, 70, 101, 102, 103, 200] [x] [] ty h tyq259 hq259 := gSg.tr (gSg.ss G234 sS258 (by decide)) xq259 (by decide) (by decide) (fun x hx => Or.inl (by rw [List.mem_singleton.mp hx]; exact gac232))
  have rw261 := gSg.raw xq259 rw235.2.1 (fun w => nex_c232 (List.mem_singleton.mp w))
  have rf262 := (rw261.2.2.1.trans rf236)
  have rf263 := (rw261.2.2.2.trans rf237)
  have dd264 := gSg.rawd (ci := 7) (ps := [0, 7, 9, 8, 6]) xq259 rw235.2.1 (fun w => nex_c232 (List.mem_singleton.mp w)) t239 (by decide) dd238
  have t265 : tyq259 x = 200 := rw261.1.trans t239
  have t266 : tyq259 s = 51 := gSg.typ xq259 sS258.1 t240 rfl
  have t267 : tyq259 p = 54 := gSg.typ xq259 sS258.1 t241 rfl
  have rw268 := gSg.raw xq259 rw242.2.1 (fun w => nec3_c232 (List.mem_singleton.mp w))
  have rf269 := (rw268.2.2.1.trans rf243)
  have rf270 := (gcst rw268.2.2.2 rf244)
  have t271 : tyq259 c3 = 200 := rw268.1.trans t245
  have t272 : tyq259 c28 = 69 := gSg.typ xq259 sS258.1 t246 rfl
  have t273 : tyq259 c59 = 70 := gSg.typ xq259 sS258.1 t247 rfl
  have t274 : tyq259 c106 = 67 := gSg.typ xq259 sS258.1 t248 rfl
  have t275 : tyq259 c166 = 101 := gSg.typ xq259 sS258.1 t249 rfl
  have s276 := gSg.rawat xq259 rw235.2.1 (fun w => nex_c232 (List.mem_singleton.mp w)) t239 (by decide) s250
  have s277 := gSg.rawat xq259 rw235.2.1 (fun w => nex_c232 (List.mem_singleton.mp w)) t239 (by decide) s251
  have s278 := gSg.rawat xq259 rw235.2.1 (fun w => nex_c232 (List.mem_singleton.mp w)) t239 (by decide) s252
  have s279 := gSg.rawat xq259 rw235.2.1 (fun w => nex_c232 (List.mem_singleton.mp w)) t239 (by decide) s253
  have s280 := gSg.rawat xq259 rw235.2.1 (fun w => nex_c232 (List.mem_singleton.mp w)) t239 (by decide) s254
  have s281 := gSg.rawat xq259 rw242.2.1 (fun w => nec3_c232 (List.mem_singleton.mp w)) t245 (by decide) s255
  have pr282 : gNo [66, 68] tyq259 := gNo.gr xq259 (by decide) (gNo.sub (by decide) pr256)
  have uq283 := gSg.uq xq259 uq257 (by decide)
  have sS284 : gSs rT 1027 tyq259 [] hq259 hq259 := gSs.rf xq259.1
  refine gs_rast (j := 1) rfl (by decide) sS284.1 t271 nnc3 rw268.2.1 rf269 rfl (gJ.cell sS284.1 trq259_0 rfl).1 (gJ.cell sS284.1 trq259_0 rfl).2.1 (gJ.cell sS284.1 trq259_0 rfl).2.2 rfl (by have h9 : (hq259.2.2.2.1 c3 : Int) = 8 := rf270; omega) (by have h9 : (hq259.2.2.2.1 c3 : Int) = 8 := rf270; omega) (fun h285 g286 nh285 mh285 kh285 zh285 eh285 fh285 => ?_)
  have G287 : gSg [66, 67, 68, 69, 70, 101, 102, 103, 200] [x] [] ty h tyq259 h285 := gSg.tr (gSg.ss G260 sS284 (by decide)) g286 (by decide) (by decide) (fun x hx => Or.inl (by rw [List.mem_singleton.mp hx]; exact gac3))
  have rw288 := gSg.raw g286 rw261.2.1 (fun w => nex_c3 (List.mem_singleton.mp w))
  have rf289 := (rw288.2.2.1.trans rf262)
  have rf290 := (rw288.2.2.2.trans rf263)
  have dd291 := gSg.rawd (ci := 7) (ps := [0, 7, 9, 8, 6]) g286 rw261.2.1 (fun w => nex_c3 (List.mem_singleton.mp w)) t265 (by decide) dd264
  have s292 := gSg.rawat g286 rw261.2.1 (fun w => nex_c3 (List.mem_singleton.mp w)) t265 (by decide) s276
  have s293 := gSg.rawat g286 rw261.2.1 (fun w => nex_c3 (List.mem_singleton.mp w)) t265 (by decide) s277
  have s294 := gSg.rawat g286 rw261.2.1 (fun w => nex_c3 (List.mem_singleton.mp w)) t265 (by decide) s278
  have s295 := gSg.rawat g286 rw261.2.1 (fun w => nex_c3 (List.mem_singleton.mp w)) t265 (by decide) s279
  have s296 := gSg.rawat g286 rw261.2.1 (fun w => nex_c3 (List.mem_singleton.mp w)) t265 (by decide) s280
  have sS297 : gSs rT 1027 tyq259 [] h285 h285 := gSs.rf g286.1
  have rf298 := Nat.lt_of_lt_of_eq rw268.2.1 nh285.symm
  have rf299 := gcst zh285 rf270
  have s300 := (fh285 0 (by decide)).trans s281
  refine gy_s 4 (pc' := 50) (L' := [some (.ref x), some (.ref s), some (.ref p), some (.int ((zi 1) + zi 1))]) (S' := [.ref x, .int ((zi 1) + zi 1)]) (L2 := [some (.ref x), some (.ref s), some (.ref p), some (.int (zi 2))]) (S2 := [.ref x, .int (zi 2)]) rfl (by simp only [zi_add, zi_sub, zi_mul, zi_neg, zi_and1, zi_and7, zi_and15, zi_and31, zi_and255, Int.reduceAdd, Int.reduceMul, Int.reduceSub]) (by simp only [zi_add, zi_sub, zi_mul, zi_neg, zi_and1, zi_and7, zi_and15, zi_and31, zi_and255, Int.reduceAdd, Int.reduceMul, Int.reduceSub]) ?_
  refine gz_get rfl (by decide) rfl nx rw288.2.1 rf289 s292 ?_
  refine gs_rlen (z := 8) rfl (by decide) rf298 kh285 rfl rf299 ?_
  refine gy_icF rfl (by decide) (by decide) ⟨by omega, by omega⟩ ⟨by omega, by omega⟩ (by first | (simp [zc]; done) | (simp only [zc]; omega)) ?_
  refine gz_s 1 (pc' := 58) (L' := [some (.ref x), some (.ref s), some (.ref p), some (.int (zi 2))]) (S' := [.ref x]) rfl ?_
  refine gz_get rfl (by decide) rfl nx rw288.2.1 rf289 s292 ?_
  refine gz_s 1 (pc' := 62) (L' := [some (.ref x), some (.ref s), some (.ref p), some (.int (zi 2))]) (S' := [.int (zi 2), .ref c3]) rfl ?_
  refine gs_newo rfl (by decide) rfl sS297.1 (Nat.le_of_lt (Nat.lt_of_le_of_lt (gJ.cell sS297.1 t266 rfl).1 (gJ.cell sS297.1 t266 rfl).2.1)) (fun ty301 h302 c303 g304 tc303 kc303 zc303 nc303 mc303 ec303 dc303 => ?_)
  have mfc303 : h302.2.1 = h285.2.1 + 2 := mc303
  have gac303 : h.1 ≤ c303 := by have h8 := G287.2.1; have h9 := sS297.2.1; omega
  have nnc303 : 1027 ≤ c303 := by have h8 := (Nat.le_of_lt (Nat.lt_of_le_of_lt (gJ.cell sS297.1 t266 rfl).1 (gJ.cell sS297.1 t266 rfl).2.1)); omega
  have llc303 := Nat.lt_of_lt_of_eq (Nat.lt_succ_of_le (Nat.le_of_eq ec303)) nc303.symm
  have nex_c303 : x ≠ c303 := by have h8 := rw288.2.1; omega
  have nec3_c303 : c3 ≠ c303 := by have h8 := rf298; omega
  have G305 : gSg [66, 67, 68, 69, 70, 101, 102, 103, 200] [x] [] ty h ty301 h302 := gSg.tr (gSg.ss G287 sS297 (by decide)) g304 (by decide) (by decide) (fun x hx => by cases hx)
  have rw306 := gSg.raw g304 rw288.2.1 (fun w => by cases w)
  have rf307 := (rw306.2.2.1.trans rf289)
  have rf308 := (rw306.2.2.2.trans rf290)
  have dd309 := gSg.rawd (ci := 7) (ps := [0, 7, 9, 8, 6]) g304 rw288.2.1 (fun w => by cases w) t265 (by decide) dd291
  have t310 : ty301 x = 200 := rw306.1.trans t265
  have t311 : ty301 s = 51 := gSg.typ g304 sS297.1 t266 rfl
  have t312 : ty301 p = 54 := gSg.typ g304 sS297.1 t267 rfl
  have rw313 := gSg.raw g304 rf298 (fun w => by cases w)
  have rf314 := (rw313.2.2.1.trans kh285)
  have rf315 := (gcst rw313.2.2.2 rf299)
  have t316 : ty301 c3 = 200 := rw313.1.trans t271
  have t317 : ty301 c28 = 69 := gSg.typ g304 sS297.1 t272 rfl
  have t318 : ty301 c59 = 70 := gSg.typ g304 sS297.1 t273 rfl
  have t319 : ty301 c106 = 67 := gSg.typ g304 sS297.1 t274 rfl
  have t320 : ty301 c166 = 101 := gSg.typ g304 sS297.1 t275 rfl
  have t321 : ty301 c232 = 101 := gSg.typ g304 sS297.1 trq259_0 rfl
  have s322 := gSg.rawat g304 rw288.2.1 (fun w => by cases w) t265 (by decide) s292
  have s323 := gSg.rawat g304 rw288.2.1 (fun w => by cases w) t265 (by decide) s293
  have s324 := gSg.rawat g304 rw288.2.1 (fun w => by cases w) t265 (by decide) s294
  have s325 := gSg.rawat g304 rw288.2.1 (fun w => by cases w) t265 (by decide) s295
  have s326 := gSg.rawat g304 rw288.2.1 (fun w => by cases w) t265 (by decide) s296
  have s327 := gSg.rawat g304 rf298 (fun w => by cases w) t271 (by decide) s300
  have s328 := gSg.rawat g304 rf298 (fun w => by cases w) t271 (by decide) eh285
  have pr329 : gNo [66, 68] ty301 := gNo.gr g304 (by decide) (gNo.sub (by decide) pr282)
  have uq330 := gSg.uq g304 uq283 (by decide)
  have sS331 : gSs rT 1027 ty301 [] h302 h302 := gSs.rf g304.1
  refine gz_s 1 (pc' := 66) (L' := [some (.ref x), some (.ref s), some (.ref p), some (.int (zi 2))]) (S' := [.ref c303, .ref c303, .int (zi 2), .ref c3]) rfl ?_
  refine gz_call rfl (by decide) rfl (by decide) (by decide) (gcal_of rfl rfl rfl (Nat.le_of_ble_eq_true rfl) rfl) (ct_Codes _ sS331.1 c303 tc303 nnc303 llc303 kc303 zc303 dc303 uq330) (fun q332 _ wq332 => ?_)
  obtain ⟨pq332, oq332, hq332⟩ := q332
  obtain ⟨tyq332, xq332, trq332_0, gq332, uq332_0, uq332_1⟩ := wq332
  dsimp only at uq332_0 uq332_1
  refine ⟨_, gq332, ?_⟩
  show gz gPP gGG gcn _ _ 69 [some (.ref x), some (.ref s), some (.ref p), some (.int (zi 2))] [.ref c303, .int (zi 2), .ref c3] hq332 _
  have G333 : gSg [66, 67, 68, 69, 70, 101, 102, 103, 200] [x] [] ty h tyq332 hq332 := gSg.tr (gSg.ss G305 sS331 (by decide)) xq332 (by decide) (by decide) (fun x hx => Or.inl (by rw [List.mem_singleton.mp hx]; exact gac303))
  have rw334 := gSg.raw xq332 rw306.2.1 (fun w => nex_c303 (List.mem_singleton.mp w))
  have rf335 := (rw334.2.2.1.trans rf307)
  have rf336 := (rw334.2.2.2.trans rf308)
  have dd337 := gSg.rawd (ci := 7) (ps := [0, 7, 9, 8, 6]) xq332 rw306.2.1 (fun w => nex_c303 (List.mem_singleton.mp w)) t310 (by decide) dd309
  have t338 : tyq332 x = 200 := rw334.1.trans t310
  have t339 : tyq332 s = 51 := gSg.typ xq332 sS331.1 t311 rfl
  have t340 : tyq332 p = 54 := gSg.typ xq332 sS331.1 t312 rfl
  have rw341 := gSg.raw xq332 rw313.2.1 (fun w => nec3_c303 (List.mem_singleton.mp w))
  have rf342 := (rw341.2.2.1.trans rf314)
  have rf343 := (gcst rw341.2.2.2 rf315)
  have t344 : tyq332 c3 = 200 := rw341.1.trans t316
  have t345 : tyq332 c28 = 69 := gSg.typ xq332 sS331.1 t317 rfl
  have t346 : tyq332 c59 = 70 := gSg.typ xq332 sS331.1 t318 rfl
  have t347 : tyq332 c106 = 67 := gSg.typ xq332 sS331.1 t319 rfl
  have t348 : tyq332 c166 = 101 := gSg.typ xq332 sS331.1 t320 rfl
  have t349 : tyq332 c232 = 101 := gSg.typ xq332 sS331.1 t321 rfl
  have s350 := gSg.rawat xq332 rw306.2.1 (fun w => nex_c303 (List.mem_singleton.mp w)) t310 (by decide) s322
  have s351 := gSg.rawat xq332 rw306.2.1 (fun w => nex_c303 (List.mem_singleton.mp w)) t310 (by decide) s323
  have s352 := gSg.rawat xq332 rw306.2.1 (fun w => nex_c303 (List.mem_singleton.mp w)) t310 (by decide) s324
  have s353 := gSg.rawat xq332 rw306.2.1 (fun w => nex_c303 (List.mem_singleton.mp w)) t310 (by decide) s325
  have s354 := gSg.rawat xq332 rw306.2.1 (fun w => nex_c303 (List.mem_singleton.mp w)) t310 (by decide) s326
  have s355 := gSg.rawat xq332 rw313.2.1 (fun w => nec3_c303 (List.mem_singleton.mp w)) t316 (by decide) s327
  have s356 := gSg.rawat xq332 rw313.2.1 (fun w => nec3_c303 (List.mem_singleton.mp w)) t316 (by decide) s328
  have pr357 : gNo [66, 68] tyq332 := gNo.gr xq332 (by decide) (gNo.sub (by decide) pr329)
  have uq358 := gSg.uq xq332 uq330 (by decide)
  have sS359 : gSs rT 1027 tyq332 [] hq332 hq332 := gSs.rf xq332.1
  refine gs_rast (j := 2) rfl (by decide) sS359.1 t344 nnc3 rw341.2.1 rf342 rfl (gJ.cell sS359.1 trq332_0 rfl).1 (gJ.cell sS359.1 trq332_0 rfl).2.1 (gJ.cell sS359.1 trq332_0 rfl).2.2 rfl (by have h9 : (hq332.2.2.2.1 c3 : Int) = 8 := rf343; omega) (by have h9 : (hq332.2.2.2.1 c3 : Int) = 8 := rf343; omega) (fun h360 g361 nh360 mh360 kh360 zh360 eh360 fh360 => ?_)
  have G362 : gSg [66, 67, 68, 69, 70, 101, 102, 103, 200] [x] [] ty h tyq332 h360 := gSg.tr (gSg.ss G333 sS359 (by decide)) g361 (by decide) (by decide) (fun x hx => Or.inl (by rw [List.mem_singleton.mp hx]; exact gac3))
  have rw363 := gSg.raw g361 rw334.2.1 (fun w => nex_c3 (List.mem_singleton.mp w))
  have rf364 := (rw363.2.2.1.trans rf335)
  have rf365 := (rw363.2.2.2.trans rf336)
  have dd366 := gSg.rawd (ci := 7) (ps := [0, 7, 9, 8, 6]) g361 rw334.2.1 (fun w => nex_c3 (List.mem_singleton.mp w)) t338 (by decide) dd337
  have s367 := gSg.rawat g361 rw334.2.1 (fun w => nex_c3 (List.mem_singleton.mp w)) t338 (by decide) s350
  have s368 := gSg.rawat g361 rw334.2.1 (fun w => nex_c3 (List.mem_singleton.mp w)) t338 (by decide) s351
  have s369 := gSg.rawat g361 rw334.2.1 (fun w => nex_c3 (List.mem_singleton.mp w)) t338 (by decide) s352
  have s370 := gSg.rawat g361 rw334.2.1 (fun w => nex_c3 (List.mem_singleton.mp w)) t338 (by decide) s353
  have s371 := gSg.rawat g361 rw334.2.1 (fun w => nex_c3 (List.mem_singleton.mp w)) t338 (by decide) s354
  have sS372 : gSs rT 1027 tyq332 [] h360 h360 := gSs.rf g361.1
  have rf373 := Nat.lt_of_lt_of_eq rw341.2.1 nh360.symm
  have rf374 := gcst zh360 rf343
  have s375 := (fh360 0 (by decide)).trans s355
  have s376 := (fh360 1 (by decide)).trans s356
  refine gy_s 4 (pc' := 50) (L' := [some (.ref x), some (.ref s), some (.ref p), some (.int ((zi 2) + zi 1))]) (S' := [.ref x, .int ((zi 2) + zi 1)]) (L2 := [some (.ref x), some (.ref s), some (.ref p), some (.int (zi 3))]) (S2 := [.ref x, .int (zi 3)]) rfl (by simp only [zi_add, zi_sub, zi_mul, zi_neg, zi_and1, zi_and7, zi_and15, zi_and31, zi_and255, Int.reduceAdd, Int.reduceMul, Int.reduceSub]) (by simp only [zi_add, zi_sub, zi_mul, zi_neg, zi_and1, zi_and7, zi_and15, zi_and31, zi_and255, Int.reduceAdd, Int.reduceMul, Int.reduceSub]) ?_
  refine gz_get rfl (by decide) rfl nx rw363.2.1 rf364 s367 ?_
  refine gs_rlen (z := 8) rfl (by decide) rf373 kh360 rfl rf374 ?_
  refine gy_icF rfl (by decide) (by decide) ⟨by omega, by omega⟩ ⟨by omega, by omega⟩ (by first | (simp [zc]; done) | (simp only [zc]; omega)) ?_
  refine gz_s 1 (pc' := 58) (L' := [some (.ref x), some (.ref s), some (.ref p), some (.int (zi 3))]) (S' := [.ref x]) rfl ?_
  refine gz_get rfl (by decide) rfl nx rw363.2.1 rf364 s367 ?_
  refine gz_s 1 (pc' := 62) (L' := [some (.ref x), some (.ref s), some (.ref p), some (.int (zi 3))]) (S' := [.int (zi 3), .ref c3]) rfl ?_
  refine gs_newo rfl (by decide) rfl sS372.1 (Nat.le_of_lt (Nat.lt_of_le_of_lt (gJ.cell sS372.1 t339 rfl).1 (gJ.cell sS372.1 t339 rfl).2.1)) (fun ty377 h378 c379 g380 tc379 kc379 zc379 nc379 mc379 ec379 dc379 => ?_)
  have mfc379 : h378.2.1 = h360.2.1 + 2 := mc379
  have gac379 : h.1 ≤ c379 := by have h8 := G362.2.1; have h9 := sS372.2.1; omega
  have nnc379 : 1027 ≤ c379 := by have h8 := (Nat.le_of_lt (Nat.lt_of_le_of_lt (gJ.cell sS372.1 t339 rfl).1 (gJ.cell sS372.1 t339 rfl).2.1)); omega
  have llc379 := Nat.lt_of_lt_of_eq (Nat.lt_succ_of_le (Nat.le_of_eq ec379)) nc379.symm
  have nex_c379 : x ≠ c379 := by have h8 := rw363.2.1; omega
  have nec3_c379 : c3 ≠ c379 := by have h8 := rf373; omega
  have G381 : gSg [66, 67, 68, 69, 70, 101, 102, 103, 200] [x] [] ty h ty377 h378 := gSg.tr (gSg.ss G362 sS372 (by decide)) g380 (by decide) (by decide) (fun x hx => by cases hx)
  have rw382 := gSg.raw g380 rw363.2.1 (fun w => by cases w)
  have rf383 := (rw382.2.2.1.trans rf364)
  have rf384 := (rw382.2.2.2.trans rf365)
  have dd385 := gSg.rawd (ci := 7) (ps := [0, 7, 9, 8, 6]) g380 rw363.2.1 (fun w => by cases w) t338 (by decide) dd366
  have t386 : ty377 x = 200 := rw382.1.trans t338
  have t387 : ty377 s = 51 := gSg.typ g380 sS372.1 t339 rfl
  have t388 : ty377 p = 54 := gSg.typ g380 sS372.1 t340 rfl
  have rw389 := gSg.raw g380 rf373 (fun w => by cases w)
  have rf390 := (rw389.2.2.1.trans kh360)
  have rf391 := (gcst rw389.2.2.2 rf374)
  have t392 : ty377 c3 = 200 := rw389.1.trans t344
  have t393 : ty377 c28 = 69 := gSg.typ g380 sS372.1 t345 rfl
  have t394 : ty377 c59 = 70 := gSg.typ g380 sS372.1 t346 rfl
  have t395 : ty377 c106 = 67 := gSg.typ g380 sS372.1 t347 rfl
  have t396 : ty377 c166 = 101 := gSg.typ g380 sS372.1 t348 rfl
  have t397 : ty377 c232 = 101 := gSg.typ g380 sS372.1 t349 rfl
  have t398 : ty377 c303 = 101 := gSg.typ g380 sS372.1 trq332_0 rfl
  have s399 := gSg.rawat g380 rw363.2.1 (fun w => by cases w) t338 (by decide) s367
  have s400 := gSg.rawat g380 rw363.2.1 (fun w => by cases w) t338 (by decide) s368
  have s401 := gSg.rawat g380 rw363.2.1 (fun w => by cases w) t338 (by decide) s369
  have s402 := gSg.rawat g380 rw363.2.1 (fun w => by cases w) t338 (by decide) s370
  have s403 := gSg.rawat g380 rw363.2.1 (fun w => by cases w) t338 (by decide) s371
  have s404 := gSg.rawat g380 rf373 (fun w => by cases w) t344 (by decide) s375
  have s405 := gSg.rawat g380 rf373 (fun w => by cases w) t344 (by decide) s376
  have s406 := gSg.rawat g380 rf373 (fun w => by cases w) t344 (by decide) eh360
  have pr407 : gNo [66, 68] ty377 := gNo.gr g380 (by decide) (gNo.sub (by decide) pr357)
  have uq408 := gSg.uq g380 uq358 (by decide)
  have sS409 : gSs rT 1027 ty377 [] h378 h378 := gSs.rf g380.1
  refine gz_s 1 (pc' := 66) (L' := [some (.ref x), some (.ref s), some (.ref p), some (.int (zi 3))]) (S' := [.ref c379, .ref c379, .int (zi 3), .ref c3]) rfl ?_
  refine gz_call rfl (by decide) rfl (by decide) (by decide) (gcal_of rfl rfl rfl (Nat.le_of_ble_eq_true rfl) rfl) (ct_Codes _ sS409.1 c379 tc379 nnc379 llc379 kc379 zc379 dc379 uq408) (fun q410 _ wq410 => ?_)
  obtain ⟨pq410, oq410, hq410⟩ := q410
  obtain ⟨tyq410, xq410, trq410_0, gq410, uq410_0, uq410_1⟩ := wq410
  dsimp only at uq410_0 uq410_1
  refine ⟨_, gq410, ?_⟩
  show gz gPP gGG gcn _ _ 69 [some (.ref x), some (.ref s), some (.ref p), some (.int (zi 3))] [.ref c379, .int (zi 3), .ref c3] hq410 _
  have G411 : gSg [66, 67, 68, 69, 70, 101, 102, 103, 200] [x] [] ty h tyq410 hq410 := gSg.tr (gSg.ss G381 sS409 (by decide)) xq410 (by decide) (by decide) (fun x hx => Or.inl (by rw [List.mem_singleton.mp hx]; exact gac379))
  have rw412 := gSg.raw xq410 rw382.2.1 (fun w => nex_c379 (List.mem_singleton.mp w))
  have rf413 := (rw412.2.2.1.trans rf383)
  have rf414 := (rw412.2.2.2.trans rf384)
  have dd415 := gSg.rawd (ci := 7) (ps := [0, 7, 9, 8, 6]) xq410 rw382.2.1 (fun w => nex_c379 (List.mem_singleton.mp w)) t386 (by decide) dd385
  have t416 : tyq410 x = 200 := rw412.1.trans t386
  have t417 : tyq410 s = 51 := gSg.typ xq410 sS409.1 t387 rfl
  have t418 : tyq410 p = 54 := gSg.typ xq410 sS409.1 t388 rfl
  have rw419 := gSg.raw xq410 rw389.2.1 (fun w => nec3_c379 (List.mem_singleton.mp w))
  have rf420 := (rw419.2.2.1.trans rf390)
  have rf421 := (gcst rw419.2.2.2 rf391)
  have t422 : tyq410 c3 = 200 := rw419.1.trans t392
  have t423 : tyq410 c28 = 69 := gSg.typ xq410 sS409.1 t393 rfl
  have t424 : tyq410 c59 = 70 := gSg.typ xq410 sS409.1 t394 rfl
  have t425 : tyq410 c106 = 67 := gSg.typ xq410 sS409.1 t395 rfl
  have t426 : tyq410 c166 = 101 := gSg.typ xq410 sS409.1 t396 rfl
  have t427 : tyq410 c232 = 101 := gSg.typ xq410 sS409.1 t397 rfl
  have t428 : tyq410 c303 = 101 := gSg.typ xq410 sS409.1 t398 rfl
  have s429 := gSg.rawat xq410 rw382.2.1 (fun w => nex_c379 (List.mem_singleton.mp w)) t386 (by decide) s399
  have s430 := gSg.rawat xq410 rw382.2.1 (fun w => nex_c379 (List.mem_singleton.mp w)) t386 (by decide) s400
  have s431 := gSg.rawat xq410 rw382.2.1 (fun w => nex_c379 (List.mem_singleton.mp w)) t386 (by decide) s401
  have s432 := gSg.rawat xq410 rw382.2.1 (fun w => nex_c379 (List.mem_singleton.mp w)) t386 (by decide) s402
  have s433 := gSg.rawat xq410 rw382.2.1 (fun w => nex_c379 (List.mem_singleton.mp w)) t386 (by decide) s403
  have s434 := gSg.rawat xq410 rw389.2.1 (fun w => nec3_c379 (List.mem_singleton.mp w)) t392 (by decide) s404
  have s435 := gSg.rawat xq410 rw389.2.1 (fun w => nec3_c379 (List.mem_singleton.mp w)) t392 (by decide) s405
  have s436 := gSg.rawat xq410 rw389.2.1 (fun w => nec3_c379 (List.mem_singleton.mp w)) t392 (by decide) s406
  have pr437 : gNo [66, 68] tyq410 := gNo.gr xq410 (by decide) (gNo.sub (by decide) pr407)
  have uq438 := gSg.uq xq410 uq408 (by decide)
  have sS439 : gSs rT 1027 tyq410 [] hq410 hq410 := gSs.rf xq410.1
  refine gs_rast (j := 3) rfl (by decide) sS439.1 t422 nnc3 rw419.2.1 rf420 rfl (gJ.cell sS439.1 trq410_0 rfl).1 (gJ.cell sS439.1 trq410_0 rfl).2.1 (gJ.cell sS439.1 trq410_0 rfl).2.2 rfl (by have h9 : (hq410.2.2.2.1 c3 : Int) = 8 := rf421; omega) (by have h9 : (hq410.2.2.2.1 c3 : Int) = 8 := rf421; omega) (fun h440 g441 nh440 mh440 kh440 zh440 eh440 fh440 => ?_)
  have G442 : gSg [66, 67, 68, 69, 70, 101, 102, 103, 200] [x] [] ty h tyq410 h440 := gSg.tr (gSg.ss G411 sS439 (by decide)) g441 (by decide) (by decide) (fun x hx => Or.inl (by rw [List.mem_singleton.mp hx]; exact gac3))
  have rw443 := gSg.raw g441 rw412.2.1 (fun w => nex_c3 (List.mem_singleton.mp w))
  have rf444 := (rw443.2.2.1.trans rf413)
  have rf445 := (rw443.2.2.2.trans rf414)
  have dd446 := gSg.rawd (ci := 7) (ps := [0, 7, 9, 8, 6]) g441 rw412.2.1 (fun w => nex_c3 (List.mem_singleton.mp w)) t416 (by decide) dd415
  have s447 := gSg.rawat g441 rw412.2.1 (fun w => nex_c3 (List.mem_singleton.mp w)) t416 (by decide) s429
  have s448 := gSg.rawat g441 rw412.2.1 (fun w => nex_c3 (List.mem_singleton.mp w)) t416 (by decide) s430
  have s449 := gSg.rawat g441 rw412.2.1 (fun w => nex_c3 (List.mem_singleton.mp w)) t416 (by decide) s431
  have s450 := gSg.rawat g441 rw412.2.1 (fun w => nex_c3 (List.mem_singleton.mp w)) t416 (by decide) s432
  have s451 := gSg.rawat g441 rw412.2.1 (fun w => nex_c3 (List.mem_singleton.mp w)) t416 (by decide) s433
  have sS452 : gSs rT 1027 tyq410 [] h440 h440 := gSs.rf g441.1
  have rf453 := Nat.lt_of_lt_of_eq rw419.2.1 nh440.symm
  have rf454 := gcst zh440 rf421
  have s455 := (fh440 0 (by decide)).trans s434
  have s456 := (fh440 1 (by decide)).trans s435
  have s457 := (fh440 2 (by decide)).trans s436
  refine gy_s 4 (pc' := 50) (L' := [some (.ref x), some (.ref s), some (.ref p), some (.int ((zi 3) + zi 1))]) (S' := [.ref x, .int ((zi 3) + zi 1)]) (L2 := [some (.ref x), some (.ref s), some (.ref p), some (.int (zi 4))]) (S2 := [.ref x, .int (zi 4)]) rfl (by simp only [zi_add, zi_sub, zi_mul, zi_neg, zi_and1, zi_and7, zi_and15, zi_and31, zi_and255, Int.reduceAdd, Int.reduceMul, Int.reduceSub]) (by simp only [zi_add, zi_sub, zi_mul, zi_neg, zi_and1, zi_and7, zi_and15, zi_and31, zi_and255, Int.reduceAdd, Int.reduceMul, Int.reduceSub]) ?_
  refine gz_get rfl (by decide) rfl nx rw443.2.1 rf444 s447 ?_
  refine gs_rlen (z := 8) rfl (by decide) rf453 kh440 rfl rf454 ?_
  refine gy_icF rfl (by decide) (by decide) ⟨by omega, by omega⟩ ⟨by omega, by omega⟩ (by first | (simp [zc]; done) | (simp only [zc]; omega)) ?_
  refine gz_s 1 (pc' := 58) (L' := [some (.ref x), some (.ref s), some (.ref p), some (.int (zi 4))]) (S' := [.ref x]) rfl ?_
  refine gz_get rfl (by decide) rfl nx rw443.2.1 rf444 s447 ?_
  refine gz_s 1 (pc' := 62) (L' := [some (.ref x), some (.ref s), some (.ref p), some (.int (zi 4))]) (S' := [.int (zi 4), .ref c3]) rfl ?_
  refine gs_newo rfl (by decide) rfl sS452.1 (Nat.le_of_lt (Nat.lt_of_le_of_lt (gJ.cell sS452.1 t417 rfl).1 (gJ.cell sS452.1 t417 rfl).2.1)) (fun ty458 h459 c460 g461 tc460 kc460 zc460 nc460 mc460 ec460 dc460 => ?_)
  have mfc460 : h459.2.1 = h440.2.1 + 2 := mc460
  have gac460 : h.1 ≤ c460 := by have h8 := G442.2.1; have h9 := sS452.2.1; omega
  have nnc460 : 1027 ≤ c460 := by have h8 := (Nat.le_of_lt (Nat.lt_of_le_of_lt (gJ.cell sS452.1 t417 rfl).1 (gJ.cell sS452.1 t417 rfl).2.1)); omega
  have llc460 := Nat.lt_of_lt_of_eq (Nat.lt_succ_of_le (Nat.le_of_eq ec460)) nc460.symm
  have nex_c460 : x ≠ c460 := by have h8 := rw443.2.1; omega
  have nec3_c460 : c3 ≠ c460 := by have h8 := rf453; omega
  have G462 : gSg [66, 67, 68, 69, 70, 101, 102, 103, 200] [x] [] ty h ty458 h459 := gSg.tr (gSg.ss G442 sS452 (by decide)) g461 (by decide) (by decide) (fun x hx => by cases hx)
  have rw463 := gSg.raw g461 rw443.2.1 (fun w => by cases w)
  have rf464 := (rw463.2.2.1.trans rf444)
  have rf465 := (rw463.2.2.2.trans rf445)
  have dd466 := gSg.rawd (ci := 7) (ps := [0, 7, 9, 8, 6]) g461 rw443.2.1 (fun w => by cases w) t416 (by decide) dd446
  have t467 : ty458 x = 200 := rw463.1.trans t416
  have t468 : ty458 s = 51 := gSg.typ g461 sS452.1 t417 rfl
  have t469 : ty458 p = 54 := gSg.typ g461 sS452.1 t418 rfl
  have rw470 := gSg.raw g461 rf453 (fun w => by cases w)
  have rf471 := (rw470.2.2.1.trans kh440)
  have rf472 := (gcst rw470.2.2.2 rf454)
  have t473 : ty458 c3 = 200 := rw470.1.trans t422
  have t474 : ty458 c28 = 69 := gSg.typ g461 sS452.1 t423 rfl
  have t475 : ty458 c59 = 70 := gSg.typ g461 sS452.1 t424 rfl
  have t476 : ty458 c106 = 67 := gSg.typ g461 sS452.1 t425 rfl
  have t477 : ty458 c166 = 101 := gSg.typ g461 sS452.1 t426 rfl
  have t478 : ty458 c232 = 101 := gSg.typ g461 sS452.1 t427 rfl
  have t479 : ty458 c303 = 101 := gSg.typ g461 sS452.1 t428 rfl
  have t480 : ty458 c379 = 101 := gSg.typ g461 sS452.1 trq410_0 rfl
  have s481 := gSg.rawat g461 rw443.2.1 (fun w => by cases w) t416 (by decide) s447
  have s482 := gSg.rawat g461 rw443.2.1 (fun w => by cases w) t416 (by decide) s448
  have s483 := gSg.rawat g461 rw443.2.1 (fun w => by cases w) t416 (by decide) s449
  have s484 := gSg.rawat g461 rw443.2.1 (fun w => by cases w) t416 (by decide) s450
  have s485 := gSg.rawat g461 rw443.2.1 (fun w => by cases w) t416 (by decide) s451
  have s486 := gSg.rawat g461 rf453 (fun w => by cases w) t422 (by decide) s455
  have s487 := gSg.rawat g461 rf453 (fun w => by cases w) t422 (by decide) s456
  have s488 := gSg.rawat g461 rf453 (fun w => by cases w) t422 (by decide) s457
  have s489 := gSg.rawat g461 rf453 (fun w => by cases w) t422 (by decide) eh440
  have pr490 : gNo [66, 68] ty458 := gNo.gr g461 (by decide) (gNo.sub (by decide) pr437)
  have uq491 := gSg.uq g461 uq438 (by decide)
  have sS492 : gSs rT 1027 ty458 [] h459 h459 := gSs.rf g461.1
  refine gz_s 1 (pc' := 66) (L' := [some (.ref x), some (.ref s), some (.ref p), some (.int (zi 4))]) (S' := [.ref c460, .ref c460, .int (zi 4), .ref c3]) rfl ?_
  refine gz_call rfl (by decide) rfl (by decide) (by decide) (gcal_of rfl rfl rfl (Nat.le_of_ble_eq_true rfl) rfl) (ct_Codes _ sS492.1 c460 tc460 nnc460 llc460 kc460 zc460 dc460 uq491) (fun q493 _ wq493 => ?_)
  obtain ⟨pq493, oq493, hq493⟩ := q493
  obtain ⟨tyq493, xq493, trq493_0, gq493, uq493_0, uq493_1⟩ := wq493
  dsimp only at uq493_0 uq493_1
  refine ⟨_, gq493, ?_⟩
  show gz gPP gGG gcn _ _ 69 [some (.ref x), some (.ref s), some (.ref p), some (.int (zi 4))] [.ref c460, .int (zi 4), .ref c3] hq493 _
  have G494 : gSg [66, 67, 68, 69, 70, 101, 102, 103, 200] [x] [] ty h tyq493 hq493 := gSg.tr (gSg.ss G462 sS492 (by decide)) xq493 (by decide) (by decide) (fun x hx => Or.inl (by rw [List.mem_singleton.mp hx]; exact gac460))
  have rw495 := gSg.raw xq493 rw463.2.1 (fun w => nex_c460 (List.mem_singleton.mp w))
  have rf496 := (rw495.2.2.1.trans rf464)
  have rf497 := (rw495.2.2.2.trans rf465)
  have dd498 := gSg.rawd (ci := 7) (ps := [0, 7, 9, 8, 6]) xq493 rw463.2.1 (fun w => nex_c460 (List.mem_singleton.mp w)) t467 (by decide) dd466
  have t499 : tyq493 x = 200 := rw495.1.trans t467
  have t500 : tyq493 s = 51 := gSg.typ xq493 sS492.1 t468 rfl
  have t501 : tyq493 p = 54 := gSg.typ xq493 sS492.1 t469 rfl
  have rw502 := gSg.raw xq493 rw470.2.1 (fun w => nec3_c460 (List.mem_singleton.mp w))
  have rf503 := (rw502.2.2.1.trans rf471)
  have rf504 := (gcst rw502.2.2.2 rf472)
  have t505 : tyq493 c3 = 200 := rw502.1.trans t473
  have t506 : tyq493 c28 = 69 := gSg.typ xq493 sS492.1 t474 rfl
  have t507 : tyq493 c59 = 70 := gSg.typ xq493 sS492.1 t475 rfl
  have t508 : tyq493 c106 = 67 := gSg.typ xq493 sS492.1 t476 rfl
  have t509 : tyq493 c166 = 101 := gSg.typ xq493 sS492.1 t477 rfl
  have t510 : tyq493 c232 = 101 := gSg.typ xq493 sS492.1 t478 rfl
  have t511 : tyq493 c303 = 101 := gSg.typ xq493 sS492.1 t479 rfl
  have t512 : tyq493 c379 = 101 := gSg.typ xq493 sS492.1 t480 rfl
  have s513 := gSg.rawat xq493 rw463.2.1 (fun w => nex_c460 (List.mem_singleton.mp w)) t467 (by decide) s481
  have s514 := gSg.rawat xq493 rw463.2.1 (fun w => nex_c460 (List.mem_singleton.mp w)) t467 (by decide) s482
  have s515 := gSg.rawat xq493 rw463.2.1 (fun w => nex_c460 (List.mem_singleton.mp w)) t467 (by decide) s483
  have s516 := gSg.rawat xq493 rw463.2.1 (fun w => nex_c460 (List.mem_singleton.mp w)) t467 (by decide) s484
  have s517 := gSg.rawat xq493 rw463.2.1 (fun w => nex_c460 (List.mem_singleton.mp w)) t467 (by decide) s485
  have s518 := gSg.rawat xq493 rw470.2.1 (fun w => nec3_c460 (List.mem_singleton.mp w)) t473 (by decide) s486
  have s519 := gSg.rawat xq493 rw470.2.1 (fun w => nec3_c460 (List.mem_singleton.mp w)) t473 (by decide) s487
  have s520 := gSg.rawat xq493 rw470.2.1 (fun w => nec3_c460 (List.mem_singleton.mp w)) t473 (by decide) s488
  have s521 := gSg.rawat xq493 rw470.2.1 (fun w => nec3_c460 (List.mem_singleton.mp w)) t473 (by decide) s489
  have pr522 : gNo [66, 68] tyq493 := gNo.gr xq493 (by decide) (gNo.sub (by decide) pr490)
  have uq523 := gSg.uq xq493 uq491 (by decide)
  have sS524 : gSs rT 1027 tyq493 [] hq493 hq493 := gSs.rf xq493.1
  refine gs_rast (j := 4) rfl (by decide) sS524.1 t505 nnc3 rw502.2.1 rf503 rfl (gJ.cell sS524.1 trq493_0 rfl).1 (gJ.cell sS524.1 trq493_0 rfl).2.1 (gJ.cell sS524.1 trq493_0 rfl).2.2 rfl (by have h9 : (hq493.2.2.2.1 c3 : Int) = 8 := rf504; omega) (by have h9 : (hq493.2.2.2.1 c3 : Int) = 8 := rf504; omega) (fun h525 g526 nh525 mh525 kh525 zh525 eh525 fh525 => ?_)
  have G527 : gSg [66, 67, 68, 69, 70, 101, 102, 103, 200] [x] [] ty h tyq493 h525 := gSg.tr (gSg.ss G494 sS524 (by decide)) g526 (by decide) (by decide) (fun x hx => Or.inl (by rw [List.mem_singleton.mp hx]; exact gac3))
  have rw528 := gSg.raw g526 rw495.2.1 (fun w => nex_c3 (List.mem_singleton.mp w))
  have rf529 := (rw528.2.2.1.trans rf496)
  have rf530 := (rw528.2.2.2.trans rf497)
  have dd531 := gSg.rawd (ci := 7) (ps := [0, 7, 9, 8, 6]) g526 rw495.2.1 (fun w => nex_c3 (List.mem_singleton.mp w)) t499 (by decide) dd498
  have s532 := gSg.rawat g526 rw495.2.1 (fun w => nex_c3 (List.mem_singleton.mp w)) t499 (by decide) s513
  have s533 := gSg.rawat g526 rw495.2.1 (fun w => nex_c3 (List.mem_singleton.mp w)) t499 (by decide) s514
  have s534 := gSg.rawat g526 rw495.2.1 (fun w => nex_c3 (List.mem_singleton.mp w)) t499 (by decide) s515
  have s535 := gSg.rawat g526 rw495.2.1 (fun w => nex_c3 (List.mem_singleton.mp w)) t499 (by decide) s516
  have s536 := gSg.rawat g526 rw495.2.1 (fun w => nex_c3 (List.mem_singleton.mp w)) t499 (by decide) s517
  have sS537 : gSs rT 1027 tyq493 [] h525 h525 := gSs.rf g526.1
  have rf538 := Nat.lt_of_lt_of_eq rw502.2.1 nh525.symm
  have rf539 := gcst zh525 rf504
  have s540 := (fh525 0 (by decide)).trans s518
  have s541 := (fh525 1 (by decide)).trans s519
  have s542 := (fh525 2 (by decide)).trans s520
  have s543 := (fh525 3 (by decide)).trans s521
  refine gy_s 4 (pc' := 50) (L' := [some (.ref x), some (.ref s), some (.ref p), some (.int ((zi 4) + zi 1))]) (S' := [.ref x, .int ((zi 4) + zi 1)]) (L2 := [some (.ref x), some (.ref s), some (.ref p), some (.int (zi 5))]) (S2 := [.ref x, .int (zi 5)]) rfl (by simp only [zi_add, zi_sub, zi_mul, zi_neg, zi_and1, zi_and7, zi_and15, zi_and31, zi_and255, Int.reduceAdd, Int.reduceMul, Int.reduceSub]) (by simp only [zi_add, zi_sub, zi_mul, zi_neg, zi_and1, zi_and7, zi_and15, zi_and31, zi_and255, Int.reduceAdd, Int.reduceMul, Int.reduceSub]) ?_
  refine gz_get rfl (by decide) rfl nx rw528.2.1 rf529 s532 ?_
  refine gs_rlen (z := 8) rfl (by decide) rf538 kh525 rfl rf539 ?_
  refine gy_icF rfl (by decide) (by decide) ⟨by omega, by omega⟩ ⟨by omega, by omega⟩ (by first | (simp [zc]; done) | (simp only [zc]; omega)) ?_
  refine gz_s 1 (pc' := 58) (L' := [some (.ref x), some (.ref s), some (.ref p), some (.int (zi 5))]) (S' := [.ref x]) rfl ?_
  refine gz_get rfl (by decide) rfl nx rw528.2.1 rf529 s532 ?_
  refine gz_s 1 (pc' := 62) (L' := [some (.ref x), some (.ref s), some (.ref p), some (.int (zi 5))]) (S' := [.int (zi 5), .ref c3]) rfl ?_
  refine gs_newo rfl (by decide) rfl sS537.1 (Nat.le_of_lt (Nat.lt_of_le_of_lt (gJ.cell sS537.1 t500 rfl).1 (gJ.cell sS537.1 t500 rfl).2.1)) (fun ty544 h545 c546 g547 tc546 kc546 zc546 nc546 mc546 ec546 dc546 => ?_)
  have mfc546 : h545.2.1 = h525.2.1 + 2 := mc546
  have gac546 : h.1 ≤ c546 := by have h8 := G527.2.1; have h9 := sS537.2.1; omega
  have nnc546 : 1027 ≤ c546 := by have h8 := (Nat.le_of_lt (Nat.lt_of_le_of_lt (gJ.cell sS537.1 t500 rfl).1 (gJ.cell sS537.1 t500 rfl).2.1)); omega
  have llc546 := Nat.lt_of_lt_of_eq (Nat.lt_succ_of_le (Nat.le_of_eq ec546)) nc546.symm
  have nex_c546 : x ≠ c546 := by have h8 := rw528.2.1; omega
  have nec3_c546 : c3 ≠ c546 := by have h8 := rf538; omega
  have G548 : gSg [66, 67, 68, 69, 70, 101, 102, 103, 200] [x] [] ty h ty544 h545 := gSg.tr (gSg.ss G527 sS537 (by decide)) g547 (by decide) (by decide) (fun x hx => by cases hx)
  have rw549 := gSg.raw g547 rw528.2.1 (fun w => by cases w)
  have rf550 := (rw549.2.2.1.trans rf529)
  have rf551 := (rw549.2.2.2.trans rf530)
  have dd552 := gSg.rawd (ci := 7) (ps := [0, 7, 9, 8, 6]) g547 rw528.2.1 (fun w => by cases w) t499 (by decide) dd531
  have t553 : ty544 x = 200 := rw549.1.trans t499
  have t554 : ty544 s = 51 := gSg.typ g547 sS537.1 t500 rfl
  have t555 : ty544 p = 54 := gSg.typ g547 sS537.1 t501 rfl
  have rw556 := gSg.raw g547 rf538 (fun w => by cases w)
  have rf557 := (rw556.2.2.1.trans kh525)
  have rf558 := (gcst rw556.2.2.2 rf539)
  have t559 : ty544 c3 = 200 := rw556.1.trans t505
  have t560 : ty544 c28 = 69 := gSg.typ g547 sS537.1 t506 rfl
  have t561 : ty544 c59 = 70 := gSg.typ g547 sS537.1 t507 rfl
  have t562 : ty544 c106 = 67 := gSg.typ g547 sS537.1 t508 rfl
  have t563 : ty544 c166 = 101 := gSg.typ g547 sS537.1 t509 rfl
  have t564 : ty544 c232 = 101 := gSg.typ g547 sS537.1 t510 rfl
  have t565 : ty544 c303 = 101 := gSg.typ g547 sS537.1 t511 rfl
  have t566 : ty544 c379 = 101 := gSg.typ g547 sS537.1 t512 rfl
  have t567 : ty544 c460 = 101 := gSg.typ g547 sS537.1 trq493_0 rfl
  have s568 := gSg.rawat g547 rw528.2.1 (fun w => by cases w) t499 (by decide) s532
  have s569 := gSg.rawat g547 rw528.2.1 (fun w => by cases w) t499 (by decide) s533
  have s570 := gSg.rawat g547 rw528.2.1 (fun w => by cases w) t499 (by decide) s534
  have s571 := gSg.rawat g547 rw528.2.1 (fun w => by cases w) t499 (by decide) s535
  have s572 := gSg.rawat g547 rw528.2.1 (fun w => by cases w) t499 (by decide) s536
  have s573 := gSg.rawat g547 rf538 (fun w => by cases w) t505 (by decide) s540
  have s574 := gSg.rawat g547 rf538 (fun w => by cases w) t505 (by decide) s541
  have s575 := gSg.rawat g547 rf538 (fun w => by cases w) t505 (by decide) s542
  have s576 := gSg.rawat g547 rf538 (fun w => by cases w) t505 (by decide) s543
  have s577 := gSg.rawat g547 rf538 (fun w => by cases w) t505 (by decide) eh525
  have pr578 : gNo [66, 68] ty544 := gNo.gr g547 (by decide) (gNo.sub (by decide) pr522)
  have uq579 := gSg.uq g547 uq523 (by decide)
  have sS580 : gSs rT 1027 ty544 [] h545 h545 := gSs.rf g547.1
  refine gz_s 1 (pc' := 66) (L' := [some (.ref x), some (.ref s), some (.ref p), some (.int (zi 5))]) (S' := [.ref c546, .ref c546, .int (zi 5), .ref c3]) rfl ?_
  refine gz_call rfl (by decide) rfl (by decide) (by decide) (gcal_of rfl rfl rfl (Nat.le_of_ble_eq_true rfl) rfl) (ct_Codes _ sS580.1 c546 tc546 nnc546 llc546 kc546 zc546 dc546 uq579) (fun q581 _ wq581 => ?_)
  obtain ⟨pq581, oq581, hq581⟩ := q581
  obtain ⟨tyq581, xq581, trq581_0, gq581, uq581_0, uq581_1⟩ := wq581
  dsimp only at uq581_0 uq581_1
  refine ⟨_, gq581, ?_⟩
  show gz gPP gGG gcn _ _ 69 [some (.ref x), some (.ref s), some (.ref p), some (.int (zi 5))] [.ref c546, .int (zi 5), .ref c3] hq581 _
  have G582 : gSg [66, 67, 68, 69, 70, 101, 102, 103, 200] [x] [] ty h tyq581 hq581 := gSg.tr (gSg.ss G548 sS580 (by decide)) xq581 (by decide) (by decide) (fun x hx => Or.inl (by rw [List.mem_singleton.mp hx]; exact gac546))
  have rw583 := gSg.raw xq581 rw549.2.1 (fun w => nex_c546 (List.mem_singleton.mp w))
  have rf584 := (rw583.2.2.1.trans rf550)
  have rf585 := (rw583.2.2.2.trans rf551)
  have dd586 := gSg.rawd (ci := 7) (ps := [0, 7, 9, 8, 6]) xq581 rw549.2.1 (fun w => nex_c546 (List.mem_singleton.mp w)) t553 (by decide) dd552
  have t587 : tyq581 x = 200 := rw583.1.trans t553
  have t588 : tyq581 s = 51 := gSg.typ xq581 sS580.1 t554 rfl
  have t589 : tyq581 p = 54 := gSg.typ xq581 sS580.1 t555 rfl
  have rw590 := gSg.raw xq581 rw556.2.1 (fun w => nec3_c546 (List.mem_singleton.mp w))
  have rf591 := (rw590.2.2.1.trans rf557)
  have rf592 := (gcst rw590.2.2.2 rf558)
  have t593 : tyq581 c3 = 200 := rw590.1.trans t559
  have t594 : tyq581 c28 = 69 := gSg.typ xq581 sS580.1 t560 rfl
  have t595 : tyq581 c59 = 70 := gSg.typ xq581 sS580.1 t561 rfl
  have t596 : tyq581 c106 = 67 := gSg.typ xq581 sS580.1 t562 rfl
  have t597 : tyq581 c166 = 101 := gSg.typ xq581 sS580.1 t563 rfl
  have t598 : tyq581 c232 = 101 := gSg.typ xq581 sS580.1 t564 rfl
  have t599 : tyq581 c303 = 101 := gSg.typ xq581 sS580.1 t565 rfl
  have t600 : tyq581 c379 = 101 := gSg.typ xq581 sS580.1 t566 rfl
  have t601 : tyq581 c460 = 101 := gSg.typ xq581 sS580.1 t567 rfl
  have s602 := gSg.rawat xq581 rw549.2.1 (fun w => nex_c546 (List.mem_singleton.mp w)) t553 (by decide) s568
  have s603 := gSg.rawat xq581 rw549.2.1 (fun w => nex_c546 (List.mem_singleton.mp w)) t553 (by decide) s569
  have s604 := gSg.rawat xq581 rw549.2.1 (fun w => nex_c546 (List.mem_singleton.mp w)) t553 (by decide) s570
  have s605 := gSg.rawat xq581 rw549.2.1 (fun w => nex_c546 (List.mem_singleton.mp w)) t553 (by decide) s571
  have s606 := gSg.rawat xq581 rw549.2.1 (fun w => nex_c546 (List.mem_singleton.mp w)) t553 (by decide) s572
  have s607 := gSg.rawat xq581 rw556.2.1 (fun w => nec3_c546 (List.mem_singleton.mp w)) t559 (by decide) s573
  have s608 := gSg.rawat xq581 rw556.2.1 (fun w => nec3_c546 (List.mem_singleton.mp w)) t559 (by decide) s574
  have s609 := gSg.rawat xq581 rw556.2.1 (fun w => nec3_c546 (List.mem_singleton.mp w)) t559 (by decide) s575
  have s610 := gSg.rawat xq581 rw556.2.1 (fun w => nec3_c546 (List.mem_singleton.mp w)) t559 (by decide) s576
  have s611 := gSg.rawat xq581 rw556.2.1 (fun w => nec3_c546 (List.mem_singleton.mp w)) t559 (by decide) s577
  have pr612 : gNo [66, 68] tyq581 := gNo.gr xq581 (by decide) (gNo.sub (by decide) pr578)
  have uq613 := gSg.uq xq581 uq579 (by decide)
  have sS614 : gSs rT 1027 tyq581 [] hq581 hq581 := gSs.rf xq581.1
  refine gs_rast (j := 5) rfl (by decide) sS614.1 t593 nnc3 rw590.2.1 rf591 rfl (gJ.cell sS614.1 trq581_0 rfl).1 (gJ.cell sS614.1 trq581_0 rfl).2.1 (gJ.cell sS614.1 trq581_0 rfl).2.2 rfl (by have h9 : (hq581.2.2.2.1 c3 : Int) = 8 := rf592; omega) (by have h9 : (hq581.2.2.2.1 c3 : Int) = 8 := rf592; omega) (fun h615 g616 nh615 mh615 kh615 zh615 eh615 fh615 => ?_)
  have G617 : gSg [66, 67, 68, 69, 70, 101, 102, 103, 200] [x] [] ty h tyq581 h615 := gSg.tr (gSg.ss G582 sS614 (by decide)) g616 (by decide) (by decide) (fun x hx => Or.inl (by rw [List.mem_singleton.mp hx]; exact gac3))
  have rw618 := gSg.raw g616 rw583.2.1 (fun w => nex_c3 (List.mem_singleton.mp w))
  have rf619 := (rw618.2.2.1.trans rf584)
  have rf620 := (rw618.2.2.2.trans rf585)
  have dd621 := gSg.rawd (ci := 7) (ps := [0, 7, 9, 8, 6]) g616 rw583.2.1 (fun w => nex_c3 (List.mem_singleton.mp w)) t587 (by decide) dd586
  have s622 := gSg.rawat g616 rw583.2.1 (fun w => nex_c3 (List.mem_singleton.mp w)) t587 (by decide) s602
  have s623 := gSg.rawat g616 rw583.2.1 (fun w => nex_c3 (List.mem_singleton.mp w)) t587 (by decide) s603
  have s624 := gSg.rawat g616 rw583.2.1 (fun w => nex_c3 (List.mem_singleton.mp w)) t587 (by decide) s604
  have s625 := gSg.rawat g616 rw583.2.1 (fun w => nex_c3 (List.mem_singleton.mp w)) t587 (by decide) s605
  have s626 := gSg.rawat g616 rw583.2.1 (fun w => nex_c3 (List.mem_singleton.mp w)) t587 (by decide) s606
  have sS627 : gSs rT 1027 tyq581 [] h615 h615 := gSs.rf g616.1
  have rf628 := Nat.lt_of_lt_of_eq rw590.2.1 nh615.symm
  have rf629 := gcst zh615 rf592
  have s630 := (fh615 0 (by decide)).trans s607
  have s631 := (fh615 1 (by decide)).trans s608
  have s632 := (fh615 2 (by decide)).trans s609
  have s633 := (fh615 3 (by decide)).trans s610
  have s634 := (fh615 4 (by decide)).trans s611
  refine gy_s 4 (pc' := 50) (L' := [some (.ref x), some (.ref s), some (.ref p), some (.int ((zi 5) + zi 1))]) (S' := [.ref x, .int ((zi 5) + zi 1)]) (L2 := [some (.ref x), some (.ref s), some (.ref p), some (.int (zi 6))]) (S2 := [.ref x, .int (zi 6)]) rfl (by simp only [zi_add, zi_sub, zi_mul, zi_neg, zi_and1, zi_and7, zi_and15, zi_and31, zi_and255, Int.reduceAdd, Int.reduceMul, Int.reduceSub]) (by simp only [zi_add, zi_sub, zi_mul, zi_neg, zi_and1, zi_and7, zi_and15, zi_and31, zi_and255, Int.reduceAdd, Int.reduceMul, Int.reduceSub]) ?_
  refine gz_get rfl (by decide) rfl nx rw618.2.1 rf619 s622 ?_
  refine gs_rlen (z := 8) rfl (by decide) rf628 kh615 rfl rf629 ?_
  refine gy_icF rfl (by decide) (by decide) ⟨by omega, by omega⟩ ⟨by omega, by omega⟩ (by first | (simp [zc]; done) | (simp only [zc]; omega)) ?_
  refine gz_s 1 (pc' := 58) (L' := [some (.ref x), some (.ref s), some (.ref p), some (.int (zi 6))]) (S' := [.ref x]) rfl ?_
  refine gz_get rfl (by decide) rfl nx rw618.2.1 rf619 s622 ?_
  refine gz_s 1 (pc' := 62) (L' := [some (.ref x), some (.ref s), some (.ref p), some (.int (zi 6))]) (S' := [.int (zi 6), .ref c3]) rfl ?_
  refine gs_newo rfl (by decide) rfl sS627.1 (Nat.le_of_lt (Nat.lt_of_le_of_lt (gJ.cell sS627.1 t588 rfl).1 (gJ.cell sS627.1 t588 rfl).2.1)) (fun ty635 h636 c637 g638 tc637 kc637 zc637 nc637 mc637 ec637 dc637 => ?_)
  have mfc637 : h636.2.1 = h615.2.1 + 2 := mc637
  have gac637 : h.1 ≤ c637 := by have h8 := G617.2.1; have h9 := sS627.2.1; omega
  have nnc637 : 1027 ≤ c637 := by have h8 := (Nat.le_of_lt (Nat.lt_of_le_of_lt (gJ.cell sS627.1 t588 rfl).1 (gJ.cell sS627.1 t588 rfl).2.1)); omega
  have llc637 := Nat.lt_of_lt_of_eq (Nat.lt_succ_of_le (Nat.le_of_eq ec637)) nc637.symm
  have nex_c637 : x ≠ c637 := by have h8 := rw618.2.1; omega
  have nec3_c637 : c3 ≠ c637 := by have h8 := rf628; omega
  have G639 : gSg [66, 67, 68, 69, 70, 101, 102, 103, 200] [x] [] ty h ty635 h636 := gSg.tr (gSg.ss G617 sS627 (by decide)) g638 (by decide) (by decide) (fun x hx => by cases hx)
  have rw640 := gSg.raw g638 rw618.2.1 (fun w => by cases w)
  have rf641 := (rw640.2.2.1.trans rf619)
  have rf642 := (rw640.2.2.2.trans rf620)
  have dd643 := gSg.rawd (ci := 7) (ps := [0, 7, 9, 8, 6]) g638 rw618.2.1 (fun w => by cases w) t587 (by decide) dd621
  have t644 : ty635 x = 200 := rw640.1.trans t587
  have t645 : ty635 s = 51 := gSg.typ g638 sS627.1 t588 rfl
  have t646 : ty635 p = 54 := gSg.typ g638 sS627.1 t589 rfl
  have rw647 := gSg.raw g638 rf628 (fun w => by cases w)
  have rf648 := (rw647.2.2.1.trans kh615)
  have rf649 := (gcst rw647.2.2.2 rf629)
  have t650 : ty635 c3 = 200 := rw647.1.trans t593
  have t651 : ty635 c28 = 69 := gSg.typ g638 sS627.1 t594 rfl
  have t652 : ty635 c59 = 70 := gSg.typ g638 sS627.1 t595 rfl
  have t653 : ty635 c106 = 67 := gSg.typ g638 sS627.1 t596 rfl
  have t654 : ty635 c166 = 101 := gSg.typ g638 sS627.1 t597 rfl
  have t655 : ty635 c232 = 101 := gSg.typ g638 sS627.1 t598 rfl
  have t656 : ty635 c303 = 101 := gSg.typ g638 sS627.1 t599 rfl
  have t657 : ty635 c379 = 101 := gSg.typ g638 sS627.1 t600 rfl
  have t658 : ty635 c460 = 101 := gSg.typ g638 sS627.1 t601 rfl
  have t659 : ty635 c546 = 101 := gSg.typ g638 sS627.1 trq581_0 rfl
  have s660 := gSg.rawat g638 rw618.2.1 (fun w => by cases w) t587 (by decide) s622
  have s661 := gSg.rawat g638 rw618.2.1 (fun w => by cases w) t587 (by decide) s623
  have s662 := gSg.rawat g638 rw618.2.1 (fun w => by cases w) t587 (by decide) s624
  have s663 := gSg.rawat g638 rw618.2.1 (fun w => by cases w) t587 (by decide) s625
  have s664 := gSg.rawat g638 rw618.2.1 (fun w => by cases w) t587 (by decide) s626
  have s665 := gSg.rawat g638 rf628 (fun w => by cases w) t593 (by decide) s630
  have s666 := gSg.rawat g638 rf628 (fun w => by cases w) t593 (by decide) s631
  have s667 := gSg.rawat g638 rf628 (fun w => by cases w) t593 (by decide) s632
  have s668 := gSg.rawat g638 rf628 (fun w => by cases w) t593 (by decide) s633
  have s669 := gSg.rawat g638 rf628 (fun w => by cases w) t593 (by decide) s634
  have s670 := gSg.rawat g638 rf628 (fun w => by cases w) t593 (by decide) eh615
  have pr671 : gNo [66, 68] ty635 := gNo.gr g638 (by decide) (gNo.sub (by decide) pr612)
  have uq672 := gSg.uq g638 uq613 (by decide)
  have sS673 : gSs rT 1027 ty635 [] h636 h636 := gSs.rf g638.1
  refine gz_s 1 (pc' := 66) (L' := [some (.ref x), some (.ref s), some (.ref p), some (.int (zi 6))]) (S' := [.ref c637, .ref c637, .int (zi 6), .ref c3]) rfl ?_
  refine gz_call rfl (by decide) rfl (by decide) (by decide) (gcal_of rfl rfl rfl (Nat.le_of_ble_eq_true rfl) rfl) (ct_Codes _ sS673.1 c637 tc637 nnc637 llc637 kc637 zc637 dc637 uq672) (fun q674 _ wq674 => ?_)
  obtain ⟨pq674, oq674, hq674⟩ := q674
  obtain ⟨tyq674, xq674, trq674_0, gq674, uq674_0, uq674_1⟩ := wq674
  dsimp only at uq674_0 uq674_1
  refine ⟨_, gq674, ?_⟩
  show gz gPP gGG gcn _ _ 69 [some (.ref x), some (.ref s), some (.ref p), some (.int (zi 6))] [.ref c637, .int (zi 6), .ref c3] hq674 _
  have G675 : gSg [66, 67, 68, 69, 70, 101, 102, 103, 200] [x] [] ty h tyq674 hq674 := gSg.tr (gSg.ss G639 sS673 (by decide)) xq674 (by decide) (by decide) (fun x hx => Or.inl (by rw [List.mem_singleton.mp hx]; exact gac637))
  have rw676 := gSg.raw xq674 rw640.2.1 (fun w => nex_c637 (List.mem_singleton.mp w))
  have rf677 := (rw676.2.2.1.trans rf641)
  have rf678 := (rw676.2.2.2.trans rf642)
  have dd679 := gSg.rawd (ci := 7) (ps := [0, 7, 9, 8, 6]) xq674 rw640.2.1 (fun w => nex_c637 (List.mem_singleton.mp w)) t644 (by decide) dd643
  have t680 : tyq674 x = 200 := rw676.1.trans t644
  have t681 : tyq674 s = 51 := gSg.typ xq674 sS673.1 t645 rfl
  have t682 : tyq674 p = 54 := gSg.typ xq674 sS673.1 t646 rfl
  have rw683 := gSg.raw xq674 rw647.2.1 (fun w => nec3_c637 (List.mem_singleton.mp w))
  have rf684 := (rw683.2.2.1.trans rf648)
  have rf685 := (gcst rw683.2.2.2 rf649)
  have t686 : tyq674 c3 = 200 := rw683.1.trans t650
  have t687 : tyq674 c28 = 69 := gSg.typ xq674 sS673.1 t651 rfl
  have t688 : tyq674 c59 = 70 := gSg.typ xq674 sS673.1 t652 rfl
  have t689 : tyq674 c106 = 67 := gSg.typ xq674 sS673.1 t653 rfl
  have t690 : tyq674 c166 = 101 := gSg.typ xq674 sS673.1 t654 rfl
  have t691 : tyq674 c232 = 101 := gSg.typ xq674 sS673.1 t655 rfl
  have t692 : tyq674 c303 = 101 := gSg.typ xq674 sS673.1 t656 rfl
  have t693 : tyq674 c379 = 101 := gSg.typ xq674 sS673.1 t657 rfl
  have t694 : tyq674 c460 = 101 := gSg.typ xq674 sS673.1 t658 rfl
  have t695 : tyq674 c546 = 101 := gSg.typ xq674 sS673.1 t659 rfl
  have s696 := gSg.rawat xq674 rw640.2.1 (fun w => nex_c637 (List.mem_singleton.mp w)) t644 (by decide) s660
  have s697 := gSg.rawat xq674 rw640.2.1 (fun w => nex_c637 (List.mem_singleton.mp w)) t644 (by decide) s661
  have s698 := gSg.rawat xq674 rw640.2.1 (fun w => nex_c637 (List.mem_singleton.mp w)) t644 (by decide) s662
  have s699 := gSg.rawat xq674 rw640.2.1 (fun w => nex_c637 (List.mem_singleton.mp w)) t644 (by decide) s663
  have s700 := gSg.rawat xq674 rw640.2.1 (fun w => nex_c637 (List.mem_singleton.mp w)) t644 (by decide) s664
  have s701 := gSg.rawat xq674 rw647.2.1 (fun w => nec3_c637 (List.mem_singleton.mp w)) t650 (by decide) s665
  have s702 := gSg.rawat xq674 rw647.2.1 (fun w => nec3_c637 (List.mem_singleton.mp w)) t650 (by decide) s666
  have s703 := gSg.rawat xq674 rw647.2.1 (fun w => nec3_c637 (List.mem_singleton.mp w)) t650 (by decide) s667
  have s704 := gSg.rawat xq674 rw647.2.1 (fun w => nec3_c637 (List.mem_singleton.mp w)) t650 (by decide) s668
  have s705 := gSg.rawat xq674 rw647.2.1 (fun w => nec3_c637 (List.mem_singleton.mp w)) t650 (by decide) s669
  have s706 := gSg.rawat xq674 rw647.2.1 (fun w => nec3_c637 (List.mem_singleton.mp w)) t650 (by decide) s670
  have pr707 : gNo [66, 68] tyq674 := gNo.gr xq674 (by decide) (gNo.sub (by decide) pr671)
  have uq708 := gSg.uq xq674 uq672 (by decide)
  have sS709 : gSs rT 1027 tyq674 [] hq674 hq674 := gSs.rf xq674.1
  refine gs_rast (j := 6) rfl (by decide) sS709.1 t686 nnc3 rw683.2.1 rf684 rfl (gJ.cell sS709.1 trq674_0 rfl).1 (gJ.cell sS709.1 trq674_0 rfl).2.1 (gJ.cell sS709.1 trq674_0 rfl).2.2 rfl (by have h9 : (hq674.2.2.2.1 c3 : Int) = 8 := rf685; omega) (by have h9 : (hq674.2.2.2.1 c3 : Int) = 8 := rf685; omega) (fun h710 g711 nh710 mh710 kh710 zh710 eh710 fh710 => ?_)
  have G712 : gSg [66, 67, 68, 69, 70, 101, 102, 103, 200] [x] [] ty h tyq674 h710 := gSg.tr (gSg.ss G675 sS709 (by decide)) g711 (by decide) (by decide) (fun x hx => Or.inl (by rw [List.mem_singleton.mp hx]; exact gac3))
  have rw713 := gSg.raw g711 rw676.2.1 (fun w => nex_c3 (List.mem_singleton.mp w))
  have rf714 := (rw713.2.2.1.trans rf677)
  have rf715 := (rw713.2.2.2.trans rf678)
  have dd716 := gSg.rawd (ci := 7) (ps := [0, 7, 9, 8, 6]) g711 rw676.2.1 (fun w => nex_c3 (List.mem_singleton.mp w)) t680 (by decide) dd679
  have s717 := gSg.rawat g711 rw676.2.1 (fun w => nex_c3 (List.mem_singleton.mp w)) t680 (by decide) s696
  have s718 := gSg.rawat g711 rw676.2.1 (fun w => nex_c3 (List.mem_singleton.mp w)) t680 (by decide) s697
  have s719 := gSg.rawat g711 rw676.2.1 (fun w => nex_c3 (List.mem_singleton.mp w)) t680 (by decide) s698
  have s720 := gSg.rawat g711 rw676.2.1 (fun w => nex_c3 (List.mem_singleton.mp w)) t680 (by decide) s699
  have s721 := gSg.rawat g711 rw676.2.1 (fun w => nex_c3 (List.mem_singleton.mp w)) t680 (by decide) s700
  have sS722 : gSs rT 1027 tyq674 [] h710 h710 := gSs.rf g711.1
  have rf723 := Nat.lt_of_lt_of_eq rw683.2.1 nh710.symm
  have rf724 := gcst zh710 rf685
  have s725 := (fh710 0 (by decide)).trans s701
  have s726 := (fh710 1 (by decide)).trans s702
  have s727 := (fh710 2 (by decide)).trans s703
  have s728 := (fh710 3 (by decide)).trans s704
  have s729 := (fh710 4 (by decide)).trans s705
  have s730 := (fh710 5 (by decide)).trans s706
  refine gy_s 4 (pc' := 50) (L' := [some (.ref x), some (.ref s), some (.ref p), some (.int ((zi 6) + zi 1))]) (S' := [.ref x, .int ((zi 6) + zi 1)]) (L2 := [some (.ref x), some (.ref s), some (.ref p), some (.int (zi 7))]) (S2 := [.ref x, .int (zi 7)]) rfl (by simp only [zi_add, zi_sub, zi_mul, zi_neg, zi_and1, zi_and7, zi_and15, zi_and31, zi_and255, Int.reduceAdd, Int.reduceMul, Int.reduceSub]) (by simp only [zi_add, zi_sub, zi_mul, zi_neg, zi_and1, zi_and7, zi_and15, zi_and31, zi_and255, Int.reduceAdd, Int.reduceMul, Int.reduceSub]) ?_
  refine gz_get rfl (by decide) rfl nx rw713.2.1 rf714 s717 ?_
  refine gs_rlen (z := 8) rfl (by decide) rf723 kh710 rfl rf724 ?_
  refine gy_icF rfl (by decide) (by decide) ⟨by omega, by omega⟩ ⟨by omega, by omega⟩ (by first | (simp [zc]; done) | (simp only [zc]; omega)) ?_
  refine gz_s 1 (pc' := 58) (L' := [some (.ref x), some (.ref s), some (.ref p), some (.int (zi 7))]) (S' := [.ref x]) rfl ?_
  refine gz_get rfl (by decide) rfl nx rw713.2.1 rf714 s717 ?_
  refine gz_s 1 (pc' := 62) (L' := [some (.ref x), some (.ref s), some (.ref p), some (.int (zi 7))]) (S' := [.int (zi 7), .ref c3]) rfl ?_
  refine gs_newo rfl (by decide) rfl sS722.1 (Nat.le_of_lt (Nat.lt_of_le_of_lt (gJ.cell sS722.1 t681 rfl).1 (gJ.cell sS722.1 t681 rfl).2.1)) (fun ty731 h732 c733 g734 tc733 kc733 zc733 nc733 mc733 ec733 dc733 => ?_)
  have mfc733 : h732.2.1 = h710.2.1 + 2 := mc733
  have gac733 : h.1 ≤ c733 := by have h8 := G712.2.1; have h9 := sS722.2.1; omega
  have nnc733 : 1027 ≤ c733 := by have h8 := (Nat.le_of_lt (Nat.lt_of_le_of_lt (gJ.cell sS722.1 t681 rfl).1 (gJ.cell sS722.1 t681 rfl).2.1)); omega
  have llc733 := Nat.lt_of_lt_of_eq (Nat.lt_succ_of_le (Nat.le_of_eq ec733)) nc733.symm
  have nex_c733 : x ≠ c733 := by have h8 := rw713.2.1; omega
  have nec3_c733 : c3 ≠ c733 := by have h8 := rf723; omega
  have G735 : gSg [66, 67, 68, 69, 70, 101, 102, 103, 200] [x] [] ty h ty731 h732 := gSg.tr (gSg.ss G712 sS722 (by decide)) g734 (by decide) (by decide) (fun x hx => by cases hx)
  have rw736 := gSg.raw g734 rw713.2.1 (fun w => by cases w)
  have rf737 := (rw736.2.2.1.trans rf714)
  have rf738 := (rw736.2.2.2.trans rf715)
  have dd739 := gSg.rawd (ci := 7) (ps := [0, 7, 9, 8, 6]) g734 rw713.2.1 (fun w => by cases w) t680 (by decide) dd716
  have t740 : ty731 x = 200 := rw736.1.trans t680
  have t741 : ty731 s = 51 := gSg.typ g734 sS722.1 t681 rfl
  have t742 : ty731 p = 54 := gSg.typ g734 sS722.1 t682 rfl
  have rw743 := gSg.raw g734 rf723 (fun w => by cases w)
  have rf744 := (rw743.2.2.1.trans kh710)
  have rf745 := (gcst rw743.2.2.2 rf724)
  have t746 : ty731 c3 = 200 := rw743.1.trans t686
  have t747 : ty731 c28 = 69 := gSg.typ g734 sS722.1 t687 rfl
  have t748 : ty731 c59 = 70 := gSg.typ g734 sS722.1 t688 rfl
  have t749 : ty731 c106 = 67 := gSg.typ g734 sS722.1 t689 rfl
  have t750 : ty731 c166 = 101 := gSg.typ g734 sS722.1 t690 rfl
  have t751 : ty731 c232 = 101 := gSg.typ g734 sS722.1 t691 rfl
  have t752 : ty731 c303 = 101 := gSg.typ g734 sS722.1 t692 rfl
  have t753 : ty731 c379 = 101 := gSg.typ g734 sS722.1 t693 rfl
  have t754 : ty731 c460 = 101 := gSg.typ g734 sS722.1 t694 rfl
  have t755 : ty731 c546 = 101 := gSg.typ g734 sS722.1 t695 rfl
  have t756 : ty731 c637 = 101 := gSg.typ g734 sS722.1 trq674_0 rfl
  have s757 := gSg.rawat g734 rw713.2.1 (fun w => by cases w) t680 (by decide) s717
  have s758 := gSg.rawat g734 rw713.2.1 (fun w => by cases w) t680 (by decide) s718
  have s759 := gSg.rawat g734 rw713.2.1 (fun w => by cases w) t680 (by decide) s719
  have s760 := gSg.rawat g734 rw713.2.1 (fun w => by cases w) t680 (by decide) s720
  have s761 := gSg.rawat g734 rw713.2.1 (fun w => by cases w) t680 (by decide) s721
  have s762 := gSg.rawat g734 rf723 (fun w => by cases w) t686 (by decide) s725
  have s763 := gSg.rawat g734 rf723 (fun w => by cases w) t686 (by decide) s726
  have s764 := gSg.rawat g734 rf723 (fun w => by cases w) t686 (by decide) s727
  have s765 := gSg.rawat g734 rf723 (fun w => by cases w) t686 (by decide) s728
  have s766 := gSg.rawat g734 rf723 (fun w => by cases w) t686 (by decide) s729
  have s767 := gSg.rawat g734 rf723 (fun w => by cases w) t686 (by decide) s730
  have s768 := gSg.rawat g734 rf723 (fun w => by cases w) t686 (by decide) eh710
  have pr769 : gNo [66, 68] ty731 := gNo.gr g734 (by decide) (gNo.sub (by decide) pr707)
  have uq770 := gSg.uq g734 uq708 (by decide)
  have sS771 : gSs rT 1027 ty731 [] h732 h732 := gSs.rf g734.1
  refine gz_s 1 (pc' := 66) (L' := [some (.ref x), some (.ref s), some (.ref p), some (.int (zi 7))]) (S' := [.ref c733, .ref c733, .int (zi 7), .ref c3]) rfl ?_
  refine gz_call rfl (by decide) rfl (by decide) (by decide) (gcal_of rfl rfl rfl (Nat.le_of_ble_eq_true rfl) rfl) (ct_Codes _ sS771.1 c733 tc733 nnc733 llc733 kc733 zc733 dc733 uq770) (fun q772 _ wq772 => ?_)
  obtain ⟨pq772, oq772, hq772⟩ := q772
  obtain ⟨tyq772, xq772, trq772_0, gq772, uq772_0, uq772_1⟩ := wq772
  dsimp only at uq772_0 uq772_1
  refine ⟨_, gq772, ?_⟩
  show gz gPP gGG gcn _ _ 69 [some (.ref x), some (.ref s), some (.ref p), some (.int (zi 7))] [.ref c733, .int (zi 7), .ref c3] hq772 _
  have G773 : gSg [66, 67, 68, 69, 70, 101, 102, 103, 200] [x] [] ty h tyq772 hq772 := gSg.tr (gSg.ss G735 sS771 (by decide)) xq772 (by decide) (by decide) (fun x hx => Or.inl (by rw [List.mem_singleton.mp hx]; exact gac733))
  have rw774 := gSg.raw xq772 rw736.2.1 (fun w => nex_c733 (List.mem_singleton.mp w))
  have rf775 := (rw774.2.2.1.trans rf737)
  have rf776 := (rw774.2.2.2.trans rf738)
  have dd777 := gSg.rawd (ci := 7) (ps := [0, 7, 9, 8, 6]) xq772 rw736.2.1 (fun w => nex_c733 (List.mem_singleton.mp w)) t740 (by decide) dd739
  have t778 : tyq772 x = 200 := rw774.1.trans t740
  have t779 : tyq772 s = 51 := gSg.typ xq772 sS771.1 t741 rfl
  have t780 : tyq772 p = 54 := gSg.typ xq772 sS771.1 t742 rfl
  have rw781 := gSg.raw xq772 rw743.2.1 (fun w => nec3_c733 (List.mem_singleton.mp w))
  have rf782 := (rw781.2.2.1.trans rf744)
  have rf783 := (gcst rw781.2.2.2 rf745)
  have t784 : tyq772 c3 = 200 := rw781.1.trans t746
  have t785 : tyq772 c28 = 69 := gSg.typ xq772 sS771.1 t747 rfl
  have t786 : tyq772 c59 = 70 := gSg.typ xq772 sS771.1 t748 rfl
  have t787 : tyq772 c106 = 67 := gSg.typ xq772 sS771.1 t749 rfl
  have t788 : tyq772 c166 = 101 := gSg.typ xq772 sS771.1 t750 rfl
  have t789 : tyq772 c232 = 101 := gSg.typ xq772 sS771.1 t751 rfl
  have t790 : tyq772 c303 = 101 := gSg.typ xq772 sS771.1 t752 rfl
  have t791 : tyq772 c379 = 101 := gSg.typ xq772 sS771.1 t753 rfl
  have t792 : tyq772 c460 = 101 := gSg.typ xq772 sS771.1 t754 rfl
  have t793 : tyq772 c546 = 101 := gSg.typ xq772 sS771.1 t755 rfl
  have t794 : tyq772 c637 = 101 := gSg.typ xq772 sS771.1 t756 rfl
  have s795 := gSg.rawat xq772 rw736.2.1 (fun w => nex_c733 (List.mem_singleton.mp w)) t740 (by decide) s757
  have s796 := gSg.rawat xq772 rw736.2.1 (fun w => nex_c733 (List.mem_singleton.mp w)) t740 (by decide) s758
  have s797 := gSg.rawat xq772 rw736.2.1 (fun w => nex_c733 (List.mem_singleton.mp w)) t740 (by decide) s759
  have s798 := gSg.rawat xq772 rw736.2.1 (fun w => nex_c733 (List.mem_singleton.mp w)) t740 (by decide) s760
  have s799 := gSg.rawat xq772 rw736.2.1 (fun w => nex_c733 (List.mem_singleton.mp w)) t740 (by decide) s761
  have s800 := gSg.rawat xq772 rw743.2.1 (fun w => nec3_c733 (List.mem_singleton.mp w)) t746 (by decide) s762
  have s801 := gSg.rawat xq772 rw743.2.1 (fun w => nec3_c733 (List.mem_singleton.mp w)) t746 (by decide) s763
  have s802 := gSg.rawat xq772 rw743.2.1 (fun w => nec3_c733 (List.mem_singleton.mp w)) t746 (by decide) s764
  have s803 := gSg.rawat xq772 rw743.2.1 (fun w => nec3_c733 (List.mem_singleton.mp w)) t746 (by decide) s765
  have s804 := gSg.rawat xq772 rw743.2.1 (fun w => nec3_c733 (List.mem_singleton.mp w)) t746 (by decide) s766
  have s805 := gSg.rawat xq772 rw743.2.1 (fun w => nec3_c733 (List.mem_singleton.mp w)) t746 (by decide) s767
  have s806 := gSg.rawat xq772 rw743.2.1 (fun w => nec3_c733 (List.mem_singleton.mp w)) t746 (by decide) s768
  have pr807 : gNo [66, 68] tyq772 := gNo.gr xq772 (by decide) (gNo.sub (by decide) pr769)
  have uq808 := gSg.uq xq772 uq770 (by decide)
  have sS809 : gSs rT 1027 tyq772 [] hq772 hq772 := gSs.rf xq772.1
  refine gs_rast (j := 7) rfl (by decide) sS809.1 t784 nnc3 rw781.2.1 rf782 rfl (gJ.cell sS809.1 trq772_0 rfl).1 (gJ.cell sS809.1 trq772_0 rfl).2.1 (gJ.cell sS809.1 trq772_0 rfl).2.2 rfl (by have h9 : (hq772.2.2.2.1 c3 : Int) = 8 := rf783; omega) (by have h9 : (hq772.2.2.2.1 c3 : Int) = 8 := rf783; omega) (fun h810 g811 nh810 mh810 kh810 zh810 eh810 fh810 => ?_)
  have G812 : gSg [66, 67, 68, 69, 70, 101, 102, 103, 200] [x] [] ty h tyq772 h810 := gSg.tr (gSg.ss G773 sS809 (by decide)) g811 (by decide) (by decide) (fun x hx => Or.inl (by rw [List.mem_singleton.mp hx]; exact gac3))
  have rw813 := gSg.raw g811 rw774.2.1 (fun w => nex_c3 (List.mem_singleton.mp w))
  have rf814 := (rw813.2.2.1.trans rf775)
  have rf815 := (rw813.2.2.2.trans rf776)
  have dd816 := gSg.rawd (ci := 7) (ps := [0, 7, 9, 8, 6]) g811 rw774.2.1 (fun w => nex_c3 (List.mem_singleton.mp w)) t778 (by decide) dd777
  have s817 := gSg.rawat g811 rw774.2.1 (fun w => nex_c3 (List.mem_singleton.mp w)) t778 (by decide) s795
  have s818 := gSg.rawat g811 rw774.2.1 (fun w => nex_c3 (List.mem_singleton.mp w)) t778 (by decide) s796
  have s819 := gSg.rawat g811 rw774.2.1 (fun w => nex_c3 (List.mem_singleton.mp w)) t778 (by decide) s797
  have s820 := gSg.rawat g811 rw774.2.1 (fun w => nex_c3 (List.mem_singleton.mp w)) t778 (by decide) s798
  have s821 := gSg.rawat g811 rw774.2.1 (fun w => nex_c3 (List.mem_singleton.mp w)) t778 (by decide) s799
  have sS822 : gSs rT 1027 tyq772 [] h810 h810 := gSs.rf g811.1
  have rf823 := Nat.lt_of_lt_of_eq rw781.2.1 nh810.symm
  have rf824 := gcst zh810 rf783
  have s825 := (fh810 0 (by decide)).trans s800
  have s826 := (fh810 1 (by decide)).trans s801
  have s827 := (fh810 2 (by decide)).trans s802
  have s828 := (fh810 3 (by decide)).trans s803
  have s829 := (fh810 4 (by decide)).trans s804
  have s830 := (fh810 5 (by decide)).trans s805
  have s831 := (fh810 6 (by decide)).trans s806
  refine gy_s 4 (pc' := 50) (L' := [some (.ref x), some (.ref s), some (.ref p), some (.int ((zi 7) + zi 1))]) (S' := [.ref x, .int ((zi 7) + zi 1)]) (L2 := [some (.ref x), some (.ref s), some (.ref p), some (.int (zi 8))]) (S2 := [.ref x, .int (zi 8)]) rfl (by simp only [zi_add, zi_sub, zi_mul, zi_neg, zi_and1, zi_and7, zi_and15, zi_and31, zi_and255, Int.reduceAdd, Int.reduceMul, Int.reduceSub]) (by simp only [zi_add, zi_sub, zi_mul, zi_neg, zi_and1, zi_and7, zi_and15, zi_and31, zi_and255, Int.reduceAdd, Int.reduceMul, Int.reduceSub]) ?_
  refine gz_get rfl (by decide) rfl nx rw813.2.1 rf814 s817 ?_
  refine gs_rlen (z := 8) rfl (by decide) rf823 kh810 rfl rf824 ?_
  refine gy_icT (pc' := 76) rfl (by decide) (by decide) ⟨by omega, by omega⟩ ⟨by omega, by omega⟩ (by first | (simp [zc]; done) | (simp only [zc]; omega)) ?_
  obtain ⟨ty833, g832, tg832, ug832⟩ := gSg.adx 68 sS822.1 t784 nnc3 rf823 rfl kh810 (by show (8 : Nat) ≤ _; have h9 := rf824; omega) (by show _ ≤ (8 : Nat); have h9 := rf824; omega) (fun ty9 w9 k hk => ad68 (by rw [s825]; exact ⟨c166, rfl, w9 c166 _ t788 (by decide)⟩) (by rw [s826]; exact ⟨c232, rfl, w9 c232 _ t789 (by decide)⟩) (by rw [s827]; exact ⟨c303, rfl, w9 c303 _ t790 (by decide)⟩) (by rw [s828]; exact ⟨c379, rfl, w9 c379 _ t791 (by decide)⟩) (by rw [s829]; exact ⟨c460, rfl, w9 c460 _ t792 (by decide)⟩) (by rw [s830]; exact ⟨c546, rfl, w9 c546 _ t793 (by decide)⟩) (by rw [s831]; exact ⟨c637, rfl, w9 c637 _ t794 (by decide)⟩) (by rw [eh810]; exact ⟨c733, rfl, w9 c733 _ trq772_0 (by decide)⟩) k (by have h8 : k < h810.2.2.2.1 c3 := hk; have h9 := rf824; omega))
  have uq834 := ug832 uq808 (Or.inr (gNo.sub (by decide) pr807))
  have G835 : gSg [66, 67, 68, 69, 70, 101, 102, 103, 200] [x] [] ty h ty833 h810 := gSg.tr (gSg.ss G812 sS822 (by decide)) g832 (by decide) (by decide) (fun x hx => Or.inl (by rw [List.mem_singleton.mp hx]; exact gac3))
  have rw836 := gSg.raw g832 rw813.2.1 (fun w => nex_c3 (List.mem_singleton.mp w))
  have rf837 := (rw836.2.2.1.trans rf814)
  have rf838 := (rw836.2.2.2.trans rf815)
  have t839 : ty833 x = 200 := rw836.1.trans t778
  have t840 : ty833 s = 51 := gSg.typ g832 sS822.1 t779 rfl
  have t841 : ty833 p = 54 := gSg.typ g832 sS822.1 t780 rfl
  have t842 : ty833 c28 = 69 := gSg.typ g832 sS822.1 t785 rfl
  have t843 : ty833 c59 = 70 := gSg.typ g832 sS822.1 t786 rfl
  have t844 : ty833 c106 = 67 := gSg.typ g832 sS822.1 t787 rfl
  have t845 : ty833 c166 = 101 := gSg.typ g832 sS822.1 t788 rfl
  have t846 : ty833 c232 = 101 := gSg.typ g832 sS822.1 t789 rfl
  have t847 : ty833 c303 = 101 := gSg.typ g832 sS822.1 t790 rfl
  have t848 : ty833 c379 = 101 := gSg.typ g832 sS822.1 t791 rfl
  have t849 : ty833 c460 = 101 := gSg.typ g832 sS822.1 t792 rfl
  have t850 : ty833 c546 = 101 := gSg.typ g832 sS822.1 t793 rfl
  have t851 : ty833 c637 = 101 := gSg.typ g832 sS822.1 t794 rfl
  have t852 : ty833 c733 = 101 := gSg.typ g832 sS822.1 trq772_0 rfl
  have pr853 : gNo [66] ty833 := gNo.gr g832 (by decide) (gNo.sub (by decide) pr807)
  have sS854 : gSs rT 1027 ty833 [] h810 h810 := gSs.rf g832.1
  obtain ⟨ty856, g855, tg855, ug855⟩ := gSg.adx 66 sS854.1 t839 nx rw836.2.1 rfl rf837 (by show (0 : Nat) ≤ _; have h9 := rf838; omega) (by show _ ≤ (0 : Nat); have h9 := rf838; omega) (fun ty9 w9 k hk => ad66 (by rw [s821]; exact ⟨c106, rfl, w9 c106 _ t844 (by decide)⟩) (by rw [(show h810.2.2.2.2 x 1 = .int (zi 0) from dd816 1 (by decide))]; exact ⟨0, rfl, by show ((-1) : Int) ≤ _; omega, by show _ ≤ (65535 : Int); omega⟩) (by rw [(show h810.2.2.2.2 x 2 = .int (zi 0) from dd816 2 (by decide))]; exact ⟨0, rfl, by show ((-1) : Int) ≤ _; omega, by show _ ≤ (255 : Int); omega⟩) (by rw [(show h810.2.2.2.2 x 3 = .int (zi 0) from dd816 3 (by decide))]; exact ⟨0, rfl, by show ((-1) : Int) ≤ _; omega, by show _ ≤ (255 : Int); omega⟩) (by rw [(show h810.2.2.2.2 x 4 = .int (zi 0) from dd816 4 (by decide))]; exact ⟨0, rfl, by show ((-1) : Int) ≤ _; omega, by show _ ≤ (15 : Int); omega⟩) (by rw [(show h810.2.2.2.2 x 5 = .int (zi 0) from dd816 5 (by decide))]; exact ⟨0, rfl, by show (0 : Int) ≤ _; omega, by show _ ≤ (15 : Int); omega⟩) (by rw [s817]; exact ⟨c3, rfl, w9 c3 _ tg832 (by decide)⟩) (by rw [s820]; exact ⟨p, rfl, w9 p _ t841 (by decide)⟩) (by rw [s818]; exact ⟨c28, rfl, w9 c28 _ t842 (by decide)⟩) (by rw [s819]; exact ⟨c59, rfl, w9 c59 _ t843 (by decide)⟩) (by rw [(show h810.2.2.2.2 x 10 = .int (zi 0) from dd816 10 (by decide))]; exact ⟨0, rfl, by show (0 : Int) ≤ _; omega, by show _ ≤ (12 : Int); omega⟩) (by rw [(show h810.2.2.2.2 x 11 = .int (zi 0) from dd816 11 (by decide))]; exact ⟨0, rfl, by show (0 : Int) ≤ _; omega, by show _ ≤ (1 : Int); omega⟩) (by rw [(show h810.2.2.2.2 x 12 = .int (zi 0) from dd816 12 (by decide))]; exact ⟨0, rfl, by show (0 : Int) ≤ _; omega, by show _ ≤ (2 : Int); omega⟩) (by rw [(show h810.2.2.2.2 x 13 = .int (zi 0) from dd816 13 (by decide))]; exact ⟨0, rfl, by show (0 : Int) ≤ _; omega, by show _ ≤ (70000 : Int); omega⟩) (by rw [(show h810.2.2.2.2 x 14 = .int (zi 0) from dd816 14 (by decide))]; exact ⟨0, rfl, by show ((-2147483648) : Int) ≤ _; omega, by show _ ≤ (2147483647 : Int); omega⟩) k)
  have uq857 := ug855 uq834 (Or.inr pr853)
  have G858 : gSg [66, 67, 68, 69, 70, 101, 102, 103, 200] [x] [] ty h ty856 h810 := gSg.tr (gSg.ss G835 sS854 (by decide)) g855 (by decide) (by decide) (fun x hx => Or.inr hx)
  have t859 : ty856 s = 51 := gSg.typ g855 sS854.1 t840 rfl
  have t860 : ty856 p = 54 := gSg.typ g855 sS854.1 t841 rfl
  have t861 : ty856 c3 = 68 := gSg.typ g855 sS854.1 tg832 rfl
  have t862 : ty856 c28 = 69 := gSg.typ g855 sS854.1 t842 rfl
  have t863 : ty856 c59 = 70 := gSg.typ g855 sS854.1 t843 rfl
  have t864 : ty856 c106 = 67 := gSg.typ g855 sS854.1 t844 rfl
  have t865 : ty856 c166 = 101 := gSg.typ g855 sS854.1 t845 rfl
  have t866 : ty856 c232 = 101 := gSg.typ g855 sS854.1 t846 rfl
  have t867 : ty856 c303 = 101 := gSg.typ g855 sS854.1 t847 rfl
  have t868 : ty856 c379 = 101 := gSg.typ g855 sS854.1 t848 rfl
  have t869 : ty856 c460 = 101 := gSg.typ g855 sS854.1 t849 rfl
  have t870 : ty856 c546 = 101 := gSg.typ g855 sS854.1 t850 rfl
  have t871 : ty856 c637 = 101 := gSg.typ g855 sS854.1 t851 rfl
  have t872 : ty856 c733 = 101 := gSg.typ g855 sS854.1 t852 rfl
  have sS873 : gSs rT 1027 ty856 [] h810 h810 := gSs.rf g855.1
  have G874 : gSg [66, 67, 68, 69, 70, 101, 102, 103, 200] [x] [] ty h ty856 h810 := gSg.ss G858 sS873 (by decide)
  exact gz_end (I := .return_) (len := 1) rfl (Or.inl rfl) ⟨ty856, G874, tg855, rfl, (by dsimp only; omega), (by dsimp only; omega), uq857⟩
