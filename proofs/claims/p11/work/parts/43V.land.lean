/-! ===== methods of the landed text (by program) ===== -/
set_option maxRecDepth 20000 in
set_option maxHeartbeats 4000000 in
theorem cl_encode0 (d : Nat) {ty : Nat → Nat} {h : gH} (hJ : gJ rT 1027 ty h) (x : Nat) (tx : ty x = 50) (q : Int) (rq : 1 ≤ q ∧ q ≤ 100) (dr : Nat) (edr : h.2.2.2.2 x 3 = .ref dr) (tdr : ty dr = 55) (sk : Nat) (esk : h.2.2.2.2 x 4 = .ref sk) (tsk : ty sk = 56) (by : Nat) (eby : h.2.2.2.2 sk 0 = .ref by) (tby : ty by = 114) (nu0 : h.2.2.2.2 x 6 = .null) (hyst : gSta ty h) (no0 : gNo [71, 72, 73, 74, 75, 76, 77, 78, 79, 80, 81, 85, 91, 92, 93, 94, 95, 96, 97, 98, 99] ty) (n0 : Int) (en0 : h.2.2.2.2 dr 8 = .int (zi n0)) (rn0 : 0 ≤ n0 ∧ n0 ≤ 10) (w0 : Int) (ew0 : h.2.2.2.2 dr 1 = .int (zi w0)) (rw0 : 1 ≤ w0 ∧ w0 ≤ 32) (uq : gUq ty) (hytc : gTc ty n0 h) : gz gPP gGG gcn (d + 8) gt89 0 (gent [.ref x, .int (zi q)] 3) [] h (fun q _ => ∃ ty9 : Nat → Nat, gSg [71, 72, 73, 74, 75, 76, 77, 78, 79, 80, 81, 85, 91, 92, 93, 94, 95, 96, 97, 98, 99, 114, 200] [] [50006, 55008, 56000, 56001, 56002, 56003, 64999, 71005, 71006, 71007, 71008, 71009, 71010, 71011, 71012, 71013, 71014, 72999, 73999, 74999, 76999, 77999, 78999, 79999, 80999, 81999, 85999, 91004, 91008, 92004, 92008, 93999, 94999, 95999, 96999, 97999, 98999, 99999, 114999] ty h ty9 q.2.2 ∧ ∃ wr2 by2 : Nat, True ∧ ∃ z n1 c1 : Int, q.2.2.2.2.2.2 x 6 = .ref wr2 ∧ ty9 wr2 = 71 ∧ q.2.2.2.2.2.2 sk 0 = .ref by2 ∧ ty9 by2 = 114 ∧ gfin gt89 q.1 q.2.1 = some (some (.int (zi z))) ∧ (-2147483648) ≤ z ∧ z ≤ 2147483647 ∧ q.2.2.2.2.2.2 dr 8 = .int (zi n1) ∧ 0 ≤ n1 ∧ n1 ≤ 10 ∧ q.2.2.2.2.2.2 sk 1 = .int (zi c1) ∧ 0 ≤ c1 ∧ c1 ≤ 500000 ∧ (n1 = 0) ∧ (c1 ≤ (q.2.2.2.2.2.1 by2 : Int)) ∧ (((q.2.2.1 : Int) - h.1 - 21) * 1024 ≤ (q.2.2.2.2.2.1 by2 : Int) - h.2.2.2.1 by) ∧ (((q.2.2.2.1 : Int) - h.2.1 - 4303) ≤ 2 * ((q.2.2.2.2.2.1 by2 : Int) - h.2.2.2.1 by)) ∧ ((h.2.2.2.1 by : Int) ≤ (q.2.2.2.2.2.1 by2 : Int)) ∧ (gTc ty9 n1 q.2.2) ∧ gUq ty9) := by
  have hS : gSs rT 1027 ty [50006, 55008, 56000, 56001, 56002, 56003, 64999, 71005, 71006, 71007, 71008, 71009, 71010, 71011, 71012, 71013, 71014, 72999, 73999, 74999, 76999, 77999, 78999, 79999, 80999, 81999, 85999, 91004, 91008, 92004, 92008, 93999, 94999, 95999, 96999, 97999, 98999, 99999, 114999] h h := gSs.rf hJ
  have G0 : gSg [71, 72, 73, 74, 75, 76, 77, 78, 79, 80, 81, 85, 91, 92, 93, 94, 95, 96, 97, 98, 99, 114, 200] [] [50006, 55008, 56000, 56001, 56002, 56003, 64999, 71005, 71006, 71007, 71008, 71009, 71010, 71011, 71012, 71013, 71014, 72999, 73999, 74999, 76999, 77999, 78999, 79999, 80999, 81999, 85999, 91004, 91008, 92004, 92008, 93999, 94999, 95999, 96999, 97999, 98999, 99999, 114999] ty h ty h := gSg.rf hJ (fun x hx => by cases hx)
  refine gz_s 2 (pc' := 2) (L' := [some (.ref x), some (.int (zi q)), none]) (S' := [.int (zi 1), .int (zi q)]) rfl ?_
  refine gy_icF rfl (by decide) (by decide) (by omega) (by omega) (by first | (simp [zc]; done) | (simp only [zc]; omega)) ?_
  refine gz_s 2 (pc' := 8) (L' := [some (.ref x), some (.int (zi q)), none]) (S' := [.int (zi 100), .int (zi q)]) rfl ?_
  refine gy_icT (pc' := 21) rfl (by decide) (by decide) (by omega) (by omega) (by first | (simp [zc]; done) | (simp only [zc]; omega)) ?_
  refine gz_s 1 (pc' := 22) (L' := [some (.ref x), some (.int (zi q)), none]) (S' := [.ref x]) rfl ?_
  refine gs_gtk rfl (by decide) rfl hS.1 tx rfl rfl edr ?_
  refine gs_gtk rfl (by decide) rfl hS.1 tdr rfl rfl ew0 ?_
  refine gz_s 1 (pc' := 29) (L' := [some (.ref x), some (.int (zi q)), none]) (S' := [.int (zi 1), .int (zi w0)]) rfl ?_
  refine gy_icT (pc' := 42) rfl (by decide) (by decide) (by omega) (by omega) (by first | (simp [zc]; done) | (simp only [zc]; omega)) ?_
  refine gz_s 1 (pc' := 43) (L' := [some (.ref x), some (.int (zi q)), none]) (S' := [.ref x]) rfl ?_
  refine gs_gtk rfl (by decide) rfl hS.1 tx rfl rfl nu0 ?_
  refine gz_s 2 (pc' := 50) (L' := [some (.ref x), some (.int (zi q)), none]) (S' := [.ref x]) rfl ?_
  refine gs_newo rfl (by decide) rfl hS.1 (Nat.le_of_lt (Nat.lt_of_le_of_lt (gJ.cell hS.1 tx rfl).1 (gJ.cell hS.1 tx rfl).2.1)) (fun ty1 h2 c3 g4 tc3 kc3 zc3 nc3 mc3 ec3 dc3 => ?_)
  have mfc3 : h2.2.1 = h.2.1 + 15 := mc3
  have gac3 : h.1 ≤ c3 := by have h8 := G0.2.1; have h9 := hS.2.1; omega
  have nnc3 : 1027 ≤ c3 := by have h8 := (Nat.le_of_lt (Nat.lt_of_le_of_lt (gJ.cell hS.1 tx rfl).1 (gJ.cell hS.1 tx rfl).2.1)); omega
  have llc3 : c3 < _ := by rw [nc3, ec3]; exact Nat.lt_succ_self _
  have G5 : gSg [71, 72, 73, 74, 75, 76, 77, 78, 79, 80, 81, 85, 91, 92, 93, 94, 95, 96, 97, 98, 99, 114, 200] [] [50006, 55008, 56000, 56001, 56002, 56003, 64999, 71005, 71006, 71007, 71008, 71009, 71010, 71011, 71012, 71013, 71014, 72999, 73999, 74999, 76999, 77999, 78999, 79999, 80999, 81999, 85999, 91004, 91008, 92004, 92008, 93999, 94999, 95999, 96999, 97999, 98999, 99999, 114999] ty h ty1 h2 := gSg.tr (gSg.ss G0 hS (by decide)) g4 (by decide) (by decide) (fun x hx => by cases hx)
  have t6 : ty1 x = 50 := gSg.typ g4 hS.1 tx rfl
  have t7 : ty1 dr = 55 := gSg.typ g4 hS.1 tdr rfl
  have t8 : ty1 sk = 56 := gSg.typ g4 hS.1 tsk rfl
  have t9 : ty1 by = 114 := gSg.typ g4 hS.1 tby rfl
  have hl10 : h2.2.2.2.1 by = h.2.2.2.1 by := gSg.len g4 hS.1 tby rfl
  have s11 := gSg.at g4 hS.1 tx rfl (by decide) edr
  have s12 := gSg.at g4 hS.1 tx rfl (by decide) esk
  have s13 := gSg.at g4 hS.1 tsk rfl (by decide) eby
  have s14 := gSg.at g4 hS.1 tx rfl (by decide) nu0
  have s15 := gSg.at g4 hS.1 tdr rfl (by decide) en0
  have s16 := gSg.at g4 hS.1 tdr rfl (by decide) ew0
  have pr17 : gNo [71, 72, 73, 74, 75, 76, 77, 78, 79, 80, 81, 85, 91, 92, 93, 94, 95, 96, 97, 98, 99] ty1 := gNo.gr g4 (by decide) (gNo.sub (by decide) no0)
  have pr18 := gTc.gr g4 hS.1 (by decide) (by decide) hytc
  have uq19 := gSg.uq g4 uq (by decide)
  have hyst20 := gSta.gr g4 (by decide) (fun x hx => by cases hx) (gSta.fr hS.2 (by decide) hyst)
  have sS21 : gSs rT 1027 ty1 [50006, 55008, 56000, 56001, 56002, 56003, 64999, 71005, 71006, 71007, 71008, 71009, 71010, 71011, 71012, 71013, 71014, 72999, 73999, 74999, 76999, 77999, 78999, 79999, 80999, 81999, 85999, 91004, 91008, 92004, 92008, 93999, 94999, 95999, 96999, 97999, 98999, 99999, 114999] h2 h2 := gSs.rf g4.1
  refine gz_s 2 (pc' := 55) (L' := [some (.ref x), some (.int (zi q)), none]) (S' := [.ref x, .ref c3, .ref c3, .ref x]) rfl ?_
  refine gs_gtk rfl (by decide) rfl sS21.1 t6 rfl rfl s12 ?_
  refine gz_call rfl (by decide) rfl (by decide) (by decide) (gcal_of rfl rfl rfl (Nat.le_of_ble_eq_true rfl) rfl) (ct_Writer _ sS21.1 c3 tc3 nnc3 llc3 kc3 zc3 dc3 sk t8 pr17 uq19) (fun q22 _ wq22 => ?_)
  obtain ⟨pq22, oq22, hq22⟩ := q22
  obtain ⟨tyq22, xq22, trq22_0, gq22, uq22_0, uq22_1, uqq22⟩ := wq22
  dsimp only at uq22_0 uq22_1
  refine ⟨_, gq22, ?_⟩
  show gz gPP gGG gcn _ _ 61 [some (.ref x), some (.int (zi q)), none] [.ref c3, .ref x] hq22 _
  have G23 : gSg [71, 72, 73, 74, 75, 76, 77, 78, 79, 80, 81, 85, 91, 92, 93, 94, 95, 96, 97, 98, 99, 114, 200] [] [50006, 55008, 56000, 56001, 56002, 56003, 64999, 71005, 71006, 71007, 71008, 71009, 71010, 71011, 71012, 71013, 71014, 72999, 73999, 74999, 76999, 77999, 78999, 79999, 80999, 81999, 85999, 91004, 91008, 92004, 92008, 93999, 94999, 95999, 96999, 97999, 98999, 99999, 114999] ty h tyq22 hq22 := gSg.tr (gSg.ss G5 sS21 (by decide)) xq22 (by decide) (by decide) (fun x hx => Or.inl (by rw [List.mem_singleton.mp hx]; exact gac3))
  have t24 : tyq22 x = 50 := gSg.typ xq22 sS21.1 t6 rfl
  have t25 : tyq22 dr = 55 := gSg.typ xq22 sS21.1 t7 rfl
  have t26 : tyq22 sk = 56 := gSg.typ xq22 sS21.1 t8 rfl
  have t27 : tyq22 by = 114 := gSg.typ xq22 sS21.1 t9 rfl
  have hl28 : hq22.2.2.2.1 by = h2.2.2.2.1 by := gSg.len xq22 sS21.1 t9 rfl
  have s29 := gSg.at xq22 sS21.1 t6 rfl (by decide) s11
  have s30 := gSg.at xq22 sS21.1 t6 rfl (by decide) s12
  have s31 := gSg.at xq22 sS21.1 t8 rfl (by decide) s13
  have s32 := gSg.at xq22 sS21.1 t6 rfl (by decide) s14
  have s33 := gSg.at xq22 sS21.1 t7 rfl (by decide) s15
  have s34 := gSg.at xq22 sS21.1 t7 rfl (by decide) s16
  have pr35 := gTc.gr xq22 sS21.1 (by decide) (by decide) pr18
  have hyst36 := gSta.gr xq22 (by decide) (fun x hx => by rw [List.mem_singleton.mp hx]; have h9 := nnc3; omega) (gSta.fr sS21.2 (by decide) hyst20)
  have sS37 : gSs rT 1027 tyq22 [50006, 55008, 56000, 56001, 56002, 56003, 64999, 71005, 71006, 71007, 71008, 71009, 71010, 71011, 71012, 71013, 71014, 72999, 73999, 74999, 76999, 77999, 78999, 79999, 80999, 81999, 85999, 91004, 91008, 92004, 92008, 93999, 94999, 95999, 96999, 97999, 98999, 99999, 114999] hq22 hq22 := gSs.rf xq22.1
  refine gs_ptr rfl (by decide) rfl sS37 t24 rfl rfl (Or.inr rfl) rfl (Or.inl rfl) (by decide) trq22_0 (fun h38 sh38 eh38 fh38 => ?_)
  have pr39 := gTc.pt fh38 t24 (by decide) pr35
  have s40 := (fh38 x 3 (fun q => absurd q.2 (by decide))).trans s29
  have s41 := (fh38 x 4 (fun q => absurd q.2 (by decide))).trans s30
  have s42 := (fh38 sk 0 (fun q => absurd q.2 (by decide))).trans s31
  have s43 := (fh38 dr 8 (fun q => absurd q.2 (by decide))).trans s33
  have s44 := (fh38 dr 1 (fun q => absurd q.2 (by decide))).trans s34
  refine gz_s 1 (pc' := 65) (L' := [some (.ref x), some (.int (zi q)), none]) (S' := [.ref x]) rfl ?_
  refine gs_gtk rfl (by decide) rfl sh38.1 t24 rfl rfl eh38 ?_
  refine gz_s 1 (pc' := 69) (L' := [some (.ref x), some (.int (zi q)), none]) (S' := [.ref x, .ref c3]) rfl ?_
  refine gs_gtr rfl (by decide) rfl sh38.1 t24 rfl rfl rfl (fun c45 ec45 tc45 => ?_)
  refine gz_s 1 (pc' := 73) (L' := [some (.ref x), some (.int (zi q)), none]) (S' := [.int (zi q), .ref c45, .ref c3]) rfl ?_
  refine gz_call rfl (by decide) rfl (by decide) (by decide) (gcal_of rfl rfl rfl (Nat.le_of_ble_eq_true rfl) (gJ.recv (G := gGG) sh38.1 trq22_0 rfl rfl)) (cl_Writer_makeTable _ sh38.1 c3 trq22_0 c45 tc45 q (by omega) uqq22) (fun q46 _ wq46 => ?_)
  obtain ⟨pq46, oq46, hq46⟩ := q46
  obtain ⟨xq46, gq46⟩ := wq46
  refine ⟨_, gq46, ?_⟩
  show gz gPP gGG gcn _ _ 76 [some (.ref x), some (.int (zi q)), none] [] hq46 _
  have sq46 : gSs rT 1027 tyq22 [50006, 55008, 56000, 56001, 56002, 56003, 64999, 71005, 71006, 71007, 71008, 71009, 71010, 71011, 71012, 71013, 71014, 72999, 73999, 74999, 76999, 77999, 78999, 79999, 80999, 81999, 85999, 91004, 91008, 92004, 92008, 93999, 94999, 95999, 96999, 97999, 98999, 99999, 114999] hq22 hq46 := gSs.tr sh38 xq46 (by decide)
  have s47 := (xq46.2.2.2.2.2 x 3 (by rw [t24]; decide)).trans s40
  have s48 := (xq46.2.2.2.2.2 x 4 (by rw [t24]; decide)).trans s41
  have s49 := (xq46.2.2.2.2.2 sk 0 (by rw [t26]; decide)).trans s42
  have s50 := (xq46.2.2.2.2.2 dr 8 (by rw [t25]; decide)).trans s43
  have s51 := (xq46.2.2.2.2.2 dr 1 (by rw [t25]; decide)).trans s44
  have s52 := (xq46.2.2.2.2.2 x 6 (by rw [t24]; decide)).trans eh38
  have s53 := (xq46.2.2.2.2.2 x 1 (by rw [t24]; decide)).trans ec45
  have pr54 := gTc.fr xq46.2 (by decide) pr39
  refine gz_s 1 (pc' := 77) (L' := [some (.ref x), some (.int (zi q)), none]) (S' := [.ref x]) rfl ?_
  refine gs_gtk rfl (by decide) rfl sq46.1 t24 rfl rfl s52 ?_
  refine gz_s 1 (pc' := 81) (L' := [some (.ref x), some (.int (zi q)), none]) (S' := [.ref x, .ref c3]) rfl ?_
  refine gs_gtk rfl (by decide) rfl sq46.1 t24 rfl rfl s47 ?_
  refine gz_call rfl (by decide) rfl (by decide) (by decide) (gcal_of rfl rfl rfl (Nat.le_of_ble_eq_true rfl) (gJ.recv (G := gGG) sq46.1 trq22_0 rfl rfl)) (cl_Writer_transformCanvas _ sq46.1 c3 trq22_0 dr t25 (gSta.fr sq46.2 (by decide) hyst36) uqq22) (fun q55 _ wq55 => ?_)
  obtain ⟨pq55, oq55, hq55⟩ := q55
  obtain ⟨xq55, gq55⟩ := wq55
  refine ⟨_, gq55, ?_⟩
  show gz gPP gGG gcn _ _ 87 [some (.ref x), some (.int (zi q)), none] [] hq55 _
  have sq55 : gSs rT 1027 tyq22 [50006, 55008, 56000, 56001, 56002, 56003, 64999, 71005, 71006, 71007, 71008, 71009, 71010, 71011, 71012, 71013, 71014, 72999, 73999, 74999, 76999, 77999, 78999, 79999, 80999, 81999, 85999, 91004, 91008, 92004, 92008, 93999, 94999, 95999, 96999, 97999, 98999, 99999, 114999] hq22 hq55 := gSs.tr sq46 xq55 (by decide)
  have s56 := (xq55.2.2.2.2.2 x 3 (by rw [t24]; decide)).trans s47
  have s57 := (xq55.2.2.2.2.2 x 4 (by rw [t24]; decide)).trans s48
  have s58 := (xq55.2.2.2.2.2 sk 0 (by rw [t26]; decide)).trans s49
  have s59 := (xq55.2.2.2.2.2 dr 8 (by rw [t25]; decide)).trans s50
  have s60 := (xq55.2.2.2.2.2 dr 1 (by rw [t25]; decide)).trans s51
  have s61 := (xq55.2.2.2.2.2 x 6 (by rw [t24]; decide)).trans s52
  have s62 := (xq55.2.2.2.2.2 x 1 (by rw [t24]; decide)).trans s53
  have pr63 := gTc.fr xq55.2 (by decide) pr54
  refine gz_s 1 (pc' := 88) (L' := [some (.ref x), some (.int (zi q)), none]) (S' := [.ref x]) rfl ?_
  refine gs_gtk rfl (by decide) rfl sq55.1 t24 rfl rfl s61 ?_
  refine gz_s 1 (pc' := 92) (L' := [some (.ref x), some (.int (zi q)), none]) (S' := [.ref x, .ref c3]) rfl ?_
  refine gs_gtk rfl (by decide) rfl sq55.1 t24 rfl rfl s56 ?_
  have k64 := sq55.2.1
  have k64b := sq55.2.2.1
  have hl65 : hq55.2.2.2.1 by = hq22.2.2.2.1 by := congrFun sq55.2.2.2.2.1 by
  obtain ⟨c66, ec66, tc66⟩ := gJ.ref (k := 0) (G := gGG) sq55.1 trq22_0 rfl rfl rfl
  have ee67 : sk = c66 := uqq22 sk c66 (t26.trans tc66.symm) (by rw [t26]; decide) (by rw [t26]; decide)
  subst ee67
  refine gz_call rfl (by decide) rfl (by decide) (by decide) (gcal_of rfl rfl rfl (Nat.le_of_ble_eq_true rfl) (gJ.recv (G := gGG) sq55.1 trq22_0 rfl rfl)) (cl_Writer_putHead _ sq55.1 c3 trq22_0 dr t25 sk ec66 t26 by s58 t27 uqq22) (fun q68 _ wq68 => ?_)
  obtain ⟨pq68, oq68, hq68⟩ := q68
  obtain ⟨tyq68, xq68, cq68_0, ttq68, fq68_0, fq68_1, ecq68_0, tcq68_0, gq68, efq68_0, afq68_0, bfq68_0, efq68_1, afq68_1, bfq68_1, uq68_0, uq68_1, uq68_2, uq68_3, uq68_4, uq68_5⟩ := wq68
  dsimp only at uq68_2 uq68_3 uq68_4 uq68_5
  refine ⟨_, gq68, ?_⟩
  show gz gPP gGG gcn _ _ 98 [some (.ref x), some (.int (zi q)), none] [] hq68 _
  have G69 : gSg [71, 72, 73, 74, 75, 76, 77, 78, 79, 80, 81, 85, 91, 92, 93, 94, 95, 96, 97, 98, 99, 114, 200] [] [50006, 55008, 56000, 56001, 56002, 56003, 64999, 71005, 71006, 71007, 71008, 71009, 71010, 71011, 71012, 71013, 71014, 72999, 73999, 74999, 76999, 77999, 78999, 79999, 80999, 81999, 85999, 91004, 91008, 92004, 92008, 93999, 94999, 95999, 96999, 97999, 98999, 99999, 114999] ty h tyq68 hq68 := gSg.tr (gSg.ss G23 sq55 (by decide)) xq68 (by decide) (by decide) (fun x hx => by cases hx)
  have t70 : tyq68 x = 50 := gSg.typ xq68 sq55.1 t24 rfl
  have t71 : tyq68 dr = 55 := gSg.typ xq68 sq55.1 t25 rfl
  have t72 : tyq68 sk = 56 := gSg.typ xq68 sq55.1 t26 rfl
  have t73 : tyq68 by = 114 := gSg.typ xq68 sq55.1 t27 rfl
  have hl74 : hq68.2.2.2.1 by = hq55.2.2.2.1 by := gSg.len xq68 sq55.1 t27 rfl
  have t75 : tyq68 c3 = 71 := gSg.typ xq68 sq55.1 trq22_0 rfl
  have t76 : tyq68 c45 = 53 := gSg.typ xq68 sq55.1 tc45 rfl
  have s77 := gSg.at xq68 sq55.1 t24 rfl (by decide) s56
  have s78 := gSg.at xq68 sq55.1 t24 rfl (by decide) s57
  have s79 := gSg.at xq68 sq55.1 t25 rfl (by decide) s59
  have s80 := gSg.at xq68 sq55.1 t25 rfl (by decide) s60
  have s81 := gSg.at xq68 sq55.1 t24 rfl (by decide) s61
  have s82 := gSg.at xq68 sq55.1 t24 rfl (by decide) s62
  have s83 := gSg.at xq68 sq55.1 trq22_0 rfl (by decide) ec66
  have pr84 := gTc.gr xq68 sq55.1 (by decide) (by decide) pr63
  have uq85 := gSg.uq xq68 uqq22 (by decide)
  have hyst86 := gSta.gr xq68 (by decide) (fun x hx => by cases hx) (gSta.fr sq55.2 (by decide) hyst36)
  have sS87 : gSs rT 1027 tyq68 [50006, 55008, 56000, 56001, 56002, 56003, 64999, 71005, 71006, 71007, 71008, 71009, 71010, 71011, 71012, 71013, 71014, 72999, 73999, 74999, 76999, 77999, 78999, 79999, 80999, 81999, 85999, 91004, 91008, 92004, 92008, 93999, 94999, 95999, 96999, 97999, 98999, 99999, 114999] hq68 hq68 := gSs.rf xq68.1
  refine gz_s 1 (pc' := 99) (L' := [some (.ref x), some (.int (zi q)), none]) (S' := [.ref x]) rfl ?_
  refine gs_gtk rfl (by decide) rfl sS87.1 t70 rfl rfl s77 ?_
  refine gs_gtk rfl (by decide) rfl sS87.1 t71 rfl rfl s79 ?_
  by_cases hc88 : ¬ (n0 : Int) = 0
  · refine gy_ifT (pc' := 120) rfl (by decide) (by decide) (by omega) hc88 ?_
    obtain ⟨tf, tt, cf, rf, rt, rc, tle, tsm⟩ := pr84
    have hg0 := gsf_nn (f := fun j => gcr (cf j)) (fun j => by unfold gcr; split <;> omega) 64
    have hgl0 : gTl tf tt 0 = 0 := rfl
    refine gz_s 2 (pc' := 122) (L' := [some (.ref x), some (.int (zi q)), some (.int (zi 0))]) (S' := []) rfl ?_
    have lp89 : ∀ (fu : Nat) (ty91 : Nat → Nat) (h90 : gH) (bv : Nat) (i : Int) (cv : Int) (hv : Int), (11 - i).toNat < fu → gSg [71, 72, 73, 74, 75, 76, 77, 78, 79, 80, 81, 85, 91, 92, 93, 94, 95, 96, 97, 98, 99, 114, 200] [] [50006, 55008, 56000, 56001, 56002, 56003, 64999, 71005, 71006, 71007, 71008, 71009, 71010, 71011, 71012, 71013, 71014, 72999, 73999, 74999, 76999, 77999, 78999, 79999, 80999, 81999, 85999, 91004, 91008, 92004, 92008, 93999, 94999, 95999, 96999, 97999, 98999, 99999, 114999] ty h ty91 h90 → gUq ty91 → gSta ty91 h90 → ty91 x = 50 → ty91 dr = 55 → ty91 sk = 56 → ty91 c3 = 71 → ty91 c45 = 53 → h90.2.2.2.2 sk 0 = .ref bv → ty91 bv = 114 → (0 ≤ i ∧ i ≤ 10) → (0 ≤ cv ∧ cv ≤ 499999) → (0 ≤ hv ∧ hv ≤ 7) → ((n0 = 0 ∧ 4 * cv + hv ≤ 336000) ∨ 4 * cv + hv ≤ 400 + 7876 * i + 5120 * gTl tf tt i) → (i ≤ n0) → (cv ≤ (h90.2.2.2.1 bv : Int)) → (1024 * ((h90.1 : Int) - h.1 - 21) ≤ (h90.2.2.2.1 bv : Int) - h.2.2.2.1 by) → (((h90.2.1 : Int) - h.2.1 - 4303) ≤ 2 * ((h90.2.2.2.1 bv : Int) - h.2.2.2.1 by)) → ((h.2.2.2.1 by : Int) ≤ (h90.2.2.2.1 bv : Int)) → h90.2.2.2.2 x 3 = .ref dr → h90.2.2.2.2 x 4 = .ref sk → h90.2.2.2.2 dr 8 = .int (zi n0) → h90.2.2.2.2 dr 1 = .int (zi w0) → h90.2.2.2.2 x 6 = .ref c3 → h90.2.2.2.2 x 1 = .ref c45 → h90.2.2.2.2 c3 0 = .ref sk → h90.2.2.2.2 sk 1 = .int (zi cv) → h90.2.2.2.2 sk 3 = .int (zi hv) → gRow ty91 60 tf h90 → gRow ty91 61 tt h90 → gz gPP gGG gcn (d + 8) gt89 122 [some (.ref x), some (.int (zi q)), some (.int (zi i))] [] h90 (fun q _ => ∃ ty9 : Nat → Nat, gSg [71, 72, 73, 74, 75, 76, 77, 78, 79, 80, 81, 85, 91, 92, 93, 94, 95, 96, 97, 98, 99, 114, 200] [] [50006, 55008, 56000, 56001, 56002, 56003, 64999, 71005, 71006, 71007, 71008, 71009, 71010, 71011, 71012, 71013, 71014, 72999, 73999, 74999, 76999, 77999, 78999, 79999, 80999, 81999, 85999, 91004, 91008, 92004, 92008, 93999, 94999, 95999, 96999, 97999, 98999, 99999, 114999] ty h ty9 q.2.2 ∧ ∃ wr2 by2 : Nat, True ∧ ∃ z n1 c1 : Int, q.2.2.2.2.2.2 x 6 = .ref wr2 ∧ ty9 wr2 = 71 ∧ q.2.2.2.2.2.2 sk 0 = .ref by2 ∧ ty9 by2 = 114 ∧ gfin gt89 q.1 q.2.1 = some (some (.int (zi z))) ∧ (-2147483648) ≤ z ∧ z ≤ 2147483647 ∧ q.2.2.2.2.2.2 dr 8 = .int (zi n1) ∧ 0 ≤ n1 ∧ n1 ≤ 10 ∧ q.2.2.2.2.2.2 sk 1 = .int (zi c1) ∧ 0 ≤ c1 ∧ c1 ≤ 500000 ∧ (n1 = 0) ∧ (c1 ≤ (q.2.2.2.2.2.1 by2 : Int)) ∧ (((q.2.2.1 : Int) - h.1 - 21) * 1024 ≤ (q.2.2.2.2.2.1 by2 : Int) - h.2.2.2.1 by) ∧ (((q.2.2.2.1 : Int) - h.2.1 - 4303) ≤ 2 * ((q.2.2.2.2.2.1 by2 : Int) - h.2.2.2.1 by)) ∧ ((h.2.2.2.1 by : Int) ≤ (q.2.2.2.2.2.1 by2 : Int)) ∧ (gTc ty9 n1 q.2.2) ∧ gUq ty9) := by
      intro fu
      induction fu with
      | zero => intro ty91 h90 bv i cv hv hm; exact absurd hm (Nat.not_lt_zero _)
      | succ fu ihlp89 =>
        intro ty91 h90 bv i cv hv lp89m lp89G lp89u lp89t lp89c0 lp89c1 lp89c2 lp89c3 lp89c4 lp89r0 lp89r1 lp89f0 lp89f1 lp89f2 lp89f3 lp89f4 lp89f5 lp89f6 lp89f7 lp89f8 lp89k0 lp89k1 lp89k2 lp89k3 lp89k4 lp89k5 lp89k6 lp89k7 lp89k8 lp89k9 lp89k10
        have sh90 : gSs rT 1027 ty91 [50006, 55008, 56000, 56001, 56002, 56003, 64999, 71005, 71006, 71007, 71008, 71009, 71010, 71011, 71012, 71013, 71014, 72999, 73999, 74999, 76999, 77999, 78999, 79999, 80999, 81999, 85999, 91004, 91008, 92004, 92008, 93999, 94999, 95999, 96999, 97999, 98999, 99999, 114999] h90 h90 := gSs.rf lp89G.1
        refine gz_s 2 (pc' := 124) (L' := [some (.ref x), some (.int (zi q)), some (.int (zi i))]) (S' := [.ref x, .int (zi i)]) rfl ?_
        refine gs_gtk rfl (by decide) rfl sh90.1 lp89c0 rfl rfl lp89k0 ?_
        refine gs_gtk rfl (by decide) rfl sh90.1 lp89c1 rfl rfl lp89k2 ?_
        by_cases hc92 : (n0 : Int) ≤ i
        · refine gy_icT (pc' := 182) rfl (by decide) (by decide) (by omega) (by omega) hc92 ?_
          refine gz_s 1 (pc' := 183) (L' := [some (.ref x), some (.int (zi q)), some (.int (zi i))]) (S' := [.ref x]) rfl ?_
          refine gs_gtk rfl (by decide) rfl sh90.1 lp89c0 rfl rfl lp89k4 ?_
          have hl93 : h90.2.2.2.1 bv = h90.2.2.2.1 bv := congrFun sh90.2.2.2.2.1 bv
          refine gz_call rfl (by decide) rfl (by decide) (by decide) (gcal_of rfl rfl rfl (Nat.le_of_ble_eq_true rfl) (gJ.recv (G := gGG) sh90.1 lp89c3 rfl rfl)) (cl_Writer_putEnd _ sh90.1 c3 lp89c3 sk lp89k6 lp89c2 bv lp89r0 lp89r1 cv lp89k7 (by omega) (by omega) lp89u) (fun q94 _ wq94 => ?_)
          obtain ⟨pq94, oq94, hq94⟩ := q94
          obtain ⟨tyq94, xq94, cq94_0, ttq94, fq94_0, ecq94_0, tcq94_0, gq94, efq94_0, afq94_0, bfq94_0, uq94_0, uq94_1, uq94_2, uq94_3, uq94_4⟩ := wq94
          dsimp only at uq94_1 uq94_2 uq94_3 uq94_4
          refine ⟨_, gq94, ?_⟩
          show gz gPP gGG gcn _ _ 189 [some (.ref x), some (.int (zi q)), some (.int (zi i))] [] hq94 _
          have G95 : gSg [71, 72, 73, 74, 75, 76, 77, 78, 79, 80, 81, 85, 91, 92, 93, 94, 95, 96, 97, 98, 99, 114, 200] [] [50006, 55008, 56000, 56001, 56002, 56003, 64999, 71005, 71006, 71007, 71008, 71009, 71010, 71011, 71012, 71013, 71014, 72999, 73999, 74999, 76999, 77999, 78999, 79999, 80999, 81999, 85999, 91004, 91008, 92004, 92008, 93999, 94999, 95999, 96999, 97999, 98999, 99999, 114999] ty h tyq94 hq94 := gSg.tr (gSg.ss lp89G sh90 (by decide)) xq94 (by decide) (by decide) (fun x hx => by cases hx)
          have t96 : tyq94 x = 50 := gSg.typ xq94 sh90.1 lp89c0 rfl
          have t97 : tyq94 dr = 55 := gSg.typ xq94 sh90.1 lp89c1 rfl
          have t98 : tyq94 sk = 56 := gSg.typ xq94 sh90.1 lp89c2 rfl
          have t99 : tyq94 c3 = 71 := gSg.typ xq94 sh90.1 lp89c3 rfl
          have t100 : tyq94 c45 = 53 := gSg.typ xq94 sh90.1 lp89c4 rfl
          have t101 : tyq94 bv = 114 := gSg.typ xq94 sh90.1 lp89r1 rfl
          have hl102 : hq94.2.2.2.1 bv = h90.2.2.2.1 bv := gSg.len xq94 sh90.1 lp89r1 rfl
          have s103 := gSg.at xq94 sh90.1 lp89c0 rfl (by decide) lp89k0
          have s104 := gSg.at xq94 sh90.1 lp89c0 rfl (by decide) lp89k1
          have s105 := gSg.at xq94 sh90.1 lp89c1 rfl (by decide) lp89k2
          have s106 := gSg.at xq94 sh90.1 lp89c1 rfl (by decide) lp89k3
          have s107 := gSg.at xq94 sh90.1 lp89c0 rfl (by decide) lp89k4
          have s108 := gSg.at xq94 sh90.1 lp89c0 rfl (by decide) lp89k5
          have s109 := gSg.at xq94 sh90.1 lp89c3 rfl (by decide) lp89k6
          have s110 := gSg.at xq94 sh90.1 lp89c2 rfl (by decide) lp89k8
          have pr111 := gRow.gr xq94 sh90.1 rfl (by decide) (by decide) lp89k9
          have pr112 := gRow.gr xq94 sh90.1 rfl (by decide) (by decide) lp89k10
          have uq113 := gSg.uq xq94 lp89u (by decide)
          have hyst114 := gSta.gr xq94 (by decide) (fun x hx => by cases hx) (gSta.fr sh90.2 (by decide) lp89t)
          have sS115 : gSs rT 1027 tyq94 [50006, 55008, 56000, 56001, 56002, 56003, 64999, 71005, 71006, 71007, 71008, 71009, 71010, 71011, 71012, 71013, 71014, 72999, 73999, 74999, 76999, 77999, 78999, 79999, 80999, 81999, 85999, 91004, 91008, 92004, 92008, 93999, 94999, 95999, 96999, 97999, 98999, 99999, 114999] hq94 hq94 := gSs.rf xq94.1
          refine gz_s 1 (pc' := 190) (L' := [some (.ref x), some (.int (zi q)), some (.int (zi i))]) (S' := [.ref x]) rfl ?_
          refine gs_gtk rfl (by decide) rfl sS115.1 t96 rfl rfl s103 ?_
          refine gz_call rfl (by decide) rfl (by decide) (by decide) (gcal_of rfl rfl rfl (Nat.le_of_ble_eq_true rfl) (gJ.recv (G := gGG) sS115.1 t97 rfl rfl)) (cl_Draft_forgetScans _ sS115.1 dr t97 uq113) (fun q116 _ wq116 => ?_)
          obtain ⟨pq116, oq116, hq116⟩ := q116
          obtain ⟨xq116, fq116_0, gq116, efq116_0, afq116_0, bfq116_0, uq116_0, yq116_0⟩ := wq116
          refine ⟨_, gq116, ?_⟩
          show gz gPP gGG gcn _ _ 196 [some (.ref x), some (.int (zi q)), some (.int (zi i))] [] hq116 _
          have sq116 : gSs rT 1027 tyq94 [50006, 55008, 56000, 56001, 56002, 56003, 64999, 71005, 71006, 71007, 71008, 71009, 71010, 71011, 71012, 71013, 71014, 72999, 73999, 74999, 76999, 77999, 78999, 79999, 80999, 81999, 85999, 91004, 91008, 92004, 92008, 93999, 94999, 95999, 96999, 97999, 98999, 99999, 114999] hq94 hq116 := gSs.tr sS115 xq116 (by decide)
          have s117 := (xq116.2.2.2.2.2 x 3 (by rw [t96]; decide)).trans s103
          have s118 := (xq116.2.2.2.2.2 x 4 (by rw [t96]; decide)).trans s104
          have s119 := (xq116.2.2.2.2.2 dr 1 (by rw [t97]; decide)).trans s106
          have s120 := (xq116.2.2.2.2.2 x 6 (by rw [t96]; decide)).trans s107
          have s121 := (xq116.2.2.2.2.2 x 1 (by rw [t96]; decide)).trans s108
          have s122 := (xq116.2.2.2.2.2 c3 0 (by rw [t99]; decide)).trans s109
          have s123 := (xq116.2.2.2.2.2 sk 3 (by rw [t98]; decide)).trans s110
          have s124 := (xq116.2.2.2.2.2 sk 0 (by rw [t98]; decide)).trans ecq94_0
          have s125 := (xq116.2.2.2.2.2 sk 1 (by rw [t98]; decide)).trans efq94_0
          have pr126 := gRow.fr xq116.2 (by decide) pr111
          have pr127 := gRow.fr xq116.2 (by decide) pr112
          refine gz_s 1 (pc' := 197) (L' := [some (.ref x), some (.int (zi q)), some (.int (zi i))]) (S' := [.ref x]) rfl ?_
          refine gs_gtk rfl (by decide) rfl sq116.1 t96 rfl rfl s118 ?_
          refine gs_gtk rfl (by decide) rfl sq116.1 t98 rfl rfl s125 ?_
          have k128 := sq116.2.1
          have k128b := sq116.2.2.1
          have hl129 : hq116.2.2.2.1 bv = hq94.2.2.2.1 bv := congrFun sq116.2.2.2.2.1 bv
          have hl130 : hq116.2.2.2.1 cq94_0 = hq94.2.2.2.1 cq94_0 := congrFun sq116.2.2.2.2.1 cq94_0
          have htc131 : gTc tyq94 fq116_0 hq116 := by
            rw [(by omega : fq116_0 = 0)]
            exact yq116_0
          have G132 : gSg [71, 72, 73, 74, 75, 76, 77, 78, 79, 80, 81, 85, 91, 92, 93, 94, 95, 96, 97, 98, 99, 114, 200] [] [50006, 55008, 56000, 56001, 56002, 56003, 64999, 71005, 71006, 71007, 71008, 71009, 71010, 71011, 71012, 71013, 71014, 72999, 73999, 74999, 76999, 77999, 78999, 79999, 80999, 81999, 85999, 91004, 91008, 92004, 92008, 93999, 94999, 95999, 96999, 97999, 98999, 99999, 114999] ty h tyq94 hq116 := gSg.ss G95 sq116 (by decide)
          exact gz_end (I := .ireturn) (len := 1) rfl (Or.inl rfl) ⟨tyq94, G132, c3, cq94_0, trivial, fq94_0, fq116_0, fq94_0, s120, t99, s124, tcq94_0, rfl, (by omega), (by omega), efq116_0, (by omega), (by omega), s125, (by omega), (by omega), (by omega), (by dsimp only; omega), (by dsimp only; omega), (by dsimp only; omega), (by dsimp only; omega), htc131, uq113⟩
        · refine gy_icF rfl (by decide) (by decide) (by omega) (by omega) hc92 ?_
          refine gz_s 1 (pc' := 134) (L' := [some (.ref x), some (.int (zi q)), some (.int (zi i))]) (S' := [.ref x]) rfl ?_
          refine gs_gtk rfl (by decide) rfl sh90.1 lp89c0 rfl rfl lp89k4 ?_
          refine gz_s 1 (pc' := 138) (L' := [some (.ref x), some (.int (zi q)), some (.int (zi i))]) (S' := [.ref x, .ref c3]) rfl ?_
          refine gs_gtk rfl (by decide) rfl sh90.1 lp89c0 rfl rfl lp89k0 ?_
          refine gs_gtr rfl (by decide) rfl sh90.1 lp89c1 rfl rfl rfl (fun c133 ec133 tc133 => ?_)
          refine gz_s 1 (pc' := 145) (L' := [some (.ref x), some (.int (zi q)), some (.int (zi i))]) (S' := [.int (zi i), .ref c133, .ref c3]) rfl ?_
          have hl134 : 10 ≤ h90.2.2.2.1 c133 ∧ h90.2.2.2.1 c133 ≤ 10 := gJ.rowl (G := gGG) sh90.1 tc133 rfl
          refine gs_ald rfl (by decide) sh90.1 tc133 rfl rfl rfl (by decide) (fun _ => rfl) (by omega) (by omega) (fun z135 ez135 az135 bz135 => ?_)
          have hf136 := gRow.at (i := i) (z := z135) lp89k9 tc133 ez135 (by omega) (by omega) (by omega)
          refine gz_s 1 (pc' := 147) (L' := [some (.ref x), some (.int (zi q)), some (.int (zi i))]) (S' := [.ref x, .int (zi z135), .ref c3]) rfl ?_
          refine gs_gtk rfl (by decide) rfl sh90.1 lp89c0 rfl rfl lp89k0 ?_
          refine gs_gtr rfl (by decide) rfl sh90.1 lp89c1 rfl rfl rfl (fun c137 ec137 tc137 => ?_)
          refine gz_s 1 (pc' := 154) (L' := [some (.ref x), some (.int (zi q)), some (.int (zi i))]) (S' := [.int (zi i), .ref c137, .int (zi z135), .ref c3]) rfl ?_
          have hl138 : 10 ≤ h90.2.2.2.1 c137 ∧ h90.2.2.2.1 c137 ≤ 10 := gJ.rowl (G := gGG) sh90.1 tc137 rfl
          refine gs_ald rfl (by decide) sh90.1 tc137 rfl rfl rfl (by decide) (fun _ => rfl) (by omega) (by omega) (fun z139 ez139 az139 bz139 => ?_)
          have hf140 := gRow.at (i := i) (z := z139) lp89k10 tc137 ez139 (by omega) (by omega) (by omega)
          refine gz_s 1 (pc' := 156) (L' := [some (.ref x), some (.int (zi q)), some (.int (zi i))]) (S' := [.ref x, .int (zi z139), .int (zi z135), .ref c3]) rfl ?_
          refine gs_gtk rfl (by decide) rfl sh90.1 lp89c0 rfl rfl lp89k0 ?_
          refine gs_gtr rfl (by decide) rfl sh90.1 lp89c1 rfl rfl rfl (fun c141 ec141 tc141 => ?_)
          refine gz_s 1 (pc' := 163) (L' := [some (.ref x), some (.int (zi q)), some (.int (zi i))]) (S' := [.int (zi i), .ref c141, .int (zi z139), .int (zi z135), .ref c3]) rfl ?_
          have hl142 : 10 ≤ h90.2.2.2.1 c141 ∧ h90.2.2.2.1 c141 ≤ 10 := gJ.rowl (G := gGG) sh90.1 tc141 rfl
          refine gs_ald rfl (by decide) sh90.1 tc141 rfl rfl rfl (by decide) (fun _ => rfl) (by omega) (by omega) (fun z143 ez143 az143 bz143 => ?_)
          refine gz_s 1 (pc' := 165) (L' := [some (.ref x), some (.int (zi q)), some (.int (zi i))]) (S' := [.ref x, .int (zi z143), .int (zi z139), .int (zi z135), .ref c3]) rfl ?_
          refine gs_gtk rfl (by decide) rfl sh90.1 lp89c0 rfl rfl lp89k0 ?_
          refine gs_gtr rfl (by decide) rfl sh90.1 lp89c1 rfl rfl rfl (fun c144 ec144 tc144 => ?_)
          refine gz_s 1 (pc' := 172) (L' := [some (.ref x), some (.int (zi q)), some (.int (zi i))]) (S' := [.int (zi i), .ref c144, .int (zi z143), .int (zi z139), .int (zi z135), .ref c3]) rfl ?_
          have hl145 : 10 ≤ h90.2.2.2.1 c144 ∧ h90.2.2.2.1 c144 ≤ 10 := gJ.rowl (G := gGG) sh90.1 tc144 rfl
          refine gs_ald rfl (by decide) sh90.1 tc144 rfl rfl rfl (by decide) (fun _ => rfl) (by omega) (by omega) (fun z146 ez146 az146 bz146 => ?_)
          have htl := tle (i).toNat (by omega)
          have hst := gTl_st (f := tf) (t := tt) (k := i) (a := z135) (b := z139) (by omega) hf136 hf140
          have hle := gTl_le (f := tf) (t := tt) (k := i + 1) (n := n0) tle (by omega)
          have hl147 : h90.2.2.2.1 bv = h90.2.2.2.1 bv := congrFun sh90.2.2.2.2.1 bv
          refine gz_call rfl (by decide) rfl (by decide) (by decide) (gcal_of rfl rfl rfl (Nat.le_of_ble_eq_true rfl) (gJ.recv (G := gGG) sh90.1 lp89c3 rfl rfl)) (cl_Writer_putScan _ sh90.1 c3 lp89c3 z135 (by omega) z139 (by omega) z143 (by omega) z146 (by omega) sk lp89k6 lp89c2 bv lp89r0 lp89r1 cv lp89k7 (by omega) hv lp89k8 (by omega) (by omega) (by omega) (by omega) lp89u) (fun q148 _ wq148 => ?_)
          obtain ⟨pq148, oq148, hq148⟩ := q148
          obtain ⟨tyq148, xq148, cq148_0, ttq148, fq148_0, fq148_1, ecq148_0, tcq148_0, gq148, efq148_0, afq148_0, bfq148_0, efq148_1, afq148_1, bfq148_1, uq148_0, uq148_1, uq148_2, uq148_3, uq148_4, uq148_5⟩ := wq148
          dsimp only at uq148_2 uq148_3 uq148_4 uq148_5
          refine ⟨_, gq148, ?_⟩
          show gz gPP gGG gcn _ _ 176 [some (.ref x), some (.int (zi q)), some (.int (zi i))] [] hq148 _
          have G149 : gSg [71, 72, 73, 74, 75, 76, 77, 78, 79, 80, 81, 85, 91, 92, 93, 94, 95, 96, 97, 98, 99, 114, 200] [] [50006, 55008, 56000, 56001, 56002, 56003, 64999, 71005, 71006, 71007, 71008, 71009, 71010, 71011, 71012, 71013, 71014, 72999, 73999, 74999, 76999, 77999, 78999, 79999, 80999, 81999, 85999, 91004, 91008, 92004, 92008, 93999, 94999, 95999, 96999, 97999, 98999, 99999, 114999] ty h tyq148 hq148 := gSg.tr (gSg.ss lp89G sh90 (by decide)) xq148 (by decide) (by decide) (fun x hx => by cases hx)
          have t150 : tyq148 x = 50 := gSg.typ xq148 sh90.1 lp89c0 rfl
          have t151 : tyq148 dr = 55 := gSg.typ xq148 sh90.1 lp89c1 rfl
          have t152 : tyq148 sk = 56 := gSg.typ xq148 sh90.1 lp89c2 rfl
          have t153 : tyq148 c3 = 71 := gSg.typ xq148 sh90.1 lp89c3 rfl
          have t154 : tyq148 c45 = 53 := gSg.typ xq148 sh90.1 lp89c4 rfl
          have t155 : tyq148 bv = 114 := gSg.typ xq148 sh90.1 lp89r1 rfl
          have hl156 : hq148.2.2.2.1 bv = h90.2.2.2.1 bv := gSg.len xq148 sh90.1 lp89r1 rfl
          have t157 : tyq148 c133 = 60 := gSg.typ xq148 sh90.1 tc133 rfl
          have t158 : tyq148 c137 = 61 := gSg.typ xq148 sh90.1 tc137 rfl
          have t159 : tyq148 c141 = 62 := gSg.typ xq148 sh90.1 tc141 rfl
          have t160 : tyq148 c144 = 63 := gSg.typ xq148 sh90.1 tc144 rfl
          have s161 := gSg.at xq148 sh90.1 lp89c0 rfl (by decide) lp89k0
          have s162 := gSg.at xq148 sh90.1 lp89c0 rfl (by decide) lp89k1
          have s163 := gSg.at xq148 sh90.1 lp89c1 rfl (by decide) lp89k2
          have s164 := gSg.at xq148 sh90.1 lp89c1 rfl (by decide) lp89k3
          have s165 := gSg.at xq148 sh90.1 lp89c0 rfl (by decide) lp89k4
          have s166 := gSg.at xq148 sh90.1 lp89c0 rfl (by decide) lp89k5
          have s167 := gSg.at xq148 sh90.1 lp89c3 rfl (by decide) lp89k6
          have s168 := gSg.at xq148 sh90.1 lp89c1 rfl (by decide) ec133
          have s169 := gSg.at xq148 sh90.1 lp89c1 rfl (by decide) ec137
          have s170 := gSg.at xq148 sh90.1 lp89c1 rfl (by decide) ec141
          have s171 := gSg.at xq148 sh90.1 lp89c1 rfl (by decide) ec144
          have pr172 := gRow.gr xq148 sh90.1 rfl (by decide) (by decide) lp89k9
          have pr173 := gRow.gr xq148 sh90.1 rfl (by decide) (by decide) lp89k10
          have uq174 := gSg.uq xq148 lp89u (by decide)
          have hyst175 := gSta.gr xq148 (by decide) (fun x hx => by cases hx) (gSta.fr sh90.2 (by decide) lp89t)
          have sS176 : gSs rT 1027 tyq148 [50006, 55008, 56000, 56001, 56002, 56003, 64999, 71005, 71006, 71007, 71008, 71009, 71010, 71011, 71012, 71013, 71014, 72999, 73999, 74999, 76999, 77999, 78999, 79999, 80999, 81999, 85999, 91004, 91008, 92004, 92008, 93999, 94999, 95999, 96999, 97999, 98999, 99999, 114999] hq148 hq148 := gSs.rf xq148.1
          refine gy_s 2 (pc' := 122) (L' := [some (.ref x), some (.int (zi q)), some (.int ((zi i) + zi 1))]) (S' := []) (L2 := [some (.ref x), some (.int (zi q)), some (.int (zi (i + 1)))]) (S2 := []) rfl (by simp only [zi_add, zi_sub, zi_mul, zi_neg, zi_and1, zi_and7, zi_and15, zi_and31, zi_and255]) (by simp only [zi_add, zi_sub, zi_mul, zi_neg, zi_and1, zi_and7, zi_and15, zi_and31, zi_and255]) ?_
          have G177 : gSg [71, 72, 73, 74, 75, 76, 77, 78, 79, 80, 81, 85, 91, 92, 93, 94, 95, 96, 97, 98, 99, 114, 200] [] [50006, 55008, 56000, 56001, 56002, 56003, 64999, 71005, 71006, 71007, 71008, 71009, 71010, 71011, 71012, 71013, 71014, 72999, 73999, 74999, 76999, 77999, 78999, 79999, 80999, 81999, 85999, 91004, 91008, 92004, 92008, 93999, 94999, 95999, 96999, 97999, 98999, 99999, 114999] ty h tyq148 hq148 := gSg.ss G149 sS176 (by decide)
          exact gz_wk (ihlp89 tyq148 hq148 cq148_0 (i + 1) fq148_0 fq148_1 (by omega) G177 uq174 (gSta.fr sS176.2 (by decide) hyst175) t150 t151 t152 t153 t154 ecq148_0 tcq148_0 (by omega) (by omega) (by omega) (by omega) (by omega) (by omega) (by omega) (by omega) (by omega) s161 s162 s163 s164 s165 s166 s167 efq148_0 efq148_1 pr172 pr173) (gLw.s (gLw.s (gLw.s gLw.z)))
    have G178 : gSg [71, 72, 73, 74, 75, 76, 77, 78, 79, 80, 81, 85, 91, 92, 93, 94, 95, 96, 97, 98, 99, 114, 200] [] [50006, 55008, 56000, 56001, 56002, 56003, 64999, 71005, 71006, 71007, 71008, 71009, 71010, 71011, 71012, 71013, 71014, 72999, 73999, 74999, 76999, 77999, 78999, 79999, 80999, 81999, 85999, 91004, 91008, 92004, 92008, 93999, 94999, 95999, 96999, 97999, 98999, 99999, 114999] ty h tyq68 hq68 := gSg.ss G69 sS87 (by decide)
    exact gz_wk (lp89 _ tyq68 hq68 cq68_0 0 fq68_0 fq68_1 (Nat.lt_succ_self _) G178 uq85 (gSta.fr sS87.2 (by decide) hyst86) t70 t71 t72 t75 t76 ecq68_0 tcq68_0 (by omega) (by omega) (by omega) (by omega) (by omega) (by omega) (by omega) (by omega) (by omega) s77 s78 s79 s80 s81 s82 s83 efq68_0 efq68_1 rf rt) (gLw.s (gLw.s (gLw.s gLw.z)))
  · refine gy_ifF rfl (by decide) (by decide) (by omega) hc88 ?_
    refine gz_s 1 (pc' := 109) (L' := [some (.ref x), some (.int (zi q)), none]) (S' := [.ref x]) rfl ?_
    refine gs_gtk rfl (by decide) rfl sS87.1 t70 rfl rfl s81 ?_
    refine gz_s 4 (pc' := 117) (L' := [some (.ref x), some (.int (zi q)), none]) (S' := [.int (zi 0), .int (zi 0), .int (zi 63), .int (zi 0), .ref c3]) rfl ?_
    have hl179 : hq68.2.2.2.1 cq68_0 = hq68.2.2.2.1 cq68_0 := congrFun sS87.2.2.2.2.1 cq68_0
    refine gz_call rfl (by decide) rfl (by decide) (by decide) (gcal_of rfl rfl rfl (Nat.le_of_ble_eq_true rfl) (gJ.recv (G := gGG) sS87.1 t75 rfl rfl)) (cl_Writer_putScan _ sS87.1 c3 t75 0 (by omega) 63 (by omega) 0 (by omega) 0 (by omega) sk s83 t72 cq68_0 ecq68_0 tcq68_0 fq68_0 efq68_0 (by omega) fq68_1 efq68_1 (by omega) (by omega) (by omega) (by omega) uq85) (fun q180 _ wq180 => ?_)
    obtain ⟨pq180, oq180, hq180⟩ := q180
    obtain ⟨tyq180, xq180, cq180_0, ttq180, fq180_0, fq180_1, ecq180_0, tcq180_0, gq180, efq180_0, afq180_0, bfq180_0, efq180_1, afq180_1, bfq180_1, uq180_0, uq180_1, uq180_2, uq180_3, uq180_4, uq180_5⟩ := wq180
    dsimp only at uq180_2 uq180_3 uq180_4 uq180_5
    refine ⟨_, gq180, ?_⟩
    show gz gPP gGG gcn _ _ 120 [some (.ref x), some (.int (zi q)), none] [] hq180 _
    have G181 : gSg [71, 72, 73, 74, 75, 76, 77, 78, 79, 80, 81, 85, 91, 92, 93, 94, 95, 96, 97, 98, 99, 114, 200] [] [50006, 55008, 56000, 56001, 56002, 56003, 64999, 71005, 71006, 71007, 71008, 71009, 71010, 71011, 71012, 71013, 71014, 72999, 73999, 74999, 76999, 77999, 78999, 79999, 80999, 81999, 85999, 91004, 91008, 92004, 92008, 93999, 94999, 95999, 96999, 97999, 98999, 99999, 114999] ty h tyq180 hq180 := gSg.tr (gSg.ss G69 sS87 (by decide)) xq180 (by decide) (by decide) (fun x hx => by cases hx)
    have t182 : tyq180 x = 50 := gSg.typ xq180 sS87.1 t70 rfl
    have t183 : tyq180 dr = 55 := gSg.typ xq180 sS87.1 t71 rfl
    have t184 : tyq180 sk = 56 := gSg.typ xq180 sS87.1 t72 rfl
    have t185 : tyq180 by = 114 := gSg.typ xq180 sS87.1 t73 rfl
    have hl186 : hq180.2.2.2.1 by = hq68.2.2.2.1 by := gSg.len xq180 sS87.1 t73 rfl
    have t187 : tyq180 c3 = 71 := gSg.typ xq180 sS87.1 t75 rfl
    have t188 : tyq180 c45 = 53 := gSg.typ xq180 sS87.1 t76 rfl
    have t189 : tyq180 cq68_0 = 114 := gSg.typ xq180 sS87.1 tcq68_0 rfl
    have hl190 : hq180.2.2.2.1 cq68_0 = hq68.2.2.2.1 cq68_0 := gSg.len xq180 sS87.1 tcq68_0 rfl
    have s191 := gSg.at xq180 sS87.1 t70 rfl (by decide) s77
    have s192 := gSg.at xq180 sS87.1 t70 rfl (by decide) s78
    have s193 := gSg.at xq180 sS87.1 t71 rfl (by decide) s79
    have s194 := gSg.at xq180 sS87.1 t71 rfl (by decide) s80
    have s195 := gSg.at xq180 sS87.1 t70 rfl (by decide) s81
    have s196 := gSg.at xq180 sS87.1 t70 rfl (by decide) s82
    have s197 := gSg.at xq180 sS87.1 t75 rfl (by decide) s83
    have pr198 := gTc.gr xq180 sS87.1 (by decide) (by decide) pr84
    have uq199 := gSg.uq xq180 uq85 (by decide)
    have hyst200 := gSta.gr xq180 (by decide) (fun x hx => by cases hx) (gSta.fr sS87.2 (by decide) hyst86)
    have sS201 : gSs rT 1027 tyq180 [50006, 55008, 56000, 56001, 56002, 56003, 64999, 71005, 71006, 71007, 71008, 71009, 71010, 71011, 71012, 71013, 71014, 72999, 73999, 74999, 76999, 77999, 78999, 79999, 80999, 81999, 85999, 91004, 91008, 92004, 92008, 93999, 94999, 95999, 96999, 97999, 98999, 99999, 114999] hq180 hq180 := gSs.rf xq180.1
    obtain ⟨tf, tt, cf, rf, rt, rc, tle, tsm⟩ := pr198
    have hg0 := gsf_nn (f := fun j => gcr (cf j)) (fun j => by unfold gcr; split <;> omega) 64
    have hgl0 : gTl tf tt 0 = 0 := rfl
    refine gz_s 2 (pc' := 122) (L' := [some (.ref x), some (.int (zi q)), some (.int (zi 0))]) (S' := []) rfl ?_
    have lp202 : ∀ (fu : Nat) (ty204 : Nat → Nat) (h203 : gH) (bv : Nat) (i : Int) (cv : Int) (hv : Int), (11 - i).toNat < fu → gSg [71, 72, 73, 74, 75, 76, 77, 78, 79, 80, 81, 85, 91, 92, 93, 94, 95, 96, 97, 98, 99, 114, 200] [] [50006, 55008, 56000, 56001, 56002, 56003, 64999, 71005, 71006, 71007, 71008, 71009, 71010, 71011, 71012, 71013, 71014, 72999, 73999, 74999, 76999, 77999, 78999, 79999, 80999, 81999, 85999, 91004, 91008, 92004, 92008, 93999, 94999, 95999, 96999, 97999, 98999, 99999, 114999] ty h ty204 h203 → gUq ty204 → gSta ty204 h203 → ty204 x = 50 → ty204 dr = 55 → ty204 sk = 56 → ty204 c3 = 71 → ty204 c45 = 53 → h203.2.2.2.2 sk 0 = .ref bv → ty204 bv = 114 → (0 ≤ i ∧ i ≤ 10) → (0 ≤ cv ∧ cv ≤ 499999) → (0 ≤ hv ∧ hv ≤ 7) → ((n0 = 0 ∧ 4 * cv + hv ≤ 336000) ∨ 4 * cv + hv ≤ 400 + 7876 * i + 5120 * gTl tf tt i) → (i ≤ n0) → (cv ≤ (h203.2.2.2.1 bv : Int)) → (1024 * ((h203.1 : Int) - h.1 - 21) ≤ (h203.2.2.2.1 bv : Int) - h.2.2.2.1 by) → (((h203.2.1 : Int) - h.2.1 - 4303) ≤ 2 * ((h203.2.2.2.1 bv : Int) - h.2.2.2.1 by)) → ((h.2.2.2.1 by : Int) ≤ (h203.2.2.2.1 bv : Int)) → h203.2.2.2.2 x 3 = .ref dr → h203.2.2.2.2 x 4 = .ref sk → h203.2.2.2.2 dr 8 = .int (zi n0) → h203.2.2.2.2 dr 1 = .int (zi w0) → h203.2.2.2.2 x 6 = .ref c3 → h203.2.2.2.2 x 1 = .ref c45 → h203.2.2.2.2 c3 0 = .ref sk → h203.2.2.2.2 sk 1 = .int (zi cv) → h203.2.2.2.2 sk 3 = .int (zi hv) → gRow ty204 60 tf h203 → gRow ty204 61 tt h203 → gz gPP gGG gcn (d + 8) gt89 122 [some (.ref x), some (.int (zi q)), some (.int (zi i))] [] h203 (fun q _ => ∃ ty9 : Nat → Nat, gSg [71, 72, 73, 74, 75, 76, 77, 78, 79, 80, 81, 85, 91, 92, 93, 94, 95, 96, 97, 98, 99, 114, 200] [] [50006, 55008, 56000, 56001, 56002, 56003, 64999, 71005, 71006, 71007, 71008, 71009, 71010, 71011, 71012, 71013, 71014, 72999, 73999, 74999, 76999, 77999, 78999, 79999, 80999, 81999, 85999, 91004, 91008, 92004, 92008, 93999, 94999, 95999, 96999, 97999, 98999, 99999, 114999] ty h ty9 q.2.2 ∧ ∃ wr2 by2 : Nat, True ∧ ∃ z n1 c1 : Int, q.2.2.2.2.2.2 x 6 = .ref wr2 ∧ ty9 wr2 = 71 ∧ q.2.2.2.2.2.2 sk 0 = .ref by2 ∧ ty9 by2 = 114 ∧ gfin gt89 q.1 q.2.1 = some (some (.int (zi z))) ∧ (-2147483648) ≤ z ∧ z ≤ 2147483647 ∧ q.2.2.2.2.2.2 dr 8 = .int (zi n1) ∧ 0 ≤ n1 ∧ n1 ≤ 10 ∧ q.2.2.2.2.2.2 sk 1 = .int (zi c1) ∧ 0 ≤ c1 ∧ c1 ≤ 500000 ∧ (n1 = 0) ∧ (c1 ≤ (q.2.2.2.2.2.1 by2 : Int)) ∧ (((q.2.2.1 : Int) - h.1 - 21) * 1024 ≤ (q.2.2.2.2.2.1 by2 : Int) - h.2.2.2.1 by) ∧ (((q.2.2.2.1 : Int) - h.2.1 - 4303) ≤ 2 * ((q.2.2.2.2.2.1 by2 : Int) - h.2.2.2.1 by)) ∧ ((h.2.2.2.1 by : Int) ≤ (q.2.2.2.2.2.1 by2 : Int)) ∧ (gTc ty9 n1 q.2.2) ∧ gUq ty9) := by
      intro fu
      induction fu with
      | zero => intro ty204 h203 bv i cv hv hm; exact absurd hm (Nat.not_lt_zero _)
      | succ fu ihlp202 =>
        intro ty204 h203 bv i cv hv lp202m lp202G lp202u lp202t lp202c0 lp202c1 lp202c2 lp202c3 lp202c4 lp202r0 lp202r1 lp202f0 lp202f1 lp202f2 lp202f3 lp202f4 lp202f5 lp202f6 lp202f7 lp202f8 lp202k0 lp202k1 lp202k2 lp202k3 lp202k4 lp202k5 lp202k6 lp202k7 lp202k8 lp202k9 lp202k10
        have sh203 : gSs rT 1027 ty204 [50006, 55008, 56000, 56001, 56002, 56003, 64999, 71005, 71006, 71007, 71008, 71009, 71010, 71011, 71012, 71013, 71014, 72999, 73999, 74999, 76999, 77999, 78999, 79999, 80999, 81999, 85999, 91004, 91008, 92004, 92008, 93999, 94999, 95999, 96999, 97999, 98999, 99999, 114999] h203 h203 := gSs.rf lp202G.1
        refine gz_s 2 (pc' := 124) (L' := [some (.ref x), some (.int (zi q)), some (.int (zi i))]) (S' := [.ref x, .int (zi i)]) rfl ?_
        refine gs_gtk rfl (by decide) rfl sh203.1 lp202c0 rfl rfl lp202k0 ?_
        refine gs_gtk rfl (by decide) rfl sh203.1 lp202c1 rfl rfl lp202k2 ?_
        refine gy_icT (pc' := 182) rfl (by decide) (by decide) (by omega) (by omega) (by first | (simp [zc]; done) | (simp only [zc]; omega)) ?_
        refine gz_s 1 (pc' := 183) (L' := [some (.ref x), some (.int (zi q)), some (.int (zi i))]) (S' := [.ref x]) rfl ?_
        refine gs_gtk rfl (by decide) rfl sh203.1 lp202c0 rfl rfl lp202k4 ?_
        have hl205 : h203.2.2.2.1 bv = h203.2.2.2.1 bv := congrFun sh203.2.2.2.2.1 bv
        refine gz_call rfl (by decide) rfl (by decide) (by decide) (gcal_of rfl rfl rfl (Nat.le_of_ble_eq_true rfl) (gJ.recv (G := gGG) sh203.1 lp202c3 rfl rfl)) (cl_Writer_putEnd _ sh203.1 c3 lp202c3 sk lp202k6 lp202c2 bv lp202r0 lp202r1 cv lp202k7 (by omega) (by omega) lp202u) (fun q206 _ wq206 => ?_)
        obtain ⟨pq206, oq206, hq206⟩ := q206
        obtain ⟨tyq206, xq206, cq206_0, ttq206, fq206_0, ecq206_0, tcq206_0, gq206, efq206_0, afq206_0, bfq206_0, uq206_0, uq206_1, uq206_2, uq206_3, uq206_4⟩ := wq206
        dsimp only at uq206_1 uq206_2 uq206_3 uq206_4
        refine ⟨_, gq206, ?_⟩
        show gz gPP gGG gcn _ _ 189 [some (.ref x), some (.int (zi q)), some (.int (zi i))] [] hq206 _
        have G207 : gSg [71, 72, 73, 74, 75, 76, 77, 78, 79, 80, 81, 85, 91, 92, 93, 94, 95, 96, 97, 98, 99, 114, 200] [] [50006, 55008, 56000, 56001, 56002, 56003, 64999, 71005, 71006, 71007, 71008, 71009, 71010, 71011, 71012, 71013, 71014, 72999, 73999, 74999, 76999, 77999, 78999, 79999, 80999, 81999, 85999, 91004, 91008, 92004, 92008, 93999, 94999, 95999, 96999, 97999, 98999, 99999, 114999] ty h tyq206 hq206 := gSg.tr (gSg.ss lp202G sh203 (by decide)) xq206 (by decide) (by decide) (fun x hx => by cases hx)
        have t208 : tyq206 x = 50 := gSg.typ xq206 sh203.1 lp202c0 rfl
        have t209 : tyq206 dr = 55 := gSg.typ xq206 sh203.1 lp202c1 rfl
        have t210 : tyq206 sk = 56 := gSg.typ xq206 sh203.1 lp202c2 rfl
        have t211 : tyq206 c3 = 71 := gSg.typ xq206 sh203.1 lp202c3 rfl
        have t212 : tyq206 c45 = 53 := gSg.typ xq206 sh203.1 lp202c4 rfl
        have t213 : tyq206 bv = 114 := gSg.typ xq206 sh203.1 lp202r1 rfl
        have hl214 : hq206.2.2.2.1 bv = h203.2.2.2.1 bv := gSg.len xq206 sh203.1 lp202r1 rfl
        have s215 := gSg.at xq206 sh203.1 lp202c0 rfl (by decide) lp202k0
        have s216 := gSg.at xq206 sh203.1 lp202c0 rfl (by decide) lp202k1
        have s217 := gSg.at xq206 sh203.1 lp202c1 rfl (by decide) lp202k2
        have s218 := gSg.at xq206 sh203.1 lp202c1 rfl (by decide) lp202k3
        have s219 := gSg.at xq206 sh203.1 lp202c0 rfl (by decide) lp202k4
        have s220 := gSg.at xq206 sh203.1 lp202c0 rfl (by decide) lp202k5
        have s221 := gSg.at xq206 sh203.1 lp202c3 rfl (by decide) lp202k6
        have s222 := gSg.at xq206 sh203.1 lp202c2 rfl (by decide) lp202k8
        have pr223 := gRow.gr xq206 sh203.1 rfl (by decide) (by decide) lp202k9
        have pr224 := gRow.gr xq206 sh203.1 rfl (by decide) (by decide) lp202k10
        have uq225 := gSg.uq xq206 lp202u (by decide)
        have hyst226 := gSta.gr xq206 (by decide) (fun x hx => by cases hx) (gSta.fr sh203.2 (by decide) lp202t)
        have sS227 : gSs rT 1027 tyq206 [50006, 55008, 56000, 56001, 56002, 56003, 64999, 71005, 71006, 71007, 71008, 71009, 71010, 71011, 71012, 71013, 71014, 72999, 73999, 74999, 76999, 77999, 78999, 79999, 80999, 81999, 85999, 91004, 91008, 92004, 92008, 93999, 94999, 95999, 96999, 97999, 98999, 99999, 114999] hq206 hq206 := gSs.rf xq206.1
        refine gz_s 1 (pc' := 190) (L' := [some (.ref x), some (.int (zi q)), some (.int (zi i))]) (S' := [.ref x]) rfl ?_
        refine gs_gtk rfl (by decide) rfl sS227.1 t208 rfl rfl s215 ?_
        refine gz_call rfl (by decide) rfl (by decide) (by decide) (gcal_of rfl rfl rfl (Nat.le_of_ble_eq_true rfl) (gJ.recv (G := gGG) sS227.1 t209 rfl rfl)) (cl_Draft_forgetScans _ sS227.1 dr t209 uq225) (fun q228 _ wq228 => ?_)
        obtain ⟨pq228, oq228, hq228⟩ := q228
        obtain ⟨xq228, fq228_0, gq228, efq228_0, afq228_0, bfq228_0, uq228_0, yq228_0⟩ := wq228
        refine ⟨_, gq228, ?_⟩
        show gz gPP gGG gcn _ _ 196 [some (.ref x), some (.int (zi q)), some (.int (zi i))] [] hq228 _
        have sq228 : gSs rT 1027 tyq206 [50006, 55008, 56000, 56001, 56002, 56003, 64999, 71005, 71006, 71007, 71008, 71009, 71010, 71011, 71012, 71013, 71014, 72999, 73999, 74999, 76999, 77999, 78999, 79999, 80999, 81999, 85999, 91004, 91008, 92004, 92008, 93999, 94999, 95999, 96999, 97999, 98999, 99999, 114999] hq206 hq228 := gSs.tr sS227 xq228 (by decide)
        have s229 := (xq228.2.2.2.2.2 x 3 (by rw [t208]; decide)).trans s215
        have s230 := (xq228.2.2.2.2.2 x 4 (by rw [t208]; decide)).trans s216
        have s231 := (xq228.2.2.2.2.2 dr 1 (by rw [t209]; decide)).trans s218
        have s232 := (xq228.2.2.2.2.2 x 6 (by rw [t208]; decide)).trans s219
        have s233 := (xq228.2.2.2.2.2 x 1 (by rw [t208]; decide)).trans s220
        have s234 := (xq228.2.2.2.2.2 c3 0 (by rw [t211]; decide)).trans s221
        have s235 := (xq228.2.2.2.2.2 sk 3 (by rw [t210]; decide)).trans s222
        have s236 := (xq228.2.2.2.2.2 sk 0 (by rw [t210]; decide)).trans ecq206_0
        have s237 := (xq228.2.2.2.2.2 sk 1 (by rw [t210]; decide)).trans efq206_0
        have pr238 := gRow.fr xq228.2 (by decide) pr223
        have pr239 := gRow.fr xq228.2 (by decide) pr224
        refine gz_s 1 (pc' := 197) (L' := [some (.ref x), some (.int (zi q)), some (.int (zi i))]) (S' := [.ref x]) rfl ?_
        refine gs_gtk rfl (by decide) rfl sq228.1 t208 rfl rfl s230 ?_
        refine gs_gtk rfl (by decide) rfl sq228.1 t210 rfl rfl s237 ?_
        have k240 := sq228.2.1
        have k240b := sq228.2.2.1
        have hl241 : hq228.2.2.2.1 bv = hq206.2.2.2.1 bv := congrFun sq228.2.2.2.2.1 bv
        have hl242 : hq228.2.2.2.1 cq206_0 = hq206.2.2.2.1 cq206_0 := congrFun sq228.2.2.2.2.1 cq206_0
        have htc243 : gTc tyq206 fq228_0 hq228 := by
          rw [(by omega : fq228_0 = 0)]
          exact yq228_0
        have G244 : gSg [71, 72, 73, 74, 75, 76, 77, 78, 79, 80, 81, 85, 91, 92, 93, 94, 95, 96, 97, 98, 99, 114, 200] [] [50006, 55008, 56000, 56001, 56002, 56003, 64999, 71005, 71006, 71007, 71008, 71009, 71010, 71011, 71012, 71013, 71014, 72999, 73999, 74999, 76999, 77999, 78999, 79999, 80999, 81999, 85999, 91004, 91008, 92004, 92008, 93999, 94999, 95999, 96999, 97999, 98999, 99999, 114999] ty h tyq206 hq228 := gSg.ss G207 sq228 (by decide)
        exact gz_end (I := .ireturn) (len := 1) rfl (Or.inl rfl) ⟨tyq206, G244, c3, cq206_0, trivial, fq206_0, fq228_0, fq206_0, s232, t211, s236, tcq206_0, rfl, (by omega), (by omega), efq228_0, (by omega), (by omega), s237, (by omega), (by omega), (by omega), (by dsimp only; omega), (by dsimp only; omega), (by dsimp only; omega), (by dsimp only; omega), htc243, uq225⟩
    have G245 : gSg [71, 72, 73, 74, 75, 76, 77, 78, 79, 80, 81, 85, 91, 92, 93, 94, 95, 96, 97, 98, 99, 114, 200] [] [50006, 55008, 56000, 56001, 56002, 56003, 64999, 71005, 71006, 71007, 71008, 71009, 71010, 71011, 71012, 71013, 71014, 72999, 73999, 74999, 76999, 77999, 78999, 79999, 80999, 81999, 85999, 91004, 91008, 92004, 92008, 93999, 94999, 95999, 96999, 97999, 98999, 99999, 114999] ty h tyq180 hq180 := gSg.ss G181 sS201 (by decide)
    exact gz_wk (lp202 _ tyq180 hq180 cq180_0 0 fq180_0 fq180_1 (Nat.lt_succ_self _) G245 uq199 (gSta.fr sS201.2 (by decide) hyst200) t182 t183 t184 t187 t188 ecq180_0 tcq180_0 (by omega) (by omega) (by omega) (by omega) (by omega) (by omega) (by omega) (by omega) (by omega) s191 s192 s193 s194 s195 s196 s197 efq180_0 efq180_1 rf rt) (gLw.s (gLw.s (gLw.s gLw.z)))
set_option maxRecDepth 20000 in
set_option maxHeartbeats 4000000 in
theorem cl_encode1 (d : Nat) {ty : Nat → Nat} {h : gH} (hJ : gJ rT 1027 ty h) (x : Nat) (tx : ty x = 50) (q : Int) (rq : 1 ≤ q ∧ q ≤ 100) (dr : Nat) (edr : h.2.2.2.2 x 3 = .ref dr) (tdr : ty dr = 55) (sk : Nat) (esk : h.2.2.2.2 x 4 = .ref sk) (tsk : ty sk = 56) (by : Nat) (eby : h.2.2.2.2 sk 0 = .ref by) (tby : ty by = 114) (wr : Nat) (ewr : h.2.2.2.2 x 6 = .ref wr) (twr : ty wr = 71) (hyst : gSta ty h) (n0 : Int) (en0 : h.2.2.2.2 dr 8 = .int (zi n0)) (rn0 : 0 ≤ n0 ∧ n0 ≤ 10) (w0 : Int) (ew0 : h.2.2.2.2 dr 1 = .int (zi w0)) (rw0 : 1 ≤ w0 ∧ w0 ≤ 32) (uq : gUq ty) (hytc : gTc ty n0 h) : gz gPP gGG gcn (d + 8) gt89 0 (gent [.ref x, .int (zi q)] 3) [] h (fun q _ => ∃ ty9 : Nat → Nat, gSg [114] [] [55008, 56000, 56001, 56002, 56003, 64999, 71005, 71006, 71007, 71008, 71009, 71010, 71011, 71012, 71013, 71014, 72999, 73999, 74999, 76999, 77999, 78999, 79999, 80999, 81999, 85999, 91004, 91008, 92004, 92008, 93999, 94999, 95999, 96999, 97999, 98999, 99999, 114999] ty h ty9 q.2.2 ∧ ∃ wr2 by2 : Nat, True ∧ ∃ z n1 c1 : Int, q.2.2.2.2.2.2 x 6 = .ref wr2 ∧ ty9 wr2 = 71 ∧ q.2.2.2.2.2.2 sk 0 = .ref by2 ∧ ty9 by2 = 114 ∧ gfin gt89 q.1 q.2.1 = some (some (.int (zi z))) ∧ (-2147483648) ≤ z ∧ z ≤ 2147483647 ∧ q.2.2.2.2.2.2 dr 8 = .int (zi n1) ∧ 0 ≤ n1 ∧ n1 ≤ 10 ∧ q.2.2.2.2.2.2 sk 1 = .int (zi c1) ∧ 0 ≤ c1 ∧ c1 ≤ 500000 ∧ (n1 = 0) ∧ (c1 ≤ (q.2.2.2.2.2.1 by2 : Int)) ∧ (1024 * ((q.2.2.1 : Int) - h.1) ≤ (q.2.2.2.2.2.1 by2 : Int) - h.2.2.2.1 by) ∧ (((q.2.2.2.1 : Int) - h.2.1) ≤ 2 * ((q.2.2.2.2.2.1 by2 : Int) - h.2.2.2.1 by)) ∧ ((h.2.2.2.1 by : Int) ≤ (q.2.2.2.2.2.1 by2 : Int)) ∧ (gTc ty9 n1 q.2.2)) := by
  have hS : gSs rT 1027 ty [55008, 56000, 56001, 56002, 56003, 64999, 71005, 71006, 71007, 71008, 71009, 71010, 71011, 71012, 71013, 71014, 72999, 73999, 74999, 76999, 77999, 78999, 79999, 80999, 81999, 85999, 91004, 91008, 92004, 92008, 93999, 94999, 95999, 96999, 97999, 98999, 99999, 114999] h h := gSs.rf hJ
  have G0 : gSg [114] [] [55008, 56000, 56001, 56002, 56003, 64999, 71005, 71006, 71007, 71008, 71009, 71010, 71011, 71012, 71013, 71014, 72999, 73999, 74999, 76999, 77999, 78999, 79999, 80999, 81999, 85999, 91004, 91008, 92004, 92008, 93999, 94999, 95999, 96999, 97999, 98999, 99999, 114999] ty h ty h := gSg.rf hJ (fun x hx => by cases hx)
  refine gz_s 2 (pc' := 2) (L' := [some (.ref x), some (.int (zi q)), none]) (S' := [.int (zi 1), .int (zi q)]) rfl ?_
  refine gy_icF rfl (by decide) (by decide) (by omega) (by omega) (by first | (simp [zc]; done) | (simp only [zc]; omega)) ?_
  refine gz_s 2 (pc' := 8) (L' := [some (.ref x), some (.int (zi q)), none]) (S' := [.int (zi 100), .int (zi q)]) rfl ?_
  refine gy_icT (pc' := 21) rfl (by decide) (by decide) (by omega) (by omega) (by first | (simp [zc]; done) | (simp only [zc]; omega)) ?_
  refine gz_s 1 (pc' := 22) (L' := [some (.ref x), some (.int (zi q)), none]) (S' := [.ref x]) rfl ?_
  refine gs_gtk rfl (by decide) rfl hS.1 tx rfl rfl edr ?_
  refine gs_gtk rfl (by decide) rfl hS.1 tdr rfl rfl ew0 ?_
  refine gz_s 1 (pc' := 29) (L' := [some (.ref x), some (.int (zi q)), none]) (S' := [.int (zi 1), .int (zi w0)]) rfl ?_
  refine gy_icT (pc' := 42) rfl (by decide) (by decide) (by omega) (by omega) (by first | (simp [zc]; done) | (simp only [zc]; omega)) ?_
  refine gz_s 1 (pc' := 43) (L' := [some (.ref x), some (.int (zi q)), none]) (S' := [.ref x]) rfl ?_
  refine gs_gtk rfl (by decide) rfl hS.1 tx rfl rfl ewr ?_
  refine gz_s 2 (pc' := 65) (L' := [some (.ref x), some (.int (zi q)), none]) (S' := [.ref x]) rfl ?_
  refine gs_gtk rfl (by decide) rfl hS.1 tx rfl rfl ewr ?_
  refine gz_s 1 (pc' := 69) (L' := [some (.ref x), some (.int (zi q)), none]) (S' := [.ref x, .ref wr]) rfl ?_
  refine gs_gtr rfl (by decide) rfl hS.1 tx rfl rfl rfl (fun c1 ec1 tc1 => ?_)
  refine gz_s 1 (pc' := 73) (L' := [some (.ref x), some (.int (zi q)), none]) (S' := [.int (zi q), .ref c1, .ref wr]) rfl ?_
  refine gz_call rfl (by decide) rfl (by decide) (by decide) (gcal_of rfl rfl rfl (Nat.le_of_ble_eq_true rfl) (gJ.recv (G := gGG) hS.1 twr rfl rfl)) (cl_Writer_makeTable _ hS.1 wr twr c1 tc1 q (by omega) uq) (fun q2 _ wq2 => ?_)
  obtain ⟨pq2, oq2, hq2⟩ := q2
  obtain ⟨xq2, gq2⟩ := wq2
  refine ⟨_, gq2, ?_⟩
  show gz gPP gGG gcn _ _ 76 [some (.ref x), some (.int (zi q)), none] [] hq2 _
  have sq2 : gSs rT 1027 ty [55008, 56000, 56001, 56002, 56003, 64999, 71005, 71006, 71007, 71008, 71009, 71010, 71011, 71012, 71013, 71014, 72999, 73999, 74999, 76999, 77999, 78999, 79999, 80999, 81999, 85999, 91004, 91008, 92004, 92008, 93999, 94999, 95999, 96999, 97999, 98999, 99999, 114999] h hq2 := gSs.tr hS xq2 (by decide)
  have s3 := (xq2.2.2.2.2.2 x 3 (by rw [tx]; decide)).trans edr
  have s4 := (xq2.2.2.2.2.2 x 4 (by rw [tx]; decide)).trans esk
  have s5 := (xq2.2.2.2.2.2 sk 0 (by rw [tsk]; decide)).trans eby
  have s6 := (xq2.2.2.2.2.2 x 6 (by rw [tx]; decide)).trans ewr
  have s7 := (xq2.2.2.2.2.2 dr 8 (by rw [tdr]; decide)).trans en0
  have s8 := (xq2.2.2.2.2.2 dr 1 (by rw [tdr]; decide)).trans ew0
  have s9 := (xq2.2.2.2.2.2 x 1 (by rw [tx]; decide)).trans ec1
  have pr10 := gTc.fr xq2.2 (by decide) hytc
  refine gz_s 1 (pc' := 77) (L' := [some (.ref x), some (.int (zi q)), none]) (S' := [.ref x]) rfl ?_
  refine gs_gtk rfl (by decide) rfl sq2.1 tx rfl rfl s6 ?_
  refine gz_s 1 (pc' := 81) (L' := [some (.ref x), some (.int (zi q)), none]) (S' := [.ref x, .ref wr]) rfl ?_
  refine gs_gtk rfl (by decide) rfl sq2.1 tx rfl rfl s3 ?_
  refine gz_call rfl (by decide) rfl (by decide) (by decide) (gcal_of rfl rfl rfl (Nat.le_of_ble_eq_true rfl) (gJ.recv (G := gGG) sq2.1 twr rfl rfl)) (cl_Writer_transformCanvas _ sq2.1 wr twr dr tdr (gSta.fr sq2.2 (by decide) hyst) uq) (fun q11 _ wq11 => ?_)
  obtain ⟨pq11, oq11, hq11⟩ := q11
  obtain ⟨xq11, gq11⟩ := wq11
  refine ⟨_, gq11, ?_⟩
  show gz gPP gGG gcn _ _ 87 [some (.ref x), some (.int (zi q)), none] [] hq11 _
  have sq11 : gSs rT 1027 ty [55008, 56000, 56001, 56002, 56003, 64999, 71005, 71006, 71007, 71008, 71009, 71010, 71011, 71012, 71013, 71014, 72999, 73999, 74999, 76999, 77999, 78999, 79999, 80999, 81999, 85999, 91004, 91008, 92004, 92008, 93999, 94999, 95999, 96999, 97999, 98999, 99999, 114999] h hq11 := gSs.tr sq2 xq11 (by decide)
  have s12 := (xq11.2.2.2.2.2 x 3 (by rw [tx]; decide)).trans s3
  have s13 := (xq11.2.2.2.2.2 x 4 (by rw [tx]; decide)).trans s4
  have s14 := (xq11.2.2.2.2.2 sk 0 (by rw [tsk]; decide)).trans s5
  have s15 := (xq11.2.2.2.2.2 x 6 (by rw [tx]; decide)).trans s6
  have s16 := (xq11.2.2.2.2.2 dr 8 (by rw [tdr]; decide)).trans s7
  have s17 := (xq11.2.2.2.2.2 dr 1 (by rw [tdr]; decide)).trans s8
  have s18 := (xq11.2.2.2.2.2 x 1 (by rw [tx]; decide)).trans s9
  have pr19 := gTc.fr xq11.2 (by decide) pr10
  refine gz_s 1 (pc' := 88) (L' := [some (.ref x), some (.int (zi q)), none]) (S' := [.ref x]) rfl ?_
  refine gs_gtk rfl (by decide) rfl sq11.1 tx rfl rfl s15 ?_
  refine gz_s 1 (pc' := 92) (L' := [some (.ref x), some (.int (zi q)), none]) (S' := [.ref x, .ref wr]) rfl ?_
  refine gs_gtk rfl (by decide) rfl sq11.1 tx rfl rfl s12 ?_
  have k20 := sq11.2.1
  have k20b := sq11.2.2.1
  have hl21 : hq11.2.2.2.1 by = h.2.2.2.1 by := congrFun sq11.2.2.2.2.1 by
  obtain ⟨c22, ec22, tc22⟩ := gJ.ref (k := 0) (G := gGG) sq11.1 twr rfl rfl rfl
  have ee23 : sk = c22 := uq sk c22 (tsk.trans tc22.symm) (by rw [tsk]; decide) (by rw [tsk]; decide)
  subst ee23
  refine gz_call rfl (by decide) rfl (by decide) (by decide) (gcal_of rfl rfl rfl (Nat.le_of_ble_eq_true rfl) (gJ.recv (G := gGG) sq11.1 twr rfl rfl)) (cl_Writer_putHead _ sq11.1 wr twr dr tdr sk ec22 tsk by s14 tby uq) (fun q24 _ wq24 => ?_)
  obtain ⟨pq24, oq24, hq24⟩ := q24
  obtain ⟨tyq24, xq24, cq24_0, ttq24, fq24_0, fq24_1, ecq24_0, tcq24_0, gq24, efq24_0, afq24_0, bfq24_0, efq24_1, afq24_1, bfq24_1, uq24_0, uq24_1, uq24_2, uq24_3, uq24_4, uq24_5⟩ := wq24
  dsimp only at uq24_2 uq24_3 uq24_4 uq24_5
  refine ⟨_, gq24, ?_⟩
  show gz gPP gGG gcn _ _ 98 [some (.ref x), some (.int (zi q)), none] [] hq24 _
  have G25 : gSg [114] [] [55008, 56000, 56001, 56002, 56003, 64999, 71005, 71006, 71007, 71008, 71009, 71010, 71011, 71012, 71013, 71014, 72999, 73999, 74999, 76999, 77999, 78999, 79999, 80999, 81999, 85999, 91004, 91008, 92004, 92008, 93999, 94999, 95999, 96999, 97999, 98999, 99999, 114999] ty h tyq24 hq24 := gSg.tr (gSg.ss G0 sq11 (by decide)) xq24 (by decide) (by decide) (fun x hx => by cases hx)
  have t26 : tyq24 x = 50 := gSg.typ xq24 sq11.1 tx rfl
  have t27 : tyq24 dr = 55 := gSg.typ xq24 sq11.1 tdr rfl
  have t28 : tyq24 sk = 56 := gSg.typ xq24 sq11.1 tsk rfl
  have t29 : tyq24 by = 114 := gSg.typ xq24 sq11.1 tby rfl
  have hl30 : hq24.2.2.2.1 by = hq11.2.2.2.1 by := gSg.len xq24 sq11.1 tby rfl
  have t31 : tyq24 wr = 71 := gSg.typ xq24 sq11.1 twr rfl
  have t32 : tyq24 c1 = 53 := gSg.typ xq24 sq11.1 tc1 rfl
  have s33 := gSg.at xq24 sq11.1 tx rfl (by decide) s12
  have s34 := gSg.at xq24 sq11.1 tx rfl (by decide) s13
  have s35 := gSg.at xq24 sq11.1 tx rfl (by decide) s15
  have s36 := gSg.at xq24 sq11.1 tdr rfl (by decide) s16
  have s37 := gSg.at xq24 sq11.1 tdr rfl (by decide) s17
  have s38 := gSg.at xq24 sq11.1 tx rfl (by decide) s18
  have s39 := gSg.at xq24 sq11.1 twr rfl (by decide) ec22
  have pr40 := gTc.gr xq24 sq11.1 (by decide) (by decide) pr19
  have uq41 := gSg.uq xq24 uq (by decide)
  have hyst42 := gSta.gr xq24 (by decide) (fun x hx => by cases hx) (gSta.fr sq11.2 (by decide) hyst)
  have sS43 : gSs rT 1027 tyq24 [55008, 56000, 56001, 56002, 56003, 64999, 71005, 71006, 71007, 71008, 71009, 71010, 71011, 71012, 71013, 71014, 72999, 73999, 74999, 76999, 77999, 78999, 79999, 80999, 81999, 85999, 91004, 91008, 92004, 92008, 93999, 94999, 95999, 96999, 97999, 98999, 99999, 114999] hq24 hq24 := gSs.rf xq24.1
  refine gz_s 1 (pc' := 99) (L' := [some (.ref x), some (.int (zi q)), none]) (S' := [.ref x]) rfl ?_
  refine gs_gtk rfl (by decide) rfl sS43.1 t26 rfl rfl s33 ?_
  refine gs_gtk rfl (by decide) rfl sS43.1 t27 rfl rfl s36 ?_
  by_cases hc44 : ¬ (n0 : Int) = 0
  · refine gy_ifT (pc' := 120) rfl (by decide) (by decide) (by omega) hc44 ?_
    obtain ⟨tf, tt, cf, rf, rt, rc, tle, tsm⟩ := pr40
    have hg0 := gsf_nn (f := fun j => gcr (cf j)) (fun j => by unfold gcr; split <;> omega) 64
    have hgl0 : gTl tf tt 0 = 0 := rfl
    refine gz_s 2 (pc' := 122) (L' := [some (.ref x), some (.int (zi q)), some (.int (zi 0))]) (S' := []) rfl ?_
    have lp45 : ∀ (fu : Nat) (ty47 : Nat → Nat) (h46 : gH) (bv : Nat) (i : Int) (cv : Int) (hv : Int), (11 - i).toNat < fu → gSg [114] [] [55008, 56000, 56001, 56002, 56003, 64999, 71005, 71006, 71007, 71008, 71009, 71010, 71011, 71012, 71013, 71014, 72999, 73999, 74999, 76999, 77999, 78999, 79999, 80999, 81999, 85999, 91004, 91008, 92004, 92008, 93999, 94999, 95999, 96999, 97999, 98999, 99999, 114999] ty h ty47 h46 → gUq ty47 → gSta ty47 h46 → ty47 x = 50 → ty47 dr = 55 → ty47 sk = 56 → ty47 wr = 71 → ty47 c1 = 53 → h46.2.2.2.2 sk 0 = .ref bv → ty47 bv = 114 → (0 ≤ i ∧ i ≤ 10) → (0 ≤ cv ∧ cv ≤ 499999) → (0 ≤ hv ∧ hv ≤ 7) → ((n0 = 0 ∧ 4 * cv + hv ≤ 336000) ∨ 4 * cv + hv ≤ 400 + 7876 * i + 5120 * gTl tf tt i) → (i ≤ n0) → (cv ≤ (h46.2.2.2.1 bv : Int)) → (1024 * ((h46.1 : Int) - h.1) ≤ (h46.2.2.2.1 bv : Int) - h.2.2.2.1 by) → (((h46.2.1 : Int) - h.2.1) ≤ 2 * ((h46.2.2.2.1 bv : Int) - h.2.2.2.1 by)) → ((h.2.2.2.1 by : Int) ≤ (h46.2.2.2.1 bv : Int)) → h46.2.2.2.2 x 3 = .ref dr → h46.2.2.2.2 x 4 = .ref sk → h46.2.2.2.2 x 6 = .ref wr → h46.2.2.2.2 dr 8 = .int (zi n0) → h46.2.2.2.2 dr 1 = .int (zi w0) → h46.2.2.2.2 x 1 = .ref c1 → h46.2.2.2.2 wr 0 = .ref sk → h46.2.2.2.2 sk 1 = .int (zi cv) → h46.2.2.2.2 sk 3 = .int (zi hv) → gRow ty47 60 tf h46 → gRow ty47 61 tt h46 → gz gPP gGG gcn (d + 8) gt89 122 [some (.ref x), some (.int (zi q)), some (.int (zi i))] [] h46 (fun q _ => ∃ ty9 : Nat → Nat, gSg [114] [] [55008, 56000, 56001, 56002, 56003, 64999, 71005, 71006, 71007, 71008, 71009, 71010, 71011, 71012, 71013, 71014, 72999, 73999, 74999, 76999, 77999, 78999, 79999, 80999, 81999, 85999, 91004, 91008, 92004, 92008, 93999, 94999, 95999, 96999, 97999, 98999, 99999, 114999] ty h ty9 q.2.2 ∧ ∃ wr2 by2 : Nat, True ∧ ∃ z n1 c1 : Int, q.2.2.2.2.2.2 x 6 = .ref wr2 ∧ ty9 wr2 = 71 ∧ q.2.2.2.2.2.2 sk 0 = .ref by2 ∧ ty9 by2 = 114 ∧ gfin gt89 q.1 q.2.1 = some (some (.int (zi z))) ∧ (-2147483648) ≤ z ∧ z ≤ 2147483647 ∧ q.2.2.2.2.2.2 dr 8 = .int (zi n1) ∧ 0 ≤ n1 ∧ n1 ≤ 10 ∧ q.2.2.2.2.2.2 sk 1 = .int (zi c1) ∧ 0 ≤ c1 ∧ c1 ≤ 500000 ∧ (n1 = 0) ∧ (c1 ≤ (q.2.2.2.2.2.1 by2 : Int)) ∧ (1024 * ((q.2.2.1 : Int) - h.1) ≤ (q.2.2.2.2.2.1 by2 : Int) - h.2.2.2.1 by) ∧ (((q.2.2.2.1 : Int) - h.2.1) ≤ 2 * ((q.2.2.2.2.2.1 by2 : Int) - h.2.2.2.1 by)) ∧ ((h.2.2.2.1 by : Int) ≤ (q.2.2.2.2.2.1 by2 : Int)) ∧ (gTc ty9 n1 q.2.2)) := by
      intro fu
      induction fu with
      | zero => intro ty47 h46 bv i cv hv hm; exact absurd hm (Nat.not_lt_zero _)
      | succ fu ihlp45 =>
        intro ty47 h46 bv i cv hv lp45m lp45G lp45u lp45t lp45c0 lp45c1 lp45c2 lp45c3 lp45c4 lp45r0 lp45r1 lp45f0 lp45f1 lp45f2 lp45f3 lp45f4 lp45f5 lp45f6 lp45f7 lp45f8 lp45k0 lp45k1 lp45k2 lp45k3 lp45k4 lp45k5 lp45k6 lp45k7 lp45k8 lp45k9 lp45k10
        have sh46 : gSs rT 1027 ty47 [55008, 56000, 56001, 56002, 56003, 64999, 71005, 71006, 71007, 71008, 71009, 71010, 71011, 71012, 71013, 71014, 72999, 73999, 74999, 76999, 77999, 78999, 79999, 80999, 81999, 85999, 91004, 91008, 92004, 92008, 93999, 94999, 95999, 96999, 97999, 98999, 99999, 114999] h46 h46 := gSs.rf lp45G.1
        refine gz_s 2 (pc' := 124) (L' := [some (.ref x), some (.int (zi q)), some (.int (zi i))]) (S' := [.ref x, .int (zi i)]) rfl ?_
        refine gs_gtk rfl (by decide) rfl sh46.1 lp45c0 rfl rfl lp45k0 ?_
        refine gs_gtk rfl (by decide) rfl sh46.1 lp45c1 rfl rfl lp45k3 ?_
        by_cases hc48 : (n0 : Int) ≤ i
        · refine gy_icT (pc' := 182) rfl (by decide) (by decide) (by omega) (by omega) hc48 ?_
          refine gz_s 1 (pc' := 183) (L' := [some (.ref x), some (.int (zi q)), some (.int (zi i))]) (S' := [.ref x]) rfl ?_
          refine gs_gtk rfl (by decide) rfl sh46.1 lp45c0 rfl rfl lp45k2 ?_
          have hl49 : h46.2.2.2.1 bv = h46.2.2.2.1 bv := congrFun sh46.2.2.2.2.1 bv
          refine gz_call rfl (by decide) rfl (by decide) (by decide) (gcal_of rfl rfl rfl (Nat.le_of_ble_eq_true rfl) (gJ.recv (G := gGG) sh46.1 lp45c3 rfl rfl)) (cl_Writer_putEnd _ sh46.1 wr lp45c3 sk lp45k6 lp45c2 bv lp45r0 lp45r1 cv lp45k7 (by omega) (by omega) lp45u) (fun q50 _ wq50 => ?_)
          obtain ⟨pq50, oq50, hq50⟩ := q50
          obtain ⟨tyq50, xq50, cq50_0, ttq50, fq50_0, ecq50_0, tcq50_0, gq50, efq50_0, afq50_0, bfq50_0, uq50_0, uq50_1, uq50_2, uq50_3, uq50_4⟩ := wq50
          dsimp only at uq50_1 uq50_2 uq50_3 uq50_4
          refine ⟨_, gq50, ?_⟩
          show gz gPP gGG gcn _ _ 189 [some (.ref x), some (.int (zi q)), some (.int (zi i))] [] hq50 _
          have G51 : gSg [114] [] [55008, 56000, 56001, 56002, 56003, 64999, 71005, 71006, 71007, 71008, 71009, 71010, 71011, 71012, 71013, 71014, 72999, 73999, 74999, 76999, 77999, 78999, 79999, 80999, 81999, 85999, 91004, 91008, 92004, 92008, 93999, 94999, 95999, 96999, 97999, 98999, 99999, 114999] ty h tyq50 hq50 := gSg.tr (gSg.ss lp45G sh46 (by decide)) xq50 (by decide) (by decide) (fun x hx => by cases hx)
          have t52 : tyq50 x = 50 := gSg.typ xq50 sh46.1 lp45c0 rfl
          have t53 : tyq50 dr = 55 := gSg.typ xq50 sh46.1 lp45c1 rfl
          have t54 : tyq50 sk = 56 := gSg.typ xq50 sh46.1 lp45c2 rfl
          have t55 : tyq50 wr = 71 := gSg.typ xq50 sh46.1 lp45c3 rfl
          have t56 : tyq50 c1 = 53 := gSg.typ xq50 sh46.1 lp45c4 rfl
          have t57 : tyq50 bv = 114 := gSg.typ xq50 sh46.1 lp45r1 rfl
          have hl58 : hq50.2.2.2.1 bv = h46.2.2.2.1 bv := gSg.len xq50 sh46.1 lp45r1 rfl
          have s59 := gSg.at xq50 sh46.1 lp45c0 rfl (by decide) lp45k0
          have s60 := gSg.at xq50 sh46.1 lp45c0 rfl (by decide) lp45k1
          have s61 := gSg.at xq50 sh46.1 lp45c0 rfl (by decide) lp45k2
          have s62 := gSg.at xq50 sh46.1 lp45c1 rfl (by decide) lp45k3
          have s63 := gSg.at xq50 sh46.1 lp45c1 rfl (by decide) lp45k4
          have s64 := gSg.at xq50 sh46.1 lp45c0 rfl (by decide) lp45k5
          have s65 := gSg.at xq50 sh46.1 lp45c3 rfl (by decide) lp45k6
          have s66 := gSg.at xq50 sh46.1 lp45c2 rfl (by decide) lp45k8
          have pr67 := gRow.gr xq50 sh46.1 rfl (by decide) (by decide) lp45k9
          have pr68 := gRow.gr xq50 sh46.1 rfl (by decide) (by decide) lp45k10
          have uq69 := gSg.uq xq50 lp45u (by decide)
          have hyst70 := gSta.gr xq50 (by decide) (fun x hx => by cases hx) (gSta.fr sh46.2 (by decide) lp45t)
          have sS71 : gSs rT 1027 tyq50 [55008, 56000, 56001, 56002, 56003, 64999, 71005, 71006, 71007, 71008, 71009, 71010, 71011, 71012, 71013, 71014, 72999, 73999, 74999, 76999, 77999, 78999, 79999, 80999, 81999, 85999, 91004, 91008, 92004, 92008, 93999, 94999, 95999, 96999, 97999, 98999, 99999, 114999] hq50 hq50 := gSs.rf xq50.1
          refine gz_s 1 (pc' := 190) (L' := [some (.ref x), some (.int (zi q)), some (.int (zi i))]) (S' := [.ref x]) rfl ?_
          refine gs_gtk rfl (by decide) rfl sS71.1 t52 rfl rfl s59 ?_
          refine gz_call rfl (by decide) rfl (by decide) (by decide) (gcal_of rfl rfl rfl (Nat.le_of_ble_eq_true rfl) (gJ.recv (G := gGG) sS71.1 t53 rfl rfl)) (cl_Draft_forgetScans _ sS71.1 dr t53 uq69) (fun q72 _ wq72 => ?_)
          obtain ⟨pq72, oq72, hq72⟩ := q72
          obtain ⟨xq72, fq72_0, gq72, efq72_0, afq72_0, bfq72_0, uq72_0, yq72_0⟩ := wq72
          refine ⟨_, gq72, ?_⟩
          show gz gPP gGG gcn _ _ 196 [some (.ref x), some (.int (zi q)), some (.int (zi i))] [] hq72 _
          have sq72 : gSs rT 1027 tyq50 [55008, 56000, 56001, 56002, 56003, 64999, 71005, 71006, 71007, 71008, 71009, 71010, 71011, 71012, 71013, 71014, 72999, 73999, 74999, 76999, 77999, 78999, 79999, 80999, 81999, 85999, 91004, 91008, 92004, 92008, 93999, 94999, 95999, 96999, 97999, 98999, 99999, 114999] hq50 hq72 := gSs.tr sS71 xq72 (by decide)
          have s73 := (xq72.2.2.2.2.2 x 3 (by rw [t52]; decide)).trans s59
          have s74 := (xq72.2.2.2.2.2 x 4 (by rw [t52]; decide)).trans s60
          have s75 := (xq72.2.2.2.2.2 x 6 (by rw [t52]; decide)).trans s61
          have s76 := (xq72.2.2.2.2.2 dr 1 (by rw [t53]; decide)).trans s63
          have s77 := (xq72.2.2.2.2.2 x 1 (by rw [t52]; decide)).trans s64
          have s78 := (xq72.2.2.2.2.2 wr 0 (by rw [t55]; decide)).trans s65
          have s79 := (xq72.2.2.2.2.2 sk 3 (by rw [t54]; decide)).trans s66
          have s80 := (xq72.2.2.2.2.2 sk 0 (by rw [t54]; decide)).trans ecq50_0
          have s81 := (xq72.2.2.2.2.2 sk 1 (by rw [t54]; decide)).trans efq50_0
          have pr82 := gRow.fr xq72.2 (by decide) pr67
          have pr83 := gRow.fr xq72.2 (by decide) pr68
          refine gz_s 1 (pc' := 197) (L' := [some (.ref x), some (.int (zi q)), some (.int (zi i))]) (S' := [.ref x]) rfl ?_
          refine gs_gtk rfl (by decide) rfl sq72.1 t52 rfl rfl s74 ?_
          refine gs_gtk rfl (by decide) rfl sq72.1 t54 rfl rfl s81 ?_
          have k84 := sq72.2.1
          have k84b := sq72.2.2.1
          have hl85 : hq72.2.2.2.1 bv = hq50.2.2.2.1 bv := congrFun sq72.2.2.2.2.1 bv
          have hl86 : hq72.2.2.2.1 cq50_0 = hq50.2.2.2.1 cq50_0 := congrFun sq72.2.2.2.2.1 cq50_0
          have htc87 : gTc tyq50 fq72_0 hq72 := by
            rw [(by omega : fq72_0 = 0)]
            exact yq72_0
          have G88 : gSg [114] [] [55008, 56000, 56001, 56002, 56003, 64999, 71005, 71006, 71007, 71008, 71009, 71010, 71011, 71012, 71013, 71014, 72999, 73999, 74999, 76999, 77999, 78999, 79999, 80999, 81999, 85999, 91004, 91008, 92004, 92008, 93999, 94999, 95999, 96999, 97999, 98999, 99999, 114999] ty h tyq50 hq72 := gSg.ss G51 sq72 (by decide)
          exact gz_end (I := .ireturn) (len := 1) rfl (Or.inl rfl) ⟨tyq50, G88, wr, cq50_0, trivial, fq50_0, fq72_0, fq50_0, s75, t55, s80, tcq50_0, rfl, (by omega), (by omega), efq72_0, (by omega), (by omega), s81, (by omega), (by omega), (by omega), (by dsimp only; omega), (by dsimp only; omega), (by dsimp only; omega), (by dsimp only; omega), htc87⟩
        · refine gy_icF rfl (by decide) (by decide) (by omega) (by omega) hc48 ?_
          refine gz_s 1 (pc' := 134) (L' := [some (.ref x), some (.int (zi q)), some (.int (zi i))]) (S' := [.ref x]) rfl ?_
          refine gs_gtk rfl (by decide) rfl sh46.1 lp45c0 rfl rfl lp45k2 ?_
          refine gz_s 1 (pc' := 138) (L' := [some (.ref x), some (.int (zi q)), some (.int (zi i))]) (S' := [.ref x, .ref wr]) rfl ?_
          refine gs_gtk rfl (by decide) rfl sh46.1 lp45c0 rfl rfl lp45k0 ?_
          refine gs_gtr rfl (by decide) rfl sh46.1 lp45c1 rfl rfl rfl (fun c89 ec89 tc89 => ?_)
          refine gz_s 1 (pc' := 145) (L' := [some (.ref x), some (.int (zi q)), some (.int (zi i))]) (S' := [.int (zi i), .ref c89, .ref wr]) rfl ?_
          have hl90 : 10 ≤ h46.2.2.2.1 c89 ∧ h46.2.2.2.1 c89 ≤ 10 := gJ.rowl (G := gGG) sh46.1 tc89 rfl
          refine gs_ald rfl (by decide) sh46.1 tc89 rfl rfl rfl (by decide) (fun _ => rfl) (by omega) (by omega) (fun z91 ez91 az91 bz91 => ?_)
          have hf92 := gRow.at (i := i) (z := z91) lp45k9 tc89 ez91 (by omega) (by omega) (by omega)
          refine gz_s 1 (pc' := 147) (L' := [some (.ref x), some (.int (zi q)), some (.int (zi i))]) (S' := [.ref x, .int (zi z91), .ref wr]) rfl ?_
          refine gs_gtk rfl (by decide) rfl sh46.1 lp45c0 rfl rfl lp45k0 ?_
          refine gs_gtr rfl (by decide) rfl sh46.1 lp45c1 rfl rfl rfl (fun c93 ec93 tc93 => ?_)
          refine gz_s 1 (pc' := 154) (L' := [some (.ref x), some (.int (zi q)), some (.int (zi i))]) (S' := [.int (zi i), .ref c93, .int (zi z91), .ref wr]) rfl ?_
          have hl94 : 10 ≤ h46.2.2.2.1 c93 ∧ h46.2.2.2.1 c93 ≤ 10 := gJ.rowl (G := gGG) sh46.1 tc93 rfl
          refine gs_ald rfl (by decide) sh46.1 tc93 rfl rfl rfl (by decide) (fun _ => rfl) (by omega) (by omega) (fun z95 ez95 az95 bz95 => ?_)
          have hf96 := gRow.at (i := i) (z := z95) lp45k10 tc93 ez95 (by omega) (by omega) (by omega)
          refine gz_s 1 (pc' := 156) (L' := [some (.ref x), some (.int (zi q)), some (.int (zi i))]) (S' := [.ref x, .int (zi z95), .int (zi z91), .ref wr]) rfl ?_
          refine gs_gtk rfl (by decide) rfl sh46.1 lp45c0 rfl rfl lp45k0 ?_
          refine gs_gtr rfl (by decide) rfl sh46.1 lp45c1 rfl rfl rfl (fun c97 ec97 tc97 => ?_)
          refine gz_s 1 (pc' := 163) (L' := [some (.ref x), some (.int (zi q)), some (.int (zi i))]) (S' := [.int (zi i), .ref c97, .int (zi z95), .int (zi z91), .ref wr]) rfl ?_
          have hl98 : 10 ≤ h46.2.2.2.1 c97 ∧ h46.2.2.2.1 c97 ≤ 10 := gJ.rowl (G := gGG) sh46.1 tc97 rfl
          refine gs_ald rfl (by decide) sh46.1 tc97 rfl rfl rfl (by decide) (fun _ => rfl) (by omega) (by omega) (fun z99 ez99 az99 bz99 => ?_)
          refine gz_s 1 (pc' := 165) (L' := [some (.ref x), some (.int (zi q)), some (.int (zi i))]) (S' := [.ref x, .int (zi z99), .int (zi z95), .int (zi z91), .ref wr]) rfl ?_
          refine gs_gtk rfl (by decide) rfl sh46.1 lp45c0 rfl rfl lp45k0 ?_
          refine gs_gtr rfl (by decide) rfl sh46.1 lp45c1 rfl rfl rfl (fun c100 ec100 tc100 => ?_)
          refine gz_s 1 (pc' := 172) (L' := [some (.ref x), some (.int (zi q)), some (.int (zi i))]) (S' := [.int (zi i), .ref c100, .int (zi z99), .int (zi z95), .int (zi z91), .ref wr]) rfl ?_
          have hl101 : 10 ≤ h46.2.2.2.1 c100 ∧ h46.2.2.2.1 c100 ≤ 10 := gJ.rowl (G := gGG) sh46.1 tc100 rfl
          refine gs_ald rfl (by decide) sh46.1 tc100 rfl rfl rfl (by decide) (fun _ => rfl) (by omega) (by omega) (fun z102 ez102 az102 bz102 => ?_)
          have htl := tle (i).toNat (by omega)
          have hst := gTl_st (f := tf) (t := tt) (k := i) (a := z91) (b := z95) (by omega) hf92 hf96
          have hle := gTl_le (f := tf) (t := tt) (k := i + 1) (n := n0) tle (by omega)
          have hl103 : h46.2.2.2.1 bv = h46.2.2.2.1 bv := congrFun sh46.2.2.2.2.1 bv
          refine gz_call rfl (by decide) rfl (by decide) (by decide) (gcal_of rfl rfl rfl (Nat.le_of_ble_eq_true rfl) (gJ.recv (G := gGG) sh46.1 lp45c3 rfl rfl)) (cl_Writer_putScan _ sh46.1 wr lp45c3 z91 (by omega) z95 (by omega) z99 (by omega) z102 (by omega) sk lp45k6 lp45c2 bv lp45r0 lp45r1 cv lp45k7 (by omega) hv lp45k8 (by omega) (by omega) (by omega) (by omega) lp45u) (fun q104 _ wq104 => ?_)
          obtain ⟨pq104, oq104, hq104⟩ := q104
          obtain ⟨tyq104, xq104, cq104_0, ttq104, fq104_0, fq104_1, ecq104_0, tcq104_0, gq104, efq104_0, afq104_0, bfq104_0, efq104_1, afq104_1, bfq104_1, uq104_0, uq104_1, uq104_2, uq104_3, uq104_4, uq104_5⟩ := wq104
          dsimp only at uq104_2 uq104_3 uq104_4 uq104_5
          refine ⟨_, gq104, ?_⟩
          show gz gPP gGG gcn _ _ 176 [some (.ref x), some (.int (zi q)), some (.int (zi i))] [] hq104 _
          have G105 : gSg [114] [] [55008, 56000, 56001, 56002, 56003, 64999, 71005, 71006, 71007, 71008, 71009, 71010, 71011, 71012, 71013, 71014, 72999, 73999, 74999, 76999, 77999, 78999, 79999, 80999, 81999, 85999, 91004, 91008, 92004, 92008, 93999, 94999, 95999, 96999, 97999, 98999, 99999, 114999] ty h tyq104 hq104 := gSg.tr (gSg.ss lp45G sh46 (by decide)) xq104 (by decide) (by decide) (fun x hx => by cases hx)
          have t106 : tyq104 x = 50 := gSg.typ xq104 sh46.1 lp45c0 rfl
          have t107 : tyq104 dr = 55 := gSg.typ xq104 sh46.1 lp45c1 rfl
          have t108 : tyq104 sk = 56 := gSg.typ xq104 sh46.1 lp45c2 rfl
          have t109 : tyq104 wr = 71 := gSg.typ xq104 sh46.1 lp45c3 rfl
          have t110 : tyq104 c1 = 53 := gSg.typ xq104 sh46.1 lp45c4 rfl
          have t111 : tyq104 bv = 114 := gSg.typ xq104 sh46.1 lp45r1 rfl
          have hl112 : hq104.2.2.2.1 bv = h46.2.2.2.1 bv := gSg.len xq104 sh46.1 lp45r1 rfl
          have t113 : tyq104 c89 = 60 := gSg.typ xq104 sh46.1 tc89 rfl
          have t114 : tyq104 c93 = 61 := gSg.typ xq104 sh46.1 tc93 rfl
          have t115 : tyq104 c97 = 62 := gSg.typ xq104 sh46.1 tc97 rfl
          have t116 : tyq104 c100 = 63 := gSg.typ xq104 sh46.1 tc100 rfl
          have s117 := gSg.at xq104 sh46.1 lp45c0 rfl (by decide) lp45k0
          have s118 := gSg.at xq104 sh46.1 lp45c0 rfl (by decide) lp45k1
          have s119 := gSg.at xq104 sh46.1 lp45c0 rfl (by decide) lp45k2
          have s120 := gSg.at xq104 sh46.1 lp45c1 rfl (by decide) lp45k3
          have s121 := gSg.at xq104 sh46.1 lp45c1 rfl (by decide) lp45k4
          have s122 := gSg.at xq104 sh46.1 lp45c0 rfl (by decide) lp45k5
          have s123 := gSg.at xq104 sh46.1 lp45c3 rfl (by decide) lp45k6
          have s124 := gSg.at xq104 sh46.1 lp45c1 rfl (by decide) ec89
          have s125 := gSg.at xq104 sh46.1 lp45c1 rfl (by decide) ec93
          have s126 := gSg.at xq104 sh46.1 lp45c1 rfl (by decide) ec97
          have s127 := gSg.at xq104 sh46.1 lp45c1 rfl (by decide) ec100
          have pr128 := gRow.gr xq104 sh46.1 rfl (by decide) (by decide) lp45k9
          have pr129 := gRow.gr xq104 sh46.1 rfl (by decide) (by decide) lp45k10
          have uq130 := gSg.uq xq104 lp45u (by decide)
          have hyst131 := gSta.gr xq104 (by decide) (fun x hx => by cases hx) (gSta.fr sh46.2 (by decide) lp45t)
          have sS132 : gSs rT 1027 tyq104 [55008, 56000, 56001, 56002, 56003, 64999, 71005, 71006, 71007, 71008, 71009, 71010, 71011, 71012, 71013, 71014, 72999, 73999, 74999, 76999, 77999, 78999, 79999, 80999, 81999, 85999, 91004, 91008, 92004, 92008, 93999, 94999, 95999, 96999, 97999, 98999, 99999, 114999] hq104 hq104 := gSs.rf xq104.1
          refine gy_s 2 (pc' := 122) (L' := [some (.ref x), some (.int (zi q)), some (.int ((zi i) + zi 1))]) (S' := []) (L2 := [some (.ref x), some (.int (zi q)), some (.int (zi (i + 1)))]) (S2 := []) rfl (by simp only [zi_add, zi_sub, zi_mul, zi_neg, zi_and1, zi_and7, zi_and15, zi_and31, zi_and255]) (by simp only [zi_add, zi_sub, zi_mul, zi_neg, zi_and1, zi_and7, zi_and15, zi_and31, zi_and255]) ?_
          have G133 : gSg [114] [] [55008, 56000, 56001, 56002, 56003, 64999, 71005, 71006, 71007, 71008, 71009, 71010, 71011, 71012, 71013, 71014, 72999, 73999, 74999, 76999, 77999, 78999, 79999, 80999, 81999, 85999, 91004, 91008, 92004, 92008, 93999, 94999, 95999, 96999, 97999, 98999, 99999, 114999] ty h tyq104 hq104 := gSg.ss G105 sS132 (by decide)
          exact gz_wk (ihlp45 tyq104 hq104 cq104_0 (i + 1) fq104_0 fq104_1 (by omega) G133 uq130 (gSta.fr sS132.2 (by decide) hyst131) t106 t107 t108 t109 t110 ecq104_0 tcq104_0 (by omega) (by omega) (by omega) (by omega) (by omega) (by omega) (by omega) (by omega) (by omega) s117 s118 s119 s120 s121 s122 s123 efq104_0 efq104_1 pr128 pr129) (gLw.s (gLw.s (gLw.s gLw.z)))
    have G134 : gSg [114] [] [55008, 56000, 56001, 56002, 56003, 64999, 71005, 71006, 71007, 71008, 71009, 71010, 71011, 71012, 71013, 71014, 72999, 73999, 74999, 76999, 77999, 78999, 79999, 80999, 81999, 85999, 91004, 91008, 92004, 92008, 93999, 94999, 95999, 96999, 97999, 98999, 99999, 114999] ty h tyq24 hq24 := gSg.ss G25 sS43 (by decide)
    exact gz_wk (lp45 _ tyq24 hq24 cq24_0 0 fq24_0 fq24_1 (Nat.lt_succ_self _) G134 uq41 (gSta.fr sS43.2 (by decide) hyst42) t26 t27 t28 t31 t32 ecq24_0 tcq24_0 (by omega) (by omega) (by omega) (by omega) (by omega) (by omega) (by omega) (by omega) (by omega) s33 s34 s35 s36 s37 s38 s39 efq24_0 efq24_1 rf rt) (gLw.s (gLw.s (gLw.s gLw.z)))
  · refine gy_ifF rfl (by decide) (by decide) (by omega) hc44 ?_
    refine gz_s 1 (pc' := 109) (L' := [some (.ref x), some (.int (zi q)), none]) (S' := [.ref x]) rfl ?_
    refine gs_gtk rfl (by decide) rfl sS43.1 t26 rfl rfl s35 ?_
    refine gz_s 4 (pc' := 117) (L' := [some (.ref x), some (.int (zi q)), none]) (S' := [.int (zi 0), .int (zi 0), .int (zi 63), .int (zi 0), .ref wr]) rfl ?_
    have hl135 : hq24.2.2.2.1 cq24_0 = hq24.2.2.2.1 cq24_0 := congrFun sS43.2.2.2.2.1 cq24_0
    refine gz_call rfl (by decide) rfl (by decide) (by decide) (gcal_of rfl rfl rfl (Nat.le_of_ble_eq_true rfl) (gJ.recv (G := gGG) sS43.1 t31 rfl rfl)) (cl_Writer_putScan _ sS43.1 wr t31 0 (by omega) 63 (by omega) 0 (by omega) 0 (by omega) sk s39 t28 cq24_0 ecq24_0 tcq24_0 fq24_0 efq24_0 (by omega) fq24_1 efq24_1 (by omega) (by omega) (by omega) (by omega) uq41) (fun q136 _ wq136 => ?_)
    obtain ⟨pq136, oq136, hq136⟩ := q136
    obtain ⟨tyq136, xq136, cq136_0, ttq136, fq136_0, fq136_1, ecq136_0, tcq136_0, gq136, efq136_0, afq136_0, bfq136_0, efq136_1, afq136_1, bfq136_1, uq136_0, uq136_1, uq136_2, uq136_3, uq136_4, uq136_5⟩ := wq136
    dsimp only at uq136_2 uq136_3 uq136_4 uq136_5
    refine ⟨_, gq136, ?_⟩
    show gz gPP gGG gcn _ _ 120 [some (.ref x), some (.int (zi q)), none] [] hq136 _
    have G137 : gSg [114] [] [55008, 56000, 56001, 56002, 56003, 64999, 71005, 71006, 71007, 71008, 71009, 71010, 71011, 71012, 71013, 71014, 72999, 73999, 74999, 76999, 77999, 78999, 79999, 80999, 81999, 85999, 91004, 91008, 92004, 92008, 93999, 94999, 95999, 96999, 97999, 98999, 99999, 114999] ty h tyq136 hq136 := gSg.tr (gSg.ss G25 sS43 (by decide)) xq136 (by decide) (by decide) (fun x hx => by cases hx)
    have t138 : tyq136 x = 50 := gSg.typ xq136 sS43.1 t26 rfl
    have t139 : tyq136 dr = 55 := gSg.typ xq136 sS43.1 t27 rfl
    have t140 : tyq136 sk = 56 := gSg.typ xq136 sS43.1 t28 rfl
    have t141 : tyq136 by = 114 := gSg.typ xq136 sS43.1 t29 rfl
    have hl142 : hq136.2.2.2.1 by = hq24.2.2.2.1 by := gSg.len xq136 sS43.1 t29 rfl
    have t143 : tyq136 wr = 71 := gSg.typ xq136 sS43.1 t31 rfl
    have t144 : tyq136 c1 = 53 := gSg.typ xq136 sS43.1 t32 rfl
    have t145 : tyq136 cq24_0 = 114 := gSg.typ xq136 sS43.1 tcq24_0 rfl
    have hl146 : hq136.2.2.2.1 cq24_0 = hq24.2.2.2.1 cq24_0 := gSg.len xq136 sS43.1 tcq24_0 rfl
    have s147 := gSg.at xq136 sS43.1 t26 rfl (by decide) s33
    have s148 := gSg.at xq136 sS43.1 t26 rfl (by decide) s34
    have s149 := gSg.at xq136 sS43.1 t26 rfl (by decide) s35
    have s150 := gSg.at xq136 sS43.1 t27 rfl (by decide) s36
    have s151 := gSg.at xq136 sS43.1 t27 rfl (by decide) s37
    have s152 := gSg.at xq136 sS43.1 t26 rfl (by decide) s38
    have s153 := gSg.at xq136 sS43.1 t31 rfl (by decide) s39
    have pr154 := gTc.gr xq136 sS43.1 (by decide) (by decide) pr40
    have uq155 := gSg.uq xq136 uq41 (by decide)
    have hyst156 := gSta.gr xq136 (by decide) (fun x hx => by cases hx) (gSta.fr sS43.2 (by decide) hyst42)
    have sS157 : gSs rT 1027 tyq136 [55008, 56000, 56001, 56002, 56003, 64999, 71005, 71006, 71007, 71008, 71009, 71010, 71011, 71012, 71013, 71014, 72999, 73999, 74999, 76999, 77999, 78999, 79999, 80999, 81999, 85999, 91004, 91008, 92004, 92008, 93999, 94999, 95999, 96999, 97999, 98999, 99999, 114999] hq136 hq136 := gSs.rf xq136.1
    obtain ⟨tf, tt, cf, rf, rt, rc, tle, tsm⟩ := pr154
    have hg0 := gsf_nn (f := fun j => gcr (cf j)) (fun j => by unfold gcr; split <;> omega) 64
    have hgl0 : gTl tf tt 0 = 0 := rfl
    refine gz_s 2 (pc' := 122) (L' := [some (.ref x), some (.int (zi q)), some (.int (zi 0))]) (S' := []) rfl ?_
    have lp158 : ∀ (fu : Nat) (ty160 : Nat → Nat) (h159 : gH) (bv : Nat) (i : Int) (cv : Int) (hv : Int), (11 - i).toNat < fu → gSg [114] [] [55008, 56000, 56001, 56002, 56003, 64999, 71005, 71006, 71007, 71008, 71009, 71010, 71011, 71012, 71013, 71014, 72999, 73999, 74999, 76999, 77999, 78999, 79999, 80999, 81999, 85999, 91004, 91008, 92004, 92008, 93999, 94999, 95999, 96999, 97999, 98999, 99999, 114999] ty h ty160 h159 → gUq ty160 → gSta ty160 h159 → ty160 x = 50 → ty160 dr = 55 → ty160 sk = 56 → ty160 wr = 71 → ty160 c1 = 53 → h159.2.2.2.2 sk 0 = .ref bv → ty160 bv = 114 → (0 ≤ i ∧ i ≤ 10) → (0 ≤ cv ∧ cv ≤ 499999) → (0 ≤ hv ∧ hv ≤ 7) → ((n0 = 0 ∧ 4 * cv + hv ≤ 336000) ∨ 4 * cv + hv ≤ 400 + 7876 * i + 5120 * gTl tf tt i) → (i ≤ n0) → (cv ≤ (h159.2.2.2.1 bv : Int)) → (1024 * ((h159.1 : Int) - h.1) ≤ (h159.2.2.2.1 bv : Int) - h.2.2.2.1 by) → (((h159.2.1 : Int) - h.2.1) ≤ 2 * ((h159.2.2.2.1 bv : Int) - h.2.2.2.1 by)) → ((h.2.2.2.1 by : Int) ≤ (h159.2.2.2.1 bv : Int)) → h159.2.2.2.2 x 3 = .ref dr → h159.2.2.2.2 x 4 = .ref sk → h159.2.2.2.2 x 6 = .ref wr → h159.2.2.2.2 dr 8 = .int (zi n0) → h159.2.2.2.2 dr 1 = .int (zi w0) → h159.2.2.2.2 x 1 = .ref c1 → h159.2.2.2.2 wr 0 = .ref sk → h159.2.2.2.2 sk 1 = .int (zi cv) → h159.2.2.2.2 sk 3 = .int (zi hv) → gRow ty160 60 tf h159 → gRow ty160 61 tt h159 → gz gPP gGG gcn (d + 8) gt89 122 [some (.ref x), some (.int (zi q)), some (.int (zi i))] [] h159 (fun q _ => ∃ ty9 : Nat → Nat, gSg [114] [] [55008, 56000, 56001, 56002, 56003, 64999, 71005, 71006, 71007, 71008, 71009, 71010, 71011, 71012, 71013, 71014, 72999, 73999, 74999, 76999, 77999, 78999, 79999, 80999, 81999, 85999, 91004, 91008, 92004, 92008, 93999, 94999, 95999, 96999, 97999, 98999, 99999, 114999] ty h ty9 q.2.2 ∧ ∃ wr2 by2 : Nat, True ∧ ∃ z n1 c1 : Int, q.2.2.2.2.2.2 x 6 = .ref wr2 ∧ ty9 wr2 = 71 ∧ q.2.2.2.2.2.2 sk 0 = .ref by2 ∧ ty9 by2 = 114 ∧ gfin gt89 q.1 q.2.1 = some (some (.int (zi z))) ∧ (-2147483648) ≤ z ∧ z ≤ 2147483647 ∧ q.2.2.2.2.2.2 dr 8 = .int (zi n1) ∧ 0 ≤ n1 ∧ n1 ≤ 10 ∧ q.2.2.2.2.2.2 sk 1 = .int (zi c1) ∧ 0 ≤ c1 ∧ c1 ≤ 500000 ∧ (n1 = 0) ∧ (c1 ≤ (q.2.2.2.2.2.1 by2 : Int)) ∧ (1024 * ((q.2.2.1 : Int) - h.1) ≤ (q.2.2.2.2.2.1 by2 : Int) - h.2.2.2.1 by) ∧ (((q.2.2.2.1 : Int) - h.2.1) ≤ 2 * ((q.2.2.2.2.2.1 by2 : Int) - h.2.2.2.1 by)) ∧ ((h.2.2.2.1 by : Int) ≤ (q.2.2.2.2.2.1 by2 : Int)) ∧ (gTc ty9 n1 q.2.2)) := by
      intro fu
      induction fu with
      | zero => intro ty160 h159 bv i cv hv hm; exact absurd hm (Nat.not_lt_zero _)
      | succ fu ihlp158 =>
        intro ty160 h159 bv i cv hv lp158m lp158G lp158u lp158t lp158c0 lp158c1 lp158c2 lp158c3 lp158c4 lp158r0 lp158r1 lp158f0 lp158f1 lp158f2 lp158f3 lp158f4 lp158f5 lp158f6 lp158f7 lp158f8 lp158k0 lp158k1 lp158k2 lp158k3 lp158k4 lp158k5 lp158k6 lp158k7 lp158k8 lp158k9 lp158k10
        have sh159 : gSs rT 1027 ty160 [55008, 56000, 56001, 56002, 56003, 64999, 71005, 71006, 71007, 71008, 71009, 71010, 71011, 71012, 71013, 71014, 72999, 73999, 74999, 76999, 77999, 78999, 79999, 80999, 81999, 85999, 91004, 91008, 92004, 92008, 93999, 94999, 95999, 96999, 97999, 98999, 99999, 114999] h159 h159 := gSs.rf lp158G.1
        refine gz_s 2 (pc' := 124) (L' := [some (.ref x), some (.int (zi q)), some (.int (zi i))]) (S' := [.ref x, .int (zi i)]) rfl ?_
        refine gs_gtk rfl (by decide) rfl sh159.1 lp158c0 rfl rfl lp158k0 ?_
        refine gs_gtk rfl (by decide) rfl sh159.1 lp158c1 rfl rfl lp158k3 ?_
        refine gy_icT (pc' := 182) rfl (by decide) (by decide) (by omega) (by omega) (by first | (simp [zc]; done) | (simp only [zc]; omega)) ?_
        refine gz_s 1 (pc' := 183) (L' := [some (.ref x), some (.int (zi q)), some (.int (zi i))]) (S' := [.ref x]) rfl ?_
        refine gs_gtk rfl (by decide) rfl sh159.1 lp158c0 rfl rfl lp158k2 ?_
        have hl161 : h159.2.2.2.1 bv = h159.2.2.2.1 bv := congrFun sh159.2.2.2.2.1 bv
        refine gz_call rfl (by decide) rfl (by decide) (by decide) (gcal_of rfl rfl rfl (Nat.le_of_ble_eq_true rfl) (gJ.recv (G := gGG) sh159.1 lp158c3 rfl rfl)) (cl_Writer_putEnd _ sh159.1 wr lp158c3 sk lp158k6 lp158c2 bv lp158r0 lp158r1 cv lp158k7 (by omega) (by omega) lp158u) (fun q162 _ wq162 => ?_)
        obtain ⟨pq162, oq162, hq162⟩ := q162
        obtain ⟨tyq162, xq162, cq162_0, ttq162, fq162_0, ecq162_0, tcq162_0, gq162, efq162_0, afq162_0, bfq162_0, uq162_0, uq162_1, uq162_2, uq162_3, uq162_4⟩ := wq162
        dsimp only at uq162_1 uq162_2 uq162_3 uq162_4
        refine ⟨_, gq162, ?_⟩
        show gz gPP gGG gcn _ _ 189 [some (.ref x), some (.int (zi q)), some (.int (zi i))] [] hq162 _
        have G163 : gSg [114] [] [55008, 56000, 56001, 56002, 56003, 64999, 71005, 71006, 71007, 71008, 71009, 71010, 71011, 71012, 71013, 71014, 72999, 73999, 74999, 76999, 77999, 78999, 79999, 80999, 81999, 85999, 91004, 91008, 92004, 92008, 93999, 94999, 95999, 96999, 97999, 98999, 99999, 114999] ty h tyq162 hq162 := gSg.tr (gSg.ss lp158G sh159 (by decide)) xq162 (by decide) (by decide) (fun x hx => by cases hx)
        have t164 : tyq162 x = 50 := gSg.typ xq162 sh159.1 lp158c0 rfl
        have t165 : tyq162 dr = 55 := gSg.typ xq162 sh159.1 lp158c1 rfl
        have t166 : tyq162 sk = 56 := gSg.typ xq162 sh159.1 lp158c2 rfl
        have t167 : tyq162 wr = 71 := gSg.typ xq162 sh159.1 lp158c3 rfl
        have t168 : tyq162 c1 = 53 := gSg.typ xq162 sh159.1 lp158c4 rfl
        have t169 : tyq162 bv = 114 := gSg.typ xq162 sh159.1 lp158r1 rfl
        have hl170 : hq162.2.2.2.1 bv = h159.2.2.2.1 bv := gSg.len xq162 sh159.1 lp158r1 rfl
        have s171 := gSg.at xq162 sh159.1 lp158c0 rfl (by decide) lp158k0
        have s172 := gSg.at xq162 sh159.1 lp158c0 rfl (by decide) lp158k1
        have s173 := gSg.at xq162 sh159.1 lp158c0 rfl (by decide) lp158k2
        have s174 := gSg.at xq162 sh159.1 lp158c1 rfl (by decide) lp158k3
        have s175 := gSg.at xq162 sh159.1 lp158c1 rfl (by decide) lp158k4
        have s176 := gSg.at xq162 sh159.1 lp158c0 rfl (by decide) lp158k5
        have s177 := gSg.at xq162 sh159.1 lp158c3 rfl (by decide) lp158k6
        have s178 := gSg.at xq162 sh159.1 lp158c2 rfl (by decide) lp158k8
        have pr179 := gRow.gr xq162 sh159.1 rfl (by decide) (by decide) lp158k9
        have pr180 := gRow.gr xq162 sh159.1 rfl (by decide) (by decide) lp158k10
        have uq181 := gSg.uq xq162 lp158u (by decide)
        have hyst182 := gSta.gr xq162 (by decide) (fun x hx => by cases hx) (gSta.fr sh159.2 (by decide) lp158t)
        have sS183 : gSs rT 1027 tyq162 [55008, 56000, 56001, 56002, 56003, 64999, 71005, 71006, 71007, 71008, 71009, 71010, 71011, 71012, 71013, 71014, 72999, 73999, 74999, 76999, 77999, 78999, 79999, 80999, 81999, 85999, 91004, 91008, 92004, 92008, 93999, 94999, 95999, 96999, 97999, 98999, 99999, 114999] hq162 hq162 := gSs.rf xq162.1
        refine gz_s 1 (pc' := 190) (L' := [some (.ref x), some (.int (zi q)), some (.int (zi i))]) (S' := [.ref x]) rfl ?_
        refine gs_gtk rfl (by decide) rfl sS183.1 t164 rfl rfl s171 ?_
        refine gz_call rfl (by decide) rfl (by decide) (by decide) (gcal_of rfl rfl rfl (Nat.le_of_ble_eq_true rfl) (gJ.recv (G := gGG) sS183.1 t165 rfl rfl)) (cl_Draft_forgetScans _ sS183.1 dr t165 uq181) (fun q184 _ wq184 => ?_)
        obtain ⟨pq184, oq184, hq184⟩ := q184
        obtain ⟨xq184, fq184_0, gq184, efq184_0, afq184_0, bfq184_0, uq184_0, yq184_0⟩ := wq184
        refine ⟨_, gq184, ?_⟩
        show gz gPP gGG gcn _ _ 196 [some (.ref x), some (.int (zi q)), some (.int (zi i))] [] hq184 _
        have sq184 : gSs rT 1027 tyq162 [55008, 56000, 56001, 56002, 56003, 64999, 71005, 71006, 71007, 71008, 71009, 71010, 71011, 71012, 71013, 71014, 72999, 73999, 74999, 76999, 77999, 78999, 79999, 80999, 81999, 85999, 91004, 91008, 92004, 92008, 93999, 94999, 95999, 96999, 97999, 98999, 99999, 114999] hq162 hq184 := gSs.tr sS183 xq184 (by decide)
        have s185 := (xq184.2.2.2.2.2 x 3 (by rw [t164]; decide)).trans s171
        have s186 := (xq184.2.2.2.2.2 x 4 (by rw [t164]; decide)).trans s172
        have s187 := (xq184.2.2.2.2.2 x 6 (by rw [t164]; decide)).trans s173
        have s188 := (xq184.2.2.2.2.2 dr 1 (by rw [t165]; decide)).trans s175
        have s189 := (xq184.2.2.2.2.2 x 1 (by rw [t164]; decide)).trans s176
        have s190 := (xq184.2.2.2.2.2 wr 0 (by rw [t167]; decide)).trans s177
        have s191 := (xq184.2.2.2.2.2 sk 3 (by rw [t166]; decide)).trans s178
        have s192 := (xq184.2.2.2.2.2 sk 0 (by rw [t166]; decide)).trans ecq162_0
        have s193 := (xq184.2.2.2.2.2 sk 1 (by rw [t166]; decide)).trans efq162_0
        have pr194 := gRow.fr xq184.2 (by decide) pr179
        have pr195 := gRow.fr xq184.2 (by decide) pr180
        refine gz_s 1 (pc' := 197) (L' := [some (.ref x), some (.int (zi q)), some (.int (zi i))]) (S' := [.ref x]) rfl ?_
        refine gs_gtk rfl (by decide) rfl sq184.1 t164 rfl rfl s186 ?_
        refine gs_gtk rfl (by decide) rfl sq184.1 t166 rfl rfl s193 ?_
        have k196 := sq184.2.1
        have k196b := sq184.2.2.1
        have hl197 : hq184.2.2.2.1 bv = hq162.2.2.2.1 bv := congrFun sq184.2.2.2.2.1 bv
        have hl198 : hq184.2.2.2.1 cq162_0 = hq162.2.2.2.1 cq162_0 := congrFun sq184.2.2.2.2.1 cq162_0
        have htc199 : gTc tyq162 fq184_0 hq184 := by
          rw [(by omega : fq184_0 = 0)]
          exact yq184_0
        have G200 : gSg [114] [] [55008, 56000, 56001, 56002, 56003, 64999, 71005, 71006, 71007, 71008, 71009, 71010, 71011, 71012, 71013, 71014, 72999, 73999, 74999, 76999, 77999, 78999, 79999, 80999, 81999, 85999, 91004, 91008, 92004, 92008, 93999, 94999, 95999, 96999, 97999, 98999, 99999, 114999] ty h tyq162 hq184 := gSg.ss G163 sq184 (by decide)
        exact gz_end (I := .ireturn) (len := 1) rfl (Or.inl rfl) ⟨tyq162, G200, wr, cq162_0, trivial, fq162_0, fq184_0, fq162_0, s187, t167, s192, tcq162_0, rfl, (by omega), (by omega), efq184_0, (by omega), (by omega), s193, (by omega), (by omega), (by omega), (by dsimp only; omega), (by dsimp only; omega), (by dsimp only; omega), (by dsimp only; omega), htc199⟩
    have G201 : gSg [114] [] [55008, 56000, 56001, 56002, 56003, 64999, 71005, 71006, 71007, 71008, 71009, 71010, 71011, 71012, 71013, 71014, 72999, 73999, 74999, 76999, 77999, 78999, 79999, 80999, 81999, 85999, 91004, 91008, 92004, 92008, 93999, 94999, 95999, 96999, 97999, 98999, 99999, 114999] ty h tyq136 hq136 := gSg.ss G137 sS157 (by decide)
    exact gz_wk (lp158 _ tyq136 hq136 cq136_0 0 fq136_0 fq136_1 (Nat.lt_succ_self _) G201 uq155 (gSta.fr sS157.2 (by decide) hyst156) t138 t139 t140 t143 t144 ecq136_0 tcq136_0 (by omega) (by omega) (by omega) (by omega) (by omega) (by omega) (by omega) (by omega) (by omega) s147 s148 s149 s150 s151 s152 s153 efq136_0 efq136_1 rf rt) (gLw.s (gLw.s (gLw.s gLw.z)))
set_option maxRecDepth 20000 in
set_option maxHeartbeats 4000000 in
theorem cl_encodeT (d : Nat) {ty : Nat → Nat} {h : gH} (hJ : gJ rT 1027 ty h) (x : Nat) (tx : ty x = 50) (q : Int) (rq : (-2147483648) ≤ q ∧ q ≤ 2147483647) (dr : Nat) (edr : h.2.2.2.2 x 3 = .ref dr) (tdr : ty dr = 55) (w0 : Int) (ew0 : h.2.2.2.2 dr 1 = .int (zi w0)) (rw0 : 0 ≤ w0 ∧ w0 ≤ 32) (pp0 : q < 1 ∨ 100 < q ∨ w0 < 1) (uq : gUq ty) : gz gPP gGG gcn (d + 0) gt89 0 (gent [.ref x, .int (zi q)] 3) [] h (fun q _ => gSs rT 1027 ty [] h q.2.2 ∧ ((∃ z : Int, gfin gt89 q.1 q.2.1 = some (some (.int (zi z))) ∧ (-2147483648) ≤ z ∧ z ≤ 2147483647) ∨ (q.2.1 = [] ∧ ((q.1 = 11 ∧ (q < 1 ∨ 100 < q)) ∨ (q.1 = 32 ∧ (1 ≤ q) ∧ (q ≤ 100)))))) := by
  have hS : gSs rT 1027 ty [] h h := gSs.rf hJ
  refine gz_s 2 (pc' := 2) (L' := [some (.ref x), some (.int (zi q)), none]) (S' := [.int (zi 1), .int (zi q)]) rfl ?_
  by_cases hc1 : (q : Int) < 1
  · refine gy_icT (pc' := 11) rfl (by decide) (by decide) (by omega) (by omega) hc1 ?_
    exact gz_end (I := .new 134) (len := 3) rfl (Or.inr (by decide)) ⟨hS, Or.inr ⟨rfl, Or.inl ⟨rfl, (by omega)⟩⟩⟩
  · refine gy_icF rfl (by decide) (by decide) (by omega) (by omega) hc1 ?_
    refine gz_s 2 (pc' := 8) (L' := [some (.ref x), some (.int (zi q)), none]) (S' := [.int (zi 100), .int (zi q)]) rfl ?_
    by_cases hc2 : (q : Int) ≤ 100
    · refine gy_icT (pc' := 21) rfl (by decide) (by decide) (by omega) (by omega) hc2 ?_
      refine gz_s 1 (pc' := 22) (L' := [some (.ref x), some (.int (zi q)), none]) (S' := [.ref x]) rfl ?_
      refine gs_gtk rfl (by decide) rfl hS.1 tx rfl rfl edr ?_
      refine gs_gtk rfl (by decide) rfl hS.1 tdr rfl rfl ew0 ?_
      refine gz_s 1 (pc' := 29) (L' := [some (.ref x), some (.int (zi q)), none]) (S' := [.int (zi 1), .int (zi w0)]) rfl ?_
      by_cases hc3 : (1 : Int) ≤ w0
      · refine gy_icT (pc' := 42) rfl (by decide) (by decide) (by omega) (by omega) hc3 ?_
        exact False.elim (by omega)
      · refine gy_icF rfl (by decide) (by decide) (by omega) (by omega) hc3 ?_
        exact gz_end (I := .new 157) (len := 3) rfl (Or.inr (by decide)) ⟨hS, Or.inr ⟨rfl, Or.inr (⟨rfl, (by omega), (by omega)⟩)⟩⟩
    · refine gy_icF rfl (by decide) (by decide) (by omega) (by omega) hc2 ?_
      exact gz_end (I := .new 134) (len := 3) rfl (Or.inr (by decide)) ⟨hS, Or.inr ⟨rfl, Or.inl ⟨rfl, (by omega)⟩⟩⟩
