/-! ===== methods of the landed text (by program) ===== -/
set_option maxRecDepth 20000 in
set_option maxHeartbeats 4000000 in
theorem cl_Writer_putScan (d : Nat) {ty : Nat → Nat} {h : gH} (hJ : gJ rT 1027 ty h) (x : Nat) (tx : ty x = 71) (f : Int) (rf : 0 ≤ f ∧ f ≤ 63) (t : Int) (rt : 0 ≤ t ∧ t ≤ 63) (hi : Int) (rhi : 0 ≤ hi ∧ hi ≤ 4) (lo : Int) (rlo : 0 ≤ lo ∧ lo ≤ 3) (sk : Nat) (esk : h.2.2.2.2 x 0 = .ref sk) (tsk : ty sk = 56) (bt : Nat) (ebt : h.2.2.2.2 sk 0 = .ref bt) (tbt : ty bt = 114) (c0 : Int) (ec0 : h.2.2.2.2 sk 1 = .int (zi c0)) (rc0 : 0 ≤ c0 ∧ c0 ≤ 499999) (h0 : Int) (eh0 : h.2.2.2.2 sk 3 = .int (zi h0)) (rh0 : 0 ≤ h0 ∧ h0 ≤ 7) (pp0 : 4 * c0 + h0 + 16 * (656 + 320 * (t - f)) + 2500 ≤ 1997990) (pp1 : f ≤ t) (pp2 : c0 ≤ (h.2.2.2.1 bt : Int)) (uq : gUq ty) : gz gPP gGG gcn (d + 7) gt104 0 (gent [.ref x, .int (zi f), .int (zi t), .int (zi hi), .int (zi lo)] 5) [] h (fun q _ => ∃ ty9 : Nat → Nat, gSg [114] [] [56000, 56001, 56002, 56003, 71007, 71008, 71009, 71010, 71011, 71012, 71013, 71014, 76999, 77999, 78999, 79999, 80999, 81999, 85999, 91004, 91008, 92004, 92008, 93999, 94999, 95999, 96999, 97999, 98999, 99999, 114999] ty h ty9 q.2.2 ∧ ∃ bt2 : Nat, True ∧ ∃ c1 h1 : Int, q.2.2.2.2.2.2 sk 0 = .ref bt2 ∧ ty9 bt2 = 114 ∧ gfin gt104 q.1 q.2.1 = some none ∧ q.2.2.2.2.2.2 sk 1 = .int (zi c1) ∧ 0 ≤ c1 ∧ c1 ≤ 500000 ∧ q.2.2.2.2.2.2 sk 3 = .int (zi h1) ∧ 0 ≤ h1 ∧ h1 ≤ 7 ∧ (4 * c1 + h1 ≤ 4 * c0 + h0 + 16 * (656 + 320 * (t - f)) + 2500) ∧ (c0 ≤ c1) ∧ (1024 * ((q.2.2.1 : Int) - h.1) ≤ (q.2.2.2.2.2.1 bt2 : Int) - h.2.2.2.1 bt) ∧ (((q.2.2.2.1 : Int) - h.2.1) ≤ 2 * ((q.2.2.2.2.2.1 bt2 : Int) - h.2.2.2.1 bt)) ∧ ((h.2.2.2.1 bt : Int) ≤ (q.2.2.2.2.2.1 bt2 : Int)) ∧ (c1 ≤ (q.2.2.2.2.2.1 bt2 : Int))) := by
  have hS : gSs rT 1027 ty [56000, 56001, 56002, 56003, 71007, 71008, 71009, 71010, 71011, 71012, 71013, 71014, 76999, 77999, 78999, 79999, 80999, 81999, 85999, 91004, 91008, 92004, 92008, 93999, 94999, 95999, 96999, 97999, 98999, 99999, 114999] h h := gSs.rf hJ
  have G0 : gSg [114] [] [56000, 56001, 56002, 56003, 71007, 71008, 71009, 71010, 71011, 71012, 71013, 71014, 76999, 77999, 78999, 79999, 80999, 81999, 85999, 91004, 91008, 92004, 92008, 93999, 94999, 95999, 96999, 97999, 98999, 99999, 114999] ty h ty h := gSg.rf hJ (fun x hx => by cases hx)
  refine gz_s 2 (pc' := 2) (L' := [some (.ref x), some (.int (zi f)), some (.int (zi t)), some (.int (zi hi)), some (.int (zi lo))]) (S' := [.int (zi f), .ref x]) rfl ?_
  refine gs_put rfl (by decide) rfl hS tx rfl rfl rfl rfl (Or.inl rfl) (by decide) (by omega) (by omega) (fun h1 sh1 eh1 fh1 => ?_)
  have s2 := (fh1 x 0 (fun q => absurd q.2 (by decide))).trans esk
  have s3 := (fh1 sk 0 (fun q => absurd q.2 (by decide))).trans ebt
  have s4 := (fh1 sk 1 (fun q => absurd q.2 (by decide))).trans ec0
  have s5 := (fh1 sk 3 (fun q => absurd q.2 (by decide))).trans eh0
  refine gz_s 2 (pc' := 7) (L' := [some (.ref x), some (.int (zi f)), some (.int (zi t)), some (.int (zi hi)), some (.int (zi lo))]) (S' := [.int (zi t), .ref x]) rfl ?_
  refine gs_put rfl (by decide) rfl sh1 tx rfl rfl rfl rfl (Or.inl rfl) (by decide) (by omega) (by omega) (fun h6 sh6 eh6 fh6 => ?_)
  have s7 := (fh6 x 0 (fun q => absurd q.2 (by decide))).trans s2
  have s8 := (fh6 sk 0 (fun q => absurd q.2 (by decide))).trans s3
  have s9 := (fh6 sk 1 (fun q => absurd q.2 (by decide))).trans s4
  have s10 := (fh6 sk 3 (fun q => absurd q.2 (by decide))).trans s5
  have s11 := (fh6 x 7 (fun q => absurd q.2 (by decide))).trans eh1
  refine gz_s 2 (pc' := 12) (L' := [some (.ref x), some (.int (zi f)), some (.int (zi t)), some (.int (zi hi)), some (.int (zi lo))]) (S' := [.int (zi hi), .ref x]) rfl ?_
  refine gs_put rfl (by decide) rfl sh6 tx rfl rfl rfl rfl (Or.inl rfl) (by decide) (by omega) (by omega) (fun h12 sh12 eh12 fh12 => ?_)
  have s13 := (fh12 x 0 (fun q => absurd q.2 (by decide))).trans s7
  have s14 := (fh12 sk 0 (fun q => absurd q.2 (by decide))).trans s8
  have s15 := (fh12 sk 1 (fun q => absurd q.2 (by decide))).trans s9
  have s16 := (fh12 sk 3 (fun q => absurd q.2 (by decide))).trans s10
  have s17 := (fh12 x 7 (fun q => absurd q.2 (by decide))).trans s11
  have s18 := (fh12 x 8 (fun q => absurd q.2 (by decide))).trans eh6
  refine gz_s 2 (pc' := 18) (L' := [some (.ref x), some (.int (zi f)), some (.int (zi t)), some (.int (zi hi)), some (.int (zi lo))]) (S' := [.int (zi lo), .ref x]) rfl ?_
  refine gs_put rfl (by decide) rfl sh12 tx rfl rfl rfl rfl (Or.inl rfl) (by decide) (by omega) (by omega) (fun h19 sh19 eh19 fh19 => ?_)
  have s20 := (fh19 x 0 (fun q => absurd q.2 (by decide))).trans s13
  have s21 := (fh19 sk 0 (fun q => absurd q.2 (by decide))).trans s14
  have s22 := (fh19 sk 1 (fun q => absurd q.2 (by decide))).trans s15
  have s23 := (fh19 sk 3 (fun q => absurd q.2 (by decide))).trans s16
  have s24 := (fh19 x 7 (fun q => absurd q.2 (by decide))).trans s17
  have s25 := (fh19 x 8 (fun q => absurd q.2 (by decide))).trans s18
  have s26 := (fh19 x 9 (fun q => absurd q.2 (by decide))).trans eh12
  refine gz_s 1 (pc' := 22) (L' := [some (.ref x), some (.int (zi f)), some (.int (zi t)), some (.int (zi hi)), some (.int (zi lo))]) (S' := [.ref x]) rfl ?_
  refine gs_gtr rfl (by decide) rfl sh19.1 tx rfl rfl rfl (fun c27 ec27 tc27 => ?_)
  refine gz_s 1 (pc' := 26) (L' := [some (.ref x), some (.int (zi f)), some (.int (zi t)), some (.int (zi hi)), some (.int (zi lo))]) (S' := [.int (zi 0), .ref c27]) rfl ?_
  have he30 : (0 : Int) = 0 := by omega
  refine gs_aal (j := 0) (q2 := 91) rfl (by decide) sh19.1 tc27 rfl rfl rfl (by decide) he30 rfl (by decide) (fun c31 ec31 tc31 => ?_)
  refine gz_call rfl (by decide) rfl (by decide) (by decide) (gcal_of rfl rfl rfl (Nat.le_of_ble_eq_true rfl) (gJ.recv (G := gGG) sh19.1 tc31 rfl rfl)) (cl_Suited0_forget _ sh19.1 c31 tc31 uq) (fun q32 _ wq32 => ?_)
  obtain ⟨pq32, oq32, hq32⟩ := q32
  obtain ⟨xq32, gq32⟩ := wq32
  refine ⟨_, gq32, ?_⟩
  show gz gPP gGG gcn _ _ 30 [some (.ref x), some (.int (zi f)), some (.int (zi t)), some (.int (zi hi)), some (.int (zi lo))] [] hq32 _
  have sq32 : gSs rT 1027 ty [56000, 56001, 56002, 56003, 71007, 71008, 71009, 71010, 71011, 71012, 71013, 71014, 76999, 77999, 78999, 79999, 80999, 81999, 85999, 91004, 91008, 92004, 92008, 93999, 94999, 95999, 96999, 97999, 98999, 99999, 114999] h hq32 := gSs.tr sh19 xq32 (by decide)
  have s33 := (xq32.2.2.2.2.2 x 0 (by rw [tx]; decide)).trans s20
  have s34 := (xq32.2.2.2.2.2 sk 0 (by rw [tsk]; decide)).trans s21
  have s35 := (xq32.2.2.2.2.2 sk 1 (by rw [tsk]; decide)).trans s22
  have s36 := (xq32.2.2.2.2.2 sk 3 (by rw [tsk]; decide)).trans s23
  have s37 := (xq32.2.2.2.2.2 x 7 (by rw [tx]; decide)).trans s24
  have s38 := (xq32.2.2.2.2.2 x 8 (by rw [tx]; decide)).trans s25
  have s39 := (xq32.2.2.2.2.2 x 9 (by rw [tx]; decide)).trans s26
  have s40 := (xq32.2.2.2.2.2 x 10 (by rw [tx]; decide)).trans eh19
  have s41 := (xq32.2.2.2.2.2 x 4 (by rw [tx]; decide)).trans ec27
  have s42 := (xq32.2.2.2.2.2 c27 0 (by rw [tc27]; decide)).trans ec31
  refine gz_s 1 (pc' := 31) (L' := [some (.ref x), some (.int (zi f)), some (.int (zi t)), some (.int (zi hi)), some (.int (zi lo))]) (S' := [.ref x]) rfl ?_
  refine gs_gtk rfl (by decide) rfl sq32.1 tx rfl rfl s41 ?_
  refine gz_s 1 (pc' := 35) (L' := [some (.ref x), some (.int (zi f)), some (.int (zi t)), some (.int (zi hi)), some (.int (zi lo))]) (S' := [.int (zi 1), .ref c27]) rfl ?_
  have he45 : (1 : Int) = 1 := by omega
  refine gs_aal (j := 1) (q2 := 92) rfl (by decide) sq32.1 tc27 rfl rfl rfl (by decide) he45 rfl (by decide) (fun c46 ec46 tc46 => ?_)
  refine gz_call rfl (by decide) rfl (by decide) (by decide) (gcal_of rfl rfl rfl (Nat.le_of_ble_eq_true rfl) (gJ.recv (G := gGG) sq32.1 tc46 rfl rfl)) (cl_Suited1_forget _ sq32.1 c46 tc46 uq) (fun q47 _ wq47 => ?_)
  obtain ⟨pq47, oq47, hq47⟩ := q47
  obtain ⟨xq47, gq47⟩ := wq47
  refine ⟨_, gq47, ?_⟩
  show gz gPP gGG gcn _ _ 39 [some (.ref x), some (.int (zi f)), some (.int (zi t)), some (.int (zi hi)), some (.int (zi lo))] [] hq47 _
  have sq47 : gSs rT 1027 ty [56000, 56001, 56002, 56003, 71007, 71008, 71009, 71010, 71011, 71012, 71013, 71014, 76999, 77999, 78999, 79999, 80999, 81999, 85999, 91004, 91008, 92004, 92008, 93999, 94999, 95999, 96999, 97999, 98999, 99999, 114999] h hq47 := gSs.tr sq32 xq47 (by decide)
  have s48 := (xq47.2.2.2.2.2 x 0 (by rw [tx]; decide)).trans s33
  have s49 := (xq47.2.2.2.2.2 sk 0 (by rw [tsk]; decide)).trans s34
  have s50 := (xq47.2.2.2.2.2 sk 1 (by rw [tsk]; decide)).trans s35
  have s51 := (xq47.2.2.2.2.2 sk 3 (by rw [tsk]; decide)).trans s36
  have s52 := (xq47.2.2.2.2.2 x 7 (by rw [tx]; decide)).trans s37
  have s53 := (xq47.2.2.2.2.2 x 8 (by rw [tx]; decide)).trans s38
  have s54 := (xq47.2.2.2.2.2 x 9 (by rw [tx]; decide)).trans s39
  have s55 := (xq47.2.2.2.2.2 x 10 (by rw [tx]; decide)).trans s40
  have s56 := (xq47.2.2.2.2.2 x 4 (by rw [tx]; decide)).trans s41
  have s57 := (xq47.2.2.2.2.2 c27 0 (by rw [tc27]; decide)).trans s42
  have s58 := (xq47.2.2.2.2.2 c27 1 (by rw [tc27]; decide)).trans ec46
  refine gz_s 2 (pc' := 41) (L' := [some (.ref x), some (.int (zi f)), some (.int (zi t)), some (.int (zi hi)), some (.int (zi lo))]) (S' := [.int (zi 1), .ref x]) rfl ?_
  refine gs_put rfl (by decide) rfl sq47 tx rfl rfl rfl rfl (Or.inl rfl) (by decide) (by omega) (by omega) (fun h59 sh59 eh59 fh59 => ?_)
  have s60 := (fh59 x 0 (fun q => absurd q.2 (by decide))).trans s48
  have s61 := (fh59 sk 0 (fun q => absurd q.2 (by decide))).trans s49
  have s62 := (fh59 sk 1 (fun q => absurd q.2 (by decide))).trans s50
  have s63 := (fh59 sk 3 (fun q => absurd q.2 (by decide))).trans s51
  have s64 := (fh59 x 7 (fun q => absurd q.2 (by decide))).trans s52
  have s65 := (fh59 x 8 (fun q => absurd q.2 (by decide))).trans s53
  have s66 := (fh59 x 9 (fun q => absurd q.2 (by decide))).trans s54
  have s67 := (fh59 x 10 (fun q => absurd q.2 (by decide))).trans s55
  have s68 := (fh59 x 4 (fun q => absurd q.2 (by decide))).trans s56
  have s69 := (fh59 c27 0 (fun q => absurd (((tc27).symm.trans (congrArg ty q.1)).trans tx) (by decide))).trans s57
  have s70 := (fh59 c27 1 (fun q => absurd (((tc27).symm.trans (congrArg ty q.1)).trans tx) (by decide))).trans s58
  refine gz_s 1 (pc' := 45) (L' := [some (.ref x), some (.int (zi f)), some (.int (zi t)), some (.int (zi hi)), some (.int (zi lo))]) (S' := [.ref x]) rfl ?_
  have k71 := sh59.2.1
  have k71b := sh59.2.2.1
  have hl72 : h59.2.2.2.1 bt = h.2.2.2.1 bt := congrFun sh59.2.2.2.2.1 bt
  have hl73 : h59.2.2.2.1 bt = h.2.2.2.1 bt := congrFun sh59.2.2.2.2.1 bt
  obtain ⟨z74, ez74, az74, bz74⟩ := gJ.int (k := 5) (G := gGG) sh59.1 tx rfl rfl rfl
  obtain ⟨z75, ez75, az75, bz75⟩ := gJ.int (k := 6) (G := gGG) sh59.1 tx rfl rfl rfl
  refine gz_call rfl (by decide) rfl (by decide) (by decide) (gcal_of rfl rfl rfl (Nat.le_of_ble_eq_true rfl) (gJ.recv (G := gGG) sh59.1 tx rfl rfl)) (cl_Writer_putBlocks _ sh59.1 x tx sk s60 tsk bt s61 tbt c0 s62 ⟨by omega, by omega⟩ h0 s63 ⟨by omega, by omega⟩ 1 eh59 ⟨by omega, by omega⟩ f s64 ⟨by omega, by omega⟩ t s65 ⟨by omega, by omega⟩ z74 ez74 ⟨by omega, by omega⟩ z75 ez75 ⟨by omega, by omega⟩ (by omega) (by omega) (by omega) uq) (fun q76 _ wq76 => ?_)
  obtain ⟨pq76, oq76, hq76⟩ := q76
  obtain ⟨tyq76, xq76, cq76_0, ttq76, fq76_0, fq76_1, ecq76_0, tcq76_0, gq76, efq76_0, afq76_0, bfq76_0, efq76_1, afq76_1, bfq76_1, uq76_0, uq76_1, uq76_2, uq76_3, uq76_4, uq76_5, uq76_6⟩ := wq76
  dsimp only at uq76_3 uq76_4 uq76_5 uq76_6
  refine ⟨_, gq76, ?_⟩
  show gz gPP gGG gcn _ _ 48 [some (.ref x), some (.int (zi f)), some (.int (zi t)), some (.int (zi hi)), some (.int (zi lo))] [] hq76 _
  have G77 : gSg [114] [] [56000, 56001, 56002, 56003, 71007, 71008, 71009, 71010, 71011, 71012, 71013, 71014, 76999, 77999, 78999, 79999, 80999, 81999, 85999, 91004, 91008, 92004, 92008, 93999, 94999, 95999, 96999, 97999, 98999, 99999, 114999] ty h tyq76 hq76 := gSg.tr (gSg.ss G0 sh59 (by decide)) xq76 (by decide) (by decide) (fun x hx => by cases hx)
  have t78 : tyq76 x = 71 := gSg.typ xq76 sh59.1 tx rfl
  have t79 : tyq76 sk = 56 := gSg.typ xq76 sh59.1 tsk rfl
  have t80 : tyq76 bt = 114 := gSg.typ xq76 sh59.1 tbt rfl
  have hl81 : hq76.2.2.2.1 bt = h59.2.2.2.1 bt := gSg.len xq76 sh59.1 tbt rfl
  have t82 : tyq76 c27 = 75 := gSg.typ xq76 sh59.1 tc27 rfl
  have t83 : tyq76 c31 = 91 := gSg.typ xq76 sh59.1 tc31 rfl
  have t84 : tyq76 c46 = 92 := gSg.typ xq76 sh59.1 tc46 rfl
  have s85 := gSg.at xq76 sh59.1 tx rfl (by decide) s60
  have s86 := gSg.at xq76 sh59.1 tx rfl (by decide) s64
  have s87 := gSg.at xq76 sh59.1 tx rfl (by decide) s65
  have s88 := gSg.at xq76 sh59.1 tx rfl (by decide) s66
  have s89 := gSg.at xq76 sh59.1 tx rfl (by decide) s67
  have s90 := gSg.at xq76 sh59.1 tx rfl (by decide) s68
  have s91 := gSg.at xq76 sh59.1 tc27 rfl (by decide) s69
  have s92 := gSg.at xq76 sh59.1 tc27 rfl (by decide) s70
  have s93 := gSg.at xq76 sh59.1 tx rfl (by decide) eh59
  have s94 := gSg.at xq76 sh59.1 tx rfl (by decide) ez74
  have s95 := gSg.at xq76 sh59.1 tx rfl (by decide) ez75
  have uq96 := gSg.uq xq76 uq (by decide)
  have sS97 : gSs rT 1027 tyq76 [56000, 56001, 56002, 56003, 71007, 71008, 71009, 71010, 71011, 71012, 71013, 71014, 76999, 77999, 78999, 79999, 80999, 81999, 85999, 91004, 91008, 92004, 92008, 93999, 94999, 95999, 96999, 97999, 98999, 99999, 114999] hq76 hq76 := gSs.rf xq76.1
  refine gz_s 1 (pc' := 49) (L' := [some (.ref x), some (.int (zi f)), some (.int (zi t)), some (.int (zi hi)), some (.int (zi lo))]) (S' := [.ref x]) rfl ?_
  refine gs_gtk rfl (by decide) rfl sS97.1 t78 rfl rfl s86 ?_
  by_cases hc98 : ¬ (f : Int) = 0
  · refine gy_ifT (pc' := 67) rfl (by decide) (by decide) (by omega) hc98 ?_
    refine gz_s 1 (pc' := 68) (L' := [some (.ref x), some (.int (zi f)), some (.int (zi t)), some (.int (zi hi)), some (.int (zi lo))]) (S' := [.ref x]) rfl ?_
    refine gs_gtk rfl (by decide) rfl sS97.1 t78 rfl rfl s87 ?_
    by_cases hc99 : (t : Int) ≤ 0
    · refine gy_ifT (pc' := 79) rfl (by decide) (by decide) (by omega) hc99 ?_
      refine gz_s 1 (pc' := 80) (L' := [some (.ref x), some (.int (zi f)), some (.int (zi t)), some (.int (zi hi)), some (.int (zi lo))]) (S' := [.ref x]) rfl ?_
      have hl100 : hq76.2.2.2.1 cq76_0 = hq76.2.2.2.1 cq76_0 := congrFun sS97.2.2.2.2.1 cq76_0
      refine gz_call rfl (by decide) rfl (by decide) (by decide) (gcal_of rfl rfl rfl (Nat.le_of_ble_eq_true rfl) (gJ.recv (G := gGG) sS97.1 t78 rfl rfl)) (cl_Writer_putScanHead _ sS97.1 x t78 sk s85 t79 cq76_0 ecq76_0 tcq76_0 fq76_0 efq76_0 ⟨by omega, by omega⟩ (by omega) uq96) (fun q101 _ wq101 => ?_)
      obtain ⟨pq101, oq101, hq101⟩ := q101
      obtain ⟨tyq101, xq101, cq101_0, ttq101, fq101_0, ecq101_0, tcq101_0, gq101, efq101_0, afq101_0, bfq101_0, uq101_0, uq101_1, uq101_2, uq101_3, uq101_4⟩ := wq101
      dsimp only at uq101_1 uq101_2 uq101_3 uq101_4
      refine ⟨_, gq101, ?_⟩
      show gz gPP gGG gcn _ _ 83 [some (.ref x), some (.int (zi f)), some (.int (zi t)), some (.int (zi hi)), some (.int (zi lo))] [] hq101 _
      have G102 : gSg [114] [] [56000, 56001, 56002, 56003, 71007, 71008, 71009, 71010, 71011, 71012, 71013, 71014, 76999, 77999, 78999, 79999, 80999, 81999, 85999, 91004, 91008, 92004, 92008, 93999, 94999, 95999, 96999, 97999, 98999, 99999, 114999] ty h tyq101 hq101 := gSg.tr (gSg.ss G77 sS97 (by decide)) xq101 (by decide) (by decide) (fun x hx => by cases hx)
      have t103 : tyq101 x = 71 := gSg.typ xq101 sS97.1 t78 rfl
      have t104 : tyq101 sk = 56 := gSg.typ xq101 sS97.1 t79 rfl
      have t105 : tyq101 bt = 114 := gSg.typ xq101 sS97.1 t80 rfl
      have hl106 : hq101.2.2.2.1 bt = hq76.2.2.2.1 bt := gSg.len xq101 sS97.1 t80 rfl
      have t107 : tyq101 c27 = 75 := gSg.typ xq101 sS97.1 t82 rfl
      have t108 : tyq101 c31 = 91 := gSg.typ xq101 sS97.1 t83 rfl
      have t109 : tyq101 c46 = 92 := gSg.typ xq101 sS97.1 t84 rfl
      have t110 : tyq101 cq76_0 = 114 := gSg.typ xq101 sS97.1 tcq76_0 rfl
      have hl111 : hq101.2.2.2.1 cq76_0 = hq76.2.2.2.1 cq76_0 := gSg.len xq101 sS97.1 tcq76_0 rfl
      have s112 := gSg.at xq101 sS97.1 t78 rfl (by decide) s85
      have s113 := gSg.at xq101 sS97.1 t78 rfl (by decide) s86
      have s114 := gSg.at xq101 sS97.1 t78 rfl (by decide) s87
      have s115 := gSg.at xq101 sS97.1 t78 rfl (by decide) s88
      have s116 := gSg.at xq101 sS97.1 t78 rfl (by decide) s89
      have s117 := gSg.at xq101 sS97.1 t78 rfl (by decide) s90
      have s118 := gSg.at xq101 sS97.1 t82 rfl (by decide) s91
      have s119 := gSg.at xq101 sS97.1 t82 rfl (by decide) s92
      have s120 := gSg.at xq101 sS97.1 t78 rfl (by decide) s93
      have s121 := gSg.at xq101 sS97.1 t78 rfl (by decide) s94
      have s122 := gSg.at xq101 sS97.1 t78 rfl (by decide) s95
      have s123 := gSg.at xq101 sS97.1 t79 rfl (by decide) efq76_1
      have uq124 := gSg.uq xq101 uq96 (by decide)
      have sS125 : gSs rT 1027 tyq101 [56000, 56001, 56002, 56003, 71007, 71008, 71009, 71010, 71011, 71012, 71013, 71014, 76999, 77999, 78999, 79999, 80999, 81999, 85999, 91004, 91008, 92004, 92008, 93999, 94999, 95999, 96999, 97999, 98999, 99999, 114999] hq101 hq101 := gSs.rf xq101.1
      refine gz_s 2 (pc' := 85) (L' := [some (.ref x), some (.int (zi f)), some (.int (zi t)), some (.int (zi hi)), some (.int (zi lo))]) (S' := [.int (zi 0), .ref x]) rfl ?_
      refine gs_put rfl (by decide) rfl sS125 t103 rfl rfl rfl rfl (Or.inl rfl) (by decide) (by omega) (by omega) (fun h126 sh126 eh126 fh126 => ?_)
      have s127 := (fh126 x 0 (fun q => absurd q.2 (by decide))).trans s112
      have s128 := (fh126 x 7 (fun q => absurd q.2 (by decide))).trans s113
      have s129 := (fh126 x 8 (fun q => absurd q.2 (by decide))).trans s114
      have s130 := (fh126 x 9 (fun q => absurd q.2 (by decide))).trans s115
      have s131 := (fh126 x 10 (fun q => absurd q.2 (by decide))).trans s116
      have s132 := (fh126 x 4 (fun q => absurd q.2 (by decide))).trans s117
      have s133 := (fh126 c27 0 (fun q => absurd (((t107).symm.trans (congrArg tyq101 q.1)).trans t103) (by decide))).trans s118
      have s134 := (fh126 c27 1 (fun q => absurd (((t107).symm.trans (congrArg tyq101 q.1)).trans t103) (by decide))).trans s119
      have s135 := (fh126 x 5 (fun q => absurd q.2 (by decide))).trans s121
      have s136 := (fh126 x 6 (fun q => absurd q.2 (by decide))).trans s122
      have s137 := (fh126 sk 3 (fun q => absurd q.2 (by decide))).trans s123
      have s138 := (fh126 sk 0 (fun q => absurd q.2 (by decide))).trans ecq101_0
      have s139 := (fh126 sk 1 (fun q => absurd q.2 (by decide))).trans efq101_0
      refine gz_s 1 (pc' := 89) (L' := [some (.ref x), some (.int (zi f)), some (.int (zi t)), some (.int (zi hi)), some (.int (zi lo))]) (S' := [.ref x]) rfl ?_
      have k140 := sh126.2.1
      have k140b := sh126.2.2.1
      have hl141 : h126.2.2.2.1 bt = hq101.2.2.2.1 bt := congrFun sh126.2.2.2.2.1 bt
      have hl142 : h126.2.2.2.1 cq76_0 = hq101.2.2.2.1 cq76_0 := congrFun sh126.2.2.2.2.1 cq76_0
      have hl143 : h126.2.2.2.1 cq101_0 = hq101.2.2.2.1 cq101_0 := congrFun sh126.2.2.2.2.1 cq101_0
      have hl144 : h126.2.2.2.1 cq101_0 = hq101.2.2.2.1 cq101_0 := congrFun sh126.2.2.2.2.1 cq101_0
      refine gz_call rfl (by decide) rfl (by decide) (by decide) (gcal_of rfl rfl rfl (Nat.le_of_ble_eq_true rfl) (gJ.recv (G := gGG) sh126.1 t103 rfl rfl)) (cl_Writer_putBlocks _ sh126.1 x t103 sk s127 t104 cq101_0 s138 tcq101_0 fq101_0 s139 ⟨by omega, by omega⟩ fq76_1 s137 ⟨by omega, by omega⟩ 0 eh126 ⟨by omega, by omega⟩ f s128 ⟨by omega, by omega⟩ t s129 ⟨by omega, by omega⟩ z74 s135 ⟨by omega, by omega⟩ z75 s136 ⟨by omega, by omega⟩ (by omega) (by omega) (by omega) uq124) (fun q145 _ wq145 => ?_)
      obtain ⟨pq145, oq145, hq145⟩ := q145
      obtain ⟨tyq145, xq145, cq145_0, ttq145, fq145_0, fq145_1, ecq145_0, tcq145_0, gq145, efq145_0, afq145_0, bfq145_0, efq145_1, afq145_1, bfq145_1, uq145_0, uq145_1, uq145_2, uq145_3, uq145_4, uq145_5, uq145_6⟩ := wq145
      dsimp only at uq145_3 uq145_4 uq145_5 uq145_6
      refine ⟨_, gq145, ?_⟩
      show gz gPP gGG gcn _ _ 92 [some (.ref x), some (.int (zi f)), some (.int (zi t)), some (.int (zi hi)), some (.int (zi lo))] [] hq145 _
      have G146 : gSg [114] [] [56000, 56001, 56002, 56003, 71007, 71008, 71009, 71010, 71011, 71012, 71013, 71014, 76999, 77999, 78999, 79999, 80999, 81999, 85999, 91004, 91008, 92004, 92008, 93999, 94999, 95999, 96999, 97999, 98999, 99999, 114999] ty h tyq145 hq145 := gSg.tr (gSg.ss G102 sh126 (by decide)) xq145 (by decide) (by decide) (fun x hx => by cases hx)
      have t147 : tyq145 x = 71 := gSg.typ xq145 sh126.1 t103 rfl
      have t148 : tyq145 sk = 56 := gSg.typ xq145 sh126.1 t104 rfl
      have t149 : tyq145 bt = 114 := gSg.typ xq145 sh126.1 t105 rfl
      have hl150 : hq145.2.2.2.1 bt = h126.2.2.2.1 bt := gSg.len xq145 sh126.1 t105 rfl
      have t151 : tyq145 c27 = 75 := gSg.typ xq145 sh126.1 t107 rfl
      have t152 : tyq145 c31 = 91 := gSg.typ xq145 sh126.1 t108 rfl
      have t153 : tyq145 c46 = 92 := gSg.typ xq145 sh126.1 t109 rfl
      have t154 : tyq145 cq76_0 = 114 := gSg.typ xq145 sh126.1 t110 rfl
      have hl155 : hq145.2.2.2.1 cq76_0 = h126.2.2.2.1 cq76_0 := gSg.len xq145 sh126.1 t110 rfl
      have t156 : tyq145 cq101_0 = 114 := gSg.typ xq145 sh126.1 tcq101_0 rfl
      have hl157 : hq145.2.2.2.1 cq101_0 = h126.2.2.2.1 cq101_0 := gSg.len xq145 sh126.1 tcq101_0 rfl
      have s158 := gSg.at xq145 sh126.1 t103 rfl (by decide) s127
      have s159 := gSg.at xq145 sh126.1 t103 rfl (by decide) s128
      have s160 := gSg.at xq145 sh126.1 t103 rfl (by decide) s129
      have s161 := gSg.at xq145 sh126.1 t103 rfl (by decide) s130
      have s162 := gSg.at xq145 sh126.1 t103 rfl (by decide) s131
      have s163 := gSg.at xq145 sh126.1 t103 rfl (by decide) s132
      have s164 := gSg.at xq145 sh126.1 t107 rfl (by decide) s133
      have s165 := gSg.at xq145 sh126.1 t107 rfl (by decide) s134
      have s166 := gSg.at xq145 sh126.1 t103 rfl (by decide) s135
      have s167 := gSg.at xq145 sh126.1 t103 rfl (by decide) s136
      have s168 := gSg.at xq145 sh126.1 t103 rfl (by decide) eh126
      have uq169 := gSg.uq xq145 uq124 (by decide)
      have sS170 : gSs rT 1027 tyq145 [56000, 56001, 56002, 56003, 71007, 71008, 71009, 71010, 71011, 71012, 71013, 71014, 76999, 77999, 78999, 79999, 80999, 81999, 85999, 91004, 91008, 92004, 92008, 93999, 94999, 95999, 96999, 97999, 98999, 99999, 114999] hq145 hq145 := gSs.rf xq145.1
      refine gz_s 1 (pc' := 93) (L' := [some (.ref x), some (.int (zi f)), some (.int (zi t)), some (.int (zi hi)), some (.int (zi lo))]) (S' := [.ref x]) rfl ?_
      refine gs_gtk rfl (by decide) rfl sS170.1 t147 rfl rfl s158 ?_
      have hl171 : hq145.2.2.2.1 cq145_0 = hq145.2.2.2.1 cq145_0 := congrFun sS170.2.2.2.2.1 cq145_0
      refine gz_call rfl (by decide) rfl (by decide) (by decide) (gcal_of rfl rfl rfl (Nat.le_of_ble_eq_true rfl) (gJ.recv (G := gGG) sS170.1 t148 rfl rfl)) (cl_Sink_fillByte _ sS170.1 sk t148 cq145_0 ecq145_0 tcq145_0 fq145_0 efq145_0 ⟨by omega, by omega⟩ fq145_1 efq145_1 ⟨by omega, by omega⟩ (by omega) (by omega) uq169) (fun q172 _ wq172 => ?_)
      obtain ⟨pq172, oq172, hq172⟩ := q172
      obtain ⟨tyq172, xq172, cq172_0, ttq172, fq172_0, fq172_1, ecq172_0, tcq172_0, gq172, efq172_0, afq172_0, bfq172_0, efq172_1, afq172_1, bfq172_1, uq172_0, uq172_1, uq172_2, uq172_3, uq172_4, uq172_5⟩ := wq172
      dsimp only at uq172_2 uq172_3 uq172_4 uq172_5
      refine ⟨_, gq172, ?_⟩
      show gz gPP gGG gcn _ _ 99 [some (.ref x), some (.int (zi f)), some (.int (zi t)), some (.int (zi hi)), some (.int (zi lo))] [] hq172 _
      have G173 : gSg [114] [] [56000, 56001, 56002, 56003, 71007, 71008, 71009, 71010, 71011, 71012, 71013, 71014, 76999, 77999, 78999, 79999, 80999, 81999, 85999, 91004, 91008, 92004, 92008, 93999, 94999, 95999, 96999, 97999, 98999, 99999, 114999] ty h tyq172 hq172 := gSg.tr (gSg.ss G146 sS170 (by decide)) xq172 (by decide) (by decide) (fun x hx => by cases hx)
      have t174 : tyq172 x = 71 := gSg.typ xq172 sS170.1 t147 rfl
      have t175 : tyq172 sk = 56 := gSg.typ xq172 sS170.1 t148 rfl
      have t176 : tyq172 bt = 114 := gSg.typ xq172 sS170.1 t149 rfl
      have hl177 : hq172.2.2.2.1 bt = hq145.2.2.2.1 bt := gSg.len xq172 sS170.1 t149 rfl
      have t178 : tyq172 c27 = 75 := gSg.typ xq172 sS170.1 t151 rfl
      have t179 : tyq172 c31 = 91 := gSg.typ xq172 sS170.1 t152 rfl
      have t180 : tyq172 c46 = 92 := gSg.typ xq172 sS170.1 t153 rfl
      have t181 : tyq172 cq76_0 = 114 := gSg.typ xq172 sS170.1 t154 rfl
      have hl182 : hq172.2.2.2.1 cq76_0 = hq145.2.2.2.1 cq76_0 := gSg.len xq172 sS170.1 t154 rfl
      have t183 : tyq172 cq101_0 = 114 := gSg.typ xq172 sS170.1 t156 rfl
      have hl184 : hq172.2.2.2.1 cq101_0 = hq145.2.2.2.1 cq101_0 := gSg.len xq172 sS170.1 t156 rfl
      have t185 : tyq172 cq145_0 = 114 := gSg.typ xq172 sS170.1 tcq145_0 rfl
      have hl186 : hq172.2.2.2.1 cq145_0 = hq145.2.2.2.1 cq145_0 := gSg.len xq172 sS170.1 tcq145_0 rfl
      have s187 := gSg.at xq172 sS170.1 t147 rfl (by decide) s158
      have s188 := gSg.at xq172 sS170.1 t147 rfl (by decide) s159
      have s189 := gSg.at xq172 sS170.1 t147 rfl (by decide) s160
      have s190 := gSg.at xq172 sS170.1 t147 rfl (by decide) s161
      have s191 := gSg.at xq172 sS170.1 t147 rfl (by decide) s162
      have s192 := gSg.at xq172 sS170.1 t147 rfl (by decide) s163
      have s193 := gSg.at xq172 sS170.1 t151 rfl (by decide) s164
      have s194 := gSg.at xq172 sS170.1 t151 rfl (by decide) s165
      have s195 := gSg.at xq172 sS170.1 t147 rfl (by decide) s166
      have s196 := gSg.at xq172 sS170.1 t147 rfl (by decide) s167
      have s197 := gSg.at xq172 sS170.1 t147 rfl (by decide) s168
      have uq198 := gSg.uq xq172 uq169 (by decide)
      have sS199 : gSs rT 1027 tyq172 [56000, 56001, 56002, 56003, 71007, 71008, 71009, 71010, 71011, 71012, 71013, 71014, 76999, 77999, 78999, 79999, 80999, 81999, 85999, 91004, 91008, 92004, 92008, 93999, 94999, 95999, 96999, 97999, 98999, 99999, 114999] hq172 hq172 := gSs.rf xq172.1
      have hl200 : 1024 ≤ hq172.2.2.2.1 bt ∧ hq172.2.2.2.1 bt ≤ 1000000 := gJ.rowl (G := gGG) sS199.1 t176 rfl
      have hl201 : 1024 ≤ hq172.2.2.2.1 cq76_0 ∧ hq172.2.2.2.1 cq76_0 ≤ 1000000 := gJ.rowl (G := gGG) sS199.1 t181 rfl
      have hl202 : 1024 ≤ hq172.2.2.2.1 cq101_0 ∧ hq172.2.2.2.1 cq101_0 ≤ 1000000 := gJ.rowl (G := gGG) sS199.1 t183 rfl
      have hl203 : 1024 ≤ hq172.2.2.2.1 cq145_0 ∧ hq172.2.2.2.1 cq145_0 ≤ 1000000 := gJ.rowl (G := gGG) sS199.1 t185 rfl
      have hl204 : 1024 ≤ hq172.2.2.2.1 cq172_0 ∧ hq172.2.2.2.1 cq172_0 ≤ 1000000 := gJ.rowl (G := gGG) sS199.1 tcq172_0 rfl
      have G205 : gSg [114] [] [56000, 56001, 56002, 56003, 71007, 71008, 71009, 71010, 71011, 71012, 71013, 71014, 76999, 77999, 78999, 79999, 80999, 81999, 85999, 91004, 91008, 92004, 92008, 93999, 94999, 95999, 96999, 97999, 98999, 99999, 114999] ty h tyq172 hq172 := gSg.ss G173 sS199 (by decide)
      exact gz_end (I := .return_) (len := 1) rfl (Or.inl rfl) ⟨tyq172, G205, cq172_0, trivial, fq172_0, fq172_1, ecq172_0, tcq172_0, rfl, efq172_0, (by omega), (by omega), efq172_1, (by omega), (by omega), (by omega), (by omega), (by dsimp only; omega), (by dsimp only; omega), (by dsimp only; omega), (by dsimp only; omega)⟩
    · refine gy_ifF rfl (by decide) (by decide) (by omega) hc99 ?_
      refine gz_s 2 (pc' := 76) (L' := [some (.ref x), some (.int (zi f)), some (.int (zi t)), some (.int (zi hi)), some (.int (zi lo))]) (S' := [.int (zi 1), .ref x]) rfl ?_
      have hl206 : hq76.2.2.2.1 cq76_0 = hq76.2.2.2.1 cq76_0 := congrFun sS97.2.2.2.2.1 cq76_0
      refine gz_call rfl (by decide) rfl (by decide) (by decide) (gcal_of rfl rfl rfl (Nat.le_of_ble_eq_true rfl) (gJ.recv (G := gGG) sS97.1 t78 rfl rfl)) (cl_putCodes1 _ sS97.1 x t78 1 ⟨by omega, by omega⟩ sk s85 t79 cq76_0 ecq76_0 tcq76_0 fq76_0 efq76_0 ⟨by omega, by omega⟩ (by omega) uq96) (fun q207 _ wq207 => ?_)
      obtain ⟨pq207, oq207, hq207⟩ := q207
      obtain ⟨tyq207, xq207, cq207_0, ttq207, fq207_0, ecq207_0, tcq207_0, gq207, efq207_0, afq207_0, bfq207_0, uq207_0, uq207_1, uq207_2, uq207_3, uq207_4, uq207_5⟩ := wq207
      dsimp only at uq207_2 uq207_3 uq207_4 uq207_5
      refine ⟨_, gq207, ?_⟩
      show gz gPP gGG gcn _ _ 79 [some (.ref x), some (.int (zi f)), some (.int (zi t)), some (.int (zi hi)), some (.int (zi lo))] [] hq207 _
      have G208 : gSg [114] [] [56000, 56001, 56002, 56003, 71007, 71008, 71009, 71010, 71011, 71012, 71013, 71014, 76999, 77999, 78999, 79999, 80999, 81999, 85999, 91004, 91008, 92004, 92008, 93999, 94999, 95999, 96999, 97999, 98999, 99999, 114999] ty h tyq207 hq207 := gSg.tr (gSg.ss G77 sS97 (by decide)) xq207 (by decide) (by decide) (fun x hx => by cases hx)
      have t209 : tyq207 x = 71 := gSg.typ xq207 sS97.1 t78 rfl
      have t210 : tyq207 sk = 56 := gSg.typ xq207 sS97.1 t79 rfl
      have t211 : tyq207 bt = 114 := gSg.typ xq207 sS97.1 t80 rfl
      have hl212 : hq207.2.2.2.1 bt = hq76.2.2.2.1 bt := gSg.len xq207 sS97.1 t80 rfl
      have t213 : tyq207 c27 = 75 := gSg.typ xq207 sS97.1 t82 rfl
      have t214 : tyq207 c31 = 91 := gSg.typ xq207 sS97.1 t83 rfl
      have t215 : tyq207 c46 = 92 := gSg.typ xq207 sS97.1 t84 rfl
      have t216 : tyq207 cq76_0 = 114 := gSg.typ xq207 sS97.1 tcq76_0 rfl
      have hl217 : hq207.2.2.2.1 cq76_0 = hq76.2.2.2.1 cq76_0 := gSg.len xq207 sS97.1 tcq76_0 rfl
      have s218 := gSg.at xq207 sS97.1 t78 rfl (by decide) s85
      have s219 := gSg.at xq207 sS97.1 t78 rfl (by decide) s86
      have s220 := gSg.at xq207 sS97.1 t78 rfl (by decide) s87
      have s221 := gSg.at xq207 sS97.1 t78 rfl (by decide) s88
      have s222 := gSg.at xq207 sS97.1 t78 rfl (by decide) s89
      have s223 := gSg.at xq207 sS97.1 t78 rfl (by decide) s90
      have s224 := gSg.at xq207 sS97.1 t82 rfl (by decide) s91
      have s225 := gSg.at xq207 sS97.1 t82 rfl (by decide) s92
      have s226 := gSg.at xq207 sS97.1 t78 rfl (by decide) s93
      have s227 := gSg.at xq207 sS97.1 t78 rfl (by decide) s94
      have s228 := gSg.at xq207 sS97.1 t78 rfl (by decide) s95
      have s229 := gSg.at xq207 sS97.1 t79 rfl (by decide) efq76_1
      have uq230 := gSg.uq xq207 uq96 (by decide)
      have sS231 : gSs rT 1027 tyq207 [56000, 56001, 56002, 56003, 71007, 71008, 71009, 71010, 71011, 71012, 71013, 71014, 76999, 77999, 78999, 79999, 80999, 81999, 85999, 91004, 91008, 92004, 92008, 93999, 94999, 95999, 96999, 97999, 98999, 99999, 114999] hq207 hq207 := gSs.rf xq207.1
      refine gz_s 1 (pc' := 80) (L' := [some (.ref x), some (.int (zi f)), some (.int (zi t)), some (.int (zi hi)), some (.int (zi lo))]) (S' := [.ref x]) rfl ?_
      have hl232 : hq207.2.2.2.1 cq207_0 = hq207.2.2.2.1 cq207_0 := congrFun sS231.2.2.2.2.1 cq207_0
      refine gz_call rfl (by decide) rfl (by decide) (by decide) (gcal_of rfl rfl rfl (Nat.le_of_ble_eq_true rfl) (gJ.recv (G := gGG) sS231.1 t209 rfl rfl)) (cl_Writer_putScanHead _ sS231.1 x t209 sk s218 t210 cq207_0 ecq207_0 tcq207_0 fq207_0 efq207_0 ⟨by omega, by omega⟩ (by omega) uq230) (fun q233 _ wq233 => ?_)
      obtain ⟨pq233, oq233, hq233⟩ := q233
      obtain ⟨tyq233, xq233, cq233_0, ttq233, fq233_0, ecq233_0, tcq233_0, gq233, efq233_0, afq233_0, bfq233_0, uq233_0, uq233_1, uq233_2, uq233_3, uq233_4⟩ := wq233
      dsimp only at uq233_1 uq233_2 uq233_3 uq233_4
      refine ⟨_, gq233, ?_⟩
      show gz gPP gGG gcn _ _ 83 [some (.ref x), some (.int (zi f)), some (.int (zi t)), some (.int (zi hi)), some (.int (zi lo))] [] hq233 _
      have G234 : gSg [114] [] [56000, 56001, 56002, 56003, 71007, 71008, 71009, 71010, 71011, 71012, 71013, 71014, 76999, 77999, 78999, 79999, 80999, 81999, 85999, 91004, 91008, 92004, 92008, 93999, 94999, 95999, 96999, 97999, 98999, 99999, 114999] ty h tyq233 hq233 := gSg.tr (gSg.ss G208 sS231 (by decide)) xq233 (by decide) (by decide) (fun x hx => by cases hx)
      have t235 : tyq233 x = 71 := gSg.typ xq233 sS231.1 t209 rfl
      have t236 : tyq233 sk = 56 := gSg.typ xq233 sS231.1 t210 rfl
      have t237 : tyq233 bt = 114 := gSg.typ xq233 sS231.1 t211 rfl
      have hl238 : hq233.2.2.2.1 bt = hq207.2.2.2.1 bt := gSg.len xq233 sS231.1 t211 rfl
      have t239 : tyq233 c27 = 75 := gSg.typ xq233 sS231.1 t213 rfl
      have t240 : tyq233 c31 = 91 := gSg.typ xq233 sS231.1 t214 rfl
      have t241 : tyq233 c46 = 92 := gSg.typ xq233 sS231.1 t215 rfl
      have t242 : tyq233 cq76_0 = 114 := gSg.typ xq233 sS231.1 t216 rfl
      have hl243 : hq233.2.2.2.1 cq76_0 = hq207.2.2.2.1 cq76_0 := gSg.len xq233 sS231.1 t216 rfl
      have t244 : tyq233 cq207_0 = 114 := gSg.typ xq233 sS231.1 tcq207_0 rfl
      have hl245 : hq233.2.2.2.1 cq207_0 = hq207.2.2.2.1 cq207_0 := gSg.len xq233 sS231.1 tcq207_0 rfl
      have s246 := gSg.at xq233 sS231.1 t209 rfl (by decide) s218
      have s247 := gSg.at xq233 sS231.1 t209 rfl (by decide) s219
      have s248 := gSg.at xq233 sS231.1 t209 rfl (by decide) s220
      have s249 := gSg.at xq233 sS231.1 t209 rfl (by decide) s221
      have s250 := gSg.at xq233 sS231.1 t209 rfl (by decide) s222
      have s251 := gSg.at xq233 sS231.1 t209 rfl (by decide) s223
      have s252 := gSg.at xq233 sS231.1 t213 rfl (by decide) s224
      have s253 := gSg.at xq233 sS231.1 t213 rfl (by decide) s225
      have s254 := gSg.at xq233 sS231.1 t209 rfl (by decide) s226
      have s255 := gSg.at xq233 sS231.1 t209 rfl (by decide) s227
      have s256 := gSg.at xq233 sS231.1 t209 rfl (by decide) s228
      have s257 := gSg.at xq233 sS231.1 t210 rfl (by decide) s229
      have uq258 := gSg.uq xq233 uq230 (by decide)
      have sS259 : gSs rT 1027 tyq233 [56000, 56001, 56002, 56003, 71007, 71008, 71009, 71010, 71011, 71012, 71013, 71014, 76999, 77999, 78999, 79999, 80999, 81999, 85999, 91004, 91008, 92004, 92008, 93999, 94999, 95999, 96999, 97999, 98999, 99999, 114999] hq233 hq233 := gSs.rf xq233.1
      refine gz_s 2 (pc' := 85) (L' := [some (.ref x), some (.int (zi f)), some (.int (zi t)), some (.int (zi hi)), some (.int (zi lo))]) (S' := [.int (zi 0), .ref x]) rfl ?_
      refine gs_put rfl (by decide) rfl sS259 t235 rfl rfl rfl rfl (Or.inl rfl) (by decide) (by omega) (by omega) (fun h260 sh260 eh260 fh260 => ?_)
      have s261 := (fh260 x 0 (fun q => absurd q.2 (by decide))).trans s246
      have s262 := (fh260 x 7 (fun q => absurd q.2 (by decide))).trans s247
      have s263 := (fh260 x 8 (fun q => absurd q.2 (by decide))).trans s248
      have s264 := (fh260 x 9 (fun q => absurd q.2 (by decide))).trans s249
      have s265 := (fh260 x 10 (fun q => absurd q.2 (by decide))).trans s250
      have s266 := (fh260 x 4 (fun q => absurd q.2 (by decide))).trans s251
      have s267 := (fh260 c27 0 (fun q => absurd (((t239).symm.trans (congrArg tyq233 q.1)).trans t235) (by decide))).trans s252
      have s268 := (fh260 c27 1 (fun q => absurd (((t239).symm.trans (congrArg tyq233 q.1)).trans t235) (by decide))).trans s253
      have s269 := (fh260 x 5 (fun q => absurd q.2 (by decide))).trans s255
      have s270 := (fh260 x 6 (fun q => absurd q.2 (by decide))).trans s256
      have s271 := (fh260 sk 3 (fun q => absurd q.2 (by decide))).trans s257
      have s272 := (fh260 sk 0 (fun q => absurd q.2 (by decide))).trans ecq233_0
      have s273 := (fh260 sk 1 (fun q => absurd q.2 (by decide))).trans efq233_0
      refine gz_s 1 (pc' := 89) (L' := [some (.ref x), some (.int (zi f)), some (.int (zi t)), some (.int (zi hi)), some (.int (zi lo))]) (S' := [.ref x]) rfl ?_
      have k274 := sh260.2.1
      have k274b := sh260.2.2.1
      have hl275 : h260.2.2.2.1 bt = hq233.2.2.2.1 bt := congrFun sh260.2.2.2.2.1 bt
      have hl276 : h260.2.2.2.1 cq76_0 = hq233.2.2.2.1 cq76_0 := congrFun sh260.2.2.2.2.1 cq76_0
      have hl277 : h260.2.2.2.1 cq207_0 = hq233.2.2.2.1 cq207_0 := congrFun sh260.2.2.2.2.1 cq207_0
      have hl278 : h260.2.2.2.1 cq233_0 = hq233.2.2.2.1 cq233_0 := congrFun sh260.2.2.2.2.1 cq233_0
      have hl279 : h260.2.2.2.1 cq233_0 = hq233.2.2.2.1 cq233_0 := congrFun sh260.2.2.2.2.1 cq233_0
      refine gz_call rfl (by decide) rfl (by decide) (by decide) (gcal_of rfl rfl rfl (Nat.le_of_ble_eq_true rfl) (gJ.recv (G := gGG) sh260.1 t235 rfl rfl)) (cl_Writer_putBlocks _ sh260.1 x t235 sk s261 t236 cq233_0 s272 tcq233_0 fq233_0 s273 ⟨by omega, by omega⟩ fq76_1 s271 ⟨by omega, by omega⟩ 0 eh260 ⟨by omega, by omega⟩ f s262 ⟨by omega, by omega⟩ t s263 ⟨by omega, by omega⟩ z74 s269 ⟨by omega, by omega⟩ z75 s270 ⟨by omega, by omega⟩ (by omega) (by omega) (by omega) uq258) (fun q280 _ wq280 => ?_)
      obtain ⟨pq280, oq280, hq280⟩ := q280
      obtain ⟨tyq280, xq280, cq280_0, ttq280, fq280_0, fq280_1, ecq280_0, tcq280_0, gq280, efq280_0, afq280_0, bfq280_0, efq280_1, afq280_1, bfq280_1, uq280_0, uq280_1, uq280_2, uq280_3, uq280_4, uq280_5, uq280_6⟩ := wq280
      dsimp only at uq280_3 uq280_4 uq280_5 uq280_6
      refine ⟨_, gq280, ?_⟩
      show gz gPP gGG gcn _ _ 92 [some (.ref x), some (.int (zi f)), some (.int (zi t)), some (.int (zi hi)), some (.int (zi lo))] [] hq280 _
      have G281 : gSg [114] [] [56000, 56001, 56002, 56003, 71007, 71008, 71009, 71010, 71011, 71012, 71013, 71014, 76999, 77999, 78999, 79999, 80999, 81999, 85999, 91004, 91008, 92004, 92008, 93999, 94999, 95999, 96999, 97999, 98999, 99999, 114999] ty h tyq280 hq280 := gSg.tr (gSg.ss G234 sh260 (by decide)) xq280 (by decide) (by decide) (fun x hx => by cases hx)
      have t282 : tyq280 x = 71 := gSg.typ xq280 sh260.1 t235 rfl
      have t283 : tyq280 sk = 56 := gSg.typ xq280 sh260.1 t236 rfl
      have t284 : tyq280 bt = 114 := gSg.typ xq280 sh260.1 t237 rfl
      have hl285 : hq280.2.2.2.1 bt = h260.2.2.2.1 bt := gSg.len xq280 sh260.1 t237 rfl
      have t286 : tyq280 c27 = 75 := gSg.typ xq280 sh260.1 t239 rfl
      have t287 : tyq280 c31 = 91 := gSg.typ xq280 sh260.1 t240 rfl
      have t288 : tyq280 c46 = 92 := gSg.typ xq280 sh260.1 t241 rfl
      have t289 : tyq280 cq76_0 = 114 := gSg.typ xq280 sh260.1 t242 rfl
      have hl290 : hq280.2.2.2.1 cq76_0 = h260.2.2.2.1 cq76_0 := gSg.len xq280 sh260.1 t242 rfl
      have t291 : tyq280 cq207_0 = 114 := gSg.typ xq280 sh260.1 t244 rfl
      have hl292 : hq280.2.2.2.1 cq207_0 = h260.2.2.2.1 cq207_0 := gSg.len xq280 sh260.1 t244 rfl
      have t293 : tyq280 cq233_0 = 114 := gSg.typ xq280 sh260.1 tcq233_0 rfl
      have hl294 : hq280.2.2.2.1 cq233_0 = h260.2.2.2.1 cq233_0 := gSg.len xq280 sh260.1 tcq233_0 rfl
      have s295 := gSg.at xq280 sh260.1 t235 rfl (by decide) s261
      have s296 := gSg.at xq280 sh260.1 t235 rfl (by decide) s262
      have s297 := gSg.at xq280 sh260.1 t235 rfl (by decide) s263
      have s298 := gSg.at xq280 sh260.1 t235 rfl (by decide) s264
      have s299 := gSg.at xq280 sh260.1 t235 rfl (by decide) s265
      have s300 := gSg.at xq280 sh260.1 t235 rfl (by decide) s266
      have s301 := gSg.at xq280 sh260.1 t239 rfl (by decide) s267
      have s302 := gSg.at xq280 sh260.1 t239 rfl (by decide) s268
      have s303 := gSg.at xq280 sh260.1 t235 rfl (by decide) s269
      have s304 := gSg.at xq280 sh260.1 t235 rfl (by decide) s270
      have s305 := gSg.at xq280 sh260.1 t235 rfl (by decide) eh260
      have uq306 := gSg.uq xq280 uq258 (by decide)
      have sS307 : gSs rT 1027 tyq280 [56000, 56001, 56002, 56003, 71007, 71008, 71009, 71010, 71011, 71012, 71013, 71014, 76999, 77999, 78999, 79999, 80999, 81999, 85999, 91004, 91008, 92004, 92008, 93999, 94999, 95999, 96999, 97999, 98999, 99999, 114999] hq280 hq280 := gSs.rf xq280.1
      refine gz_s 1 (pc' := 93) (L' := [some (.ref x), some (.int (zi f)), some (.int (zi t)), some (.int (zi hi)), some (.int (zi lo))]) (S' := [.ref x]) rfl ?_
      refine gs_gtk rfl (by decide) rfl sS307.1 t282 rfl rfl s295 ?_
      have hl308 : hq280.2.2.2.1 cq280_0 = hq280.2.2.2.1 cq280_0 := congrFun sS307.2.2.2.2.1 cq280_0
      refine gz_call rfl (by decide) rfl (by decide) (by decide) (gcal_of rfl rfl rfl (Nat.le_of_ble_eq_true rfl) (gJ.recv (G := gGG) sS307.1 t283 rfl rfl)) (cl_Sink_fillByte _ sS307.1 sk t283 cq280_0 ecq280_0 tcq280_0 fq280_0 efq280_0 ⟨by omega, by omega⟩ fq280_1 efq280_1 ⟨by omega, by omega⟩ (by omega) (by omega) uq306) (fun q309 _ wq309 => ?_)
      obtain ⟨pq309, oq309, hq309⟩ := q309
      obtain ⟨tyq309, xq309, cq309_0, ttq309, fq309_0, fq309_1, ecq309_0, tcq309_0, gq309, efq309_0, afq309_0, bfq309_0, efq309_1, afq309_1, bfq309_1, uq309_0, uq309_1, uq309_2, uq309_3, uq309_4, uq309_5⟩ := wq309
      dsimp only at uq309_2 uq309_3 uq309_4 uq309_5
      refine ⟨_, gq309, ?_⟩
      show gz gPP gGG gcn _ _ 99 [some (.ref x), some (.int (zi f)), some (.int (zi t)), some (.int (zi hi)), some (.int (zi lo))] [] hq309 _
      have G310 : gSg [114] [] [56000, 56001, 56002, 56003, 71007, 71008, 71009, 71010, 71011, 71012, 71013, 71014, 76999, 77999, 78999, 79999, 80999, 81999, 85999, 91004, 91008, 92004, 92008, 93999, 94999, 95999, 96999, 97999, 98999, 99999, 114999] ty h tyq309 hq309 := gSg.tr (gSg.ss G281 sS307 (by decide)) xq309 (by decide) (by decide) (fun x hx => by cases hx)
      have t311 : tyq309 x = 71 := gSg.typ xq309 sS307.1 t282 rfl
      have t312 : tyq309 sk = 56 := gSg.typ xq309 sS307.1 t283 rfl
      have t313 : tyq309 bt = 114 := gSg.typ xq309 sS307.1 t284 rfl
      have hl314 : hq309.2.2.2.1 bt = hq280.2.2.2.1 bt := gSg.len xq309 sS307.1 t284 rfl
      have t315 : tyq309 c27 = 75 := gSg.typ xq309 sS307.1 t286 rfl
      have t316 : tyq309 c31 = 91 := gSg.typ xq309 sS307.1 t287 rfl
      have t317 : tyq309 c46 = 92 := gSg.typ xq309 sS307.1 t288 rfl
      have t318 : tyq309 cq76_0 = 114 := gSg.typ xq309 sS307.1 t289 rfl
      have hl319 : hq309.2.2.2.1 cq76_0 = hq280.2.2.2.1 cq76_0 := gSg.len xq309 sS307.1 t289 rfl
      have t320 : tyq309 cq207_0 = 114 := gSg.typ xq309 sS307.1 t291 rfl
      have hl321 : hq309.2.2.2.1 cq207_0 = hq280.2.2.2.1 cq207_0 := gSg.len xq309 sS307.1 t291 rfl
      have t322 : tyq309 cq233_0 = 114 := gSg.typ xq309 sS307.1 t293 rfl
      have hl323 : hq309.2.2.2.1 cq233_0 = hq280.2.2.2.1 cq233_0 := gSg.len xq309 sS307.1 t293 rfl
      have t324 : tyq309 cq280_0 = 114 := gSg.typ xq309 sS307.1 tcq280_0 rfl
      have hl325 : hq309.2.2.2.1 cq280_0 = hq280.2.2.2.1 cq280_0 := gSg.len xq309 sS307.1 tcq280_0 rfl
      have s326 := gSg.at xq309 sS307.1 t282 rfl (by decide) s295
      have s327 := gSg.at xq309 sS307.1 t282 rfl (by decide) s296
      have s328 := gSg.at xq309 sS307.1 t282 rfl (by decide) s297
      have s329 := gSg.at xq309 sS307.1 t282 rfl (by decide) s298
      have s330 := gSg.at xq309 sS307.1 t282 rfl (by decide) s299
      have s331 := gSg.at xq309 sS307.1 t282 rfl (by decide) s300
      have s332 := gSg.at xq309 sS307.1 t286 rfl (by decide) s301
      have s333 := gSg.at xq309 sS307.1 t286 rfl (by decide) s302
      have s334 := gSg.at xq309 sS307.1 t282 rfl (by decide) s303
      have s335 := gSg.at xq309 sS307.1 t282 rfl (by decide) s304
      have s336 := gSg.at xq309 sS307.1 t282 rfl (by decide) s305
      have uq337 := gSg.uq xq309 uq306 (by decide)
      have sS338 : gSs rT 1027 tyq309 [56000, 56001, 56002, 56003, 71007, 71008, 71009, 71010, 71011, 71012, 71013, 71014, 76999, 77999, 78999, 79999, 80999, 81999, 85999, 91004, 91008, 92004, 92008, 93999, 94999, 95999, 96999, 97999, 98999, 99999, 114999] hq309 hq309 := gSs.rf xq309.1
      have hl339 : 1024 ≤ hq309.2.2.2.1 bt ∧ hq309.2.2.2.1 bt ≤ 1000000 := gJ.rowl (G := gGG) sS338.1 t313 rfl
      have hl340 : 1024 ≤ hq309.2.2.2.1 cq76_0 ∧ hq309.2.2.2.1 cq76_0 ≤ 1000000 := gJ.rowl (G := gGG) sS338.1 t318 rfl
      have hl341 : 1024 ≤ hq309.2.2.2.1 cq207_0 ∧ hq309.2.2.2.1 cq207_0 ≤ 1000000 := gJ.rowl (G := gGG) sS338.1 t320 rfl
      have hl342 : 1024 ≤ hq309.2.2.2.1 cq233_0 ∧ hq309.2.2.2.1 cq233_0 ≤ 1000000 := gJ.rowl (G := gGG) sS338.1 t322 rfl
      have hl343 : 1024 ≤ hq309.2.2.2.1 cq280_0 ∧ hq309.2.2.2.1 cq280_0 ≤ 1000000 := gJ.rowl (G := gGG) sS338.1 t324 rfl
      have hl344 : 1024 ≤ hq309.2.2.2.1 cq309_0 ∧ hq309.2.2.2.1 cq309_0 ≤ 1000000 := gJ.rowl (G := gGG) sS338.1 tcq309_0 rfl
      have G345 : gSg [114] [] [56000, 56001, 56002, 56003, 71007, 71008, 71009, 71010, 71011, 71012, 71013, 71014, 76999, 77999, 78999, 79999, 80999, 81999, 85999, 91004, 91008, 92004, 92008, 93999, 94999, 95999, 96999, 97999, 98999, 99999, 114999] ty h tyq309 hq309 := gSg.ss G310 sS338 (by decide)
      exact gz_end (I := .return_) (len := 1) rfl (Or.inl rfl) ⟨tyq309, G345, cq309_0, trivial, fq309_0, fq309_1, ecq309_0, tcq309_0, rfl, efq309_0, (by omega), (by omega), efq309_1, (by omega), (by omega), (by omega), (by omega), (by dsimp only; omega), (by dsimp only; omega), (by dsimp only; omega), (by dsimp only; omega)⟩
  · refine gy_ifF rfl (by decide) (by decide) (by omega) hc98 ?_
    refine gz_s 1 (pc' := 56) (L' := [some (.ref x), some (.int (zi f)), some (.int (zi t)), some (.int (zi hi)), some (.int (zi lo))]) (S' := [.ref x]) rfl ?_
    refine gs_gtk rfl (by decide) rfl sS97.1 t78 rfl rfl s88 ?_
    by_cases hc346 : ¬ (hi : Int) = 0
    · refine gy_ifT (pc' := 67) rfl (by decide) (by decide) (by omega) hc346 ?_
      refine gz_s 1 (pc' := 68) (L' := [some (.ref x), some (.int (zi f)), some (.int (zi t)), some (.int (zi hi)), some (.int (zi lo))]) (S' := [.ref x]) rfl ?_
      refine gs_gtk rfl (by decide) rfl sS97.1 t78 rfl rfl s87 ?_
      by_cases hc347 : (t : Int) ≤ 0
      · refine gy_ifT (pc' := 79) rfl (by decide) (by decide) (by omega) hc347 ?_
        refine gz_s 1 (pc' := 80) (L' := [some (.ref x), some (.int (zi f)), some (.int (zi t)), some (.int (zi hi)), some (.int (zi lo))]) (S' := [.ref x]) rfl ?_
        have hl348 : hq76.2.2.2.1 cq76_0 = hq76.2.2.2.1 cq76_0 := congrFun sS97.2.2.2.2.1 cq76_0
        refine gz_call rfl (by decide) rfl (by decide) (by decide) (gcal_of rfl rfl rfl (Nat.le_of_ble_eq_true rfl) (gJ.recv (G := gGG) sS97.1 t78 rfl rfl)) (cl_Writer_putScanHead _ sS97.1 x t78 sk s85 t79 cq76_0 ecq76_0 tcq76_0 fq76_0 efq76_0 ⟨by omega, by omega⟩ (by omega) uq96) (fun q349 _ wq349 => ?_)
        obtain ⟨pq349, oq349, hq349⟩ := q349
        obtain ⟨tyq349, xq349, cq349_0, ttq349, fq349_0, ecq349_0, tcq349_0, gq349, efq349_0, afq349_0, bfq349_0, uq349_0, uq349_1, uq349_2, uq349_3, uq349_4⟩ := wq349
        dsimp only at uq349_1 uq349_2 uq349_3 uq349_4
        refine ⟨_, gq349, ?_⟩
        show gz gPP gGG gcn _ _ 83 [some (.ref x), some (.int (zi f)), some (.int (zi t)), some (.int (zi hi)), some (.int (zi lo))] [] hq349 _
        have G350 : gSg [114] [] [56000, 56001, 56002, 56003, 71007, 71008, 71009, 71010, 71011, 71012, 71013, 71014, 76999, 77999, 78999, 79999, 80999, 81999, 85999, 91004, 91008, 92004, 92008, 93999, 94999, 95999, 96999, 97999, 98999, 99999, 114999] ty h tyq349 hq349 := gSg.tr (gSg.ss G77 sS97 (by decide)) xq349 (by decide) (by decide) (fun x hx => by cases hx)
        have t351 : tyq349 x = 71 := gSg.typ xq349 sS97.1 t78 rfl
        have t352 : tyq349 sk = 56 := gSg.typ xq349 sS97.1 t79 rfl
        have t353 : tyq349 bt = 114 := gSg.typ xq349 sS97.1 t80 rfl
        have hl354 : hq349.2.2.2.1 bt = hq76.2.2.2.1 bt := gSg.len xq349 sS97.1 t80 rfl
        have t355 : tyq349 c27 = 75 := gSg.typ xq349 sS97.1 t82 rfl
        have t356 : tyq349 c31 = 91 := gSg.typ xq349 sS97.1 t83 rfl
        have t357 : tyq349 c46 = 92 := gSg.typ xq349 sS97.1 t84 rfl
        have t358 : tyq349 cq76_0 = 114 := gSg.typ xq349 sS97.1 tcq76_0 rfl
        have hl359 : hq349.2.2.2.1 cq76_0 = hq76.2.2.2.1 cq76_0 := gSg.len xq349 sS97.1 tcq76_0 rfl
        have s360 := gSg.at xq349 sS97.1 t78 rfl (by decide) s85
        have s361 := gSg.at xq349 sS97.1 t78 rfl (by decide) s86
        have s362 := gSg.at xq349 sS97.1 t78 rfl (by decide) s87
        have s363 := gSg.at xq349 sS97.1 t78 rfl (by decide) s88
        have s364 := gSg.at xq349 sS97.1 t78 rfl (by decide) s89
        have s365 := gSg.at xq349 sS97.1 t78 rfl (by decide) s90
        have s366 := gSg.at xq349 sS97.1 t82 rfl (by decide) s91
        have s367 := gSg.at xq349 sS97.1 t82 rfl (by decide) s92
        have s368 := gSg.at xq349 sS97.1 t78 rfl (by decide) s93
        have s369 := gSg.at xq349 sS97.1 t78 rfl (by decide) s94
        have s370 := gSg.at xq349 sS97.1 t78 rfl (by decide) s95
        have s371 := gSg.at xq349 sS97.1 t79 rfl (by decide) efq76_1
        have uq372 := gSg.uq xq349 uq96 (by decide)
        have sS373 : gSs rT 1027 tyq349 [56000, 56001, 56002, 56003, 71007, 71008, 71009, 71010, 71011, 71012, 71013, 71014, 76999, 77999, 78999, 79999, 80999, 81999, 85999, 91004, 91008, 92004, 92008, 93999, 94999, 95999, 96999, 97999, 98999, 99999, 114999] hq349 hq349 := gSs.rf xq349.1
        refine gz_s 2 (pc' := 85) (L' := [some (.ref x), some (.int (zi f)), some (.int (zi t)), some (.int (zi hi)), some (.int (zi lo))]) (S' := [.int (zi 0), .ref x]) rfl ?_
        refine gs_put rfl (by decide) rfl sS373 t351 rfl rfl rfl rfl (Or.inl rfl) (by decide) (by omega) (by omega) (fun h374 sh374 eh374 fh374 => ?_)
        have s375 := (fh374 x 0 (fun q => absurd q.2 (by decide))).trans s360
        have s376 := (fh374 x 7 (fun q => absurd q.2 (by decide))).trans s361
        have s377 := (fh374 x 8 (fun q => absurd q.2 (by decide))).trans s362
        have s378 := (fh374 x 9 (fun q => absurd q.2 (by decide))).trans s363
        have s379 := (fh374 x 10 (fun q => absurd q.2 (by decide))).trans s364
        have s380 := (fh374 x 4 (fun q => absurd q.2 (by decide))).trans s365
        have s381 := (fh374 c27 0 (fun q => absurd (((t355).symm.trans (congrArg tyq349 q.1)).trans t351) (by decide))).trans s366
        have s382 := (fh374 c27 1 (fun q => absurd (((t355).symm.trans (congrArg tyq349 q.1)).trans t351) (by decide))).trans s367
        have s383 := (fh374 x 5 (fun q => absurd q.2 (by decide))).trans s369
        have s384 := (fh374 x 6 (fun q => absurd q.2 (by decide))).trans s370
        have s385 := (fh374 sk 3 (fun q => absurd q.2 (by decide))).trans s371
        have s386 := (fh374 sk 0 (fun q => absurd q.2 (by decide))).trans ecq349_0
        have s387 := (fh374 sk 1 (fun q => absurd q.2 (by decide))).trans efq349_0
        refine gz_s 1 (pc' := 89) (L' := [some (.ref x), some (.int (zi f)), some (.int (zi t)), some (.int (zi hi)), some (.int (zi lo))]) (S' := [.ref x]) rfl ?_
        have k388 := sh374.2.1
        have k388b := sh374.2.2.1
        have hl389 : h374.2.2.2.1 bt = hq349.2.2.2.1 bt := congrFun sh374.2.2.2.2.1 bt
        have hl390 : h374.2.2.2.1 cq76_0 = hq349.2.2.2.1 cq76_0 := congrFun sh374.2.2.2.2.1 cq76_0
        have hl391 : h374.2.2.2.1 cq349_0 = hq349.2.2.2.1 cq349_0 := congrFun sh374.2.2.2.2.1 cq349_0
        have hl392 : h374.2.2.2.1 cq349_0 = hq349.2.2.2.1 cq349_0 := congrFun sh374.2.2.2.2.1 cq349_0
        refine gz_call rfl (by decide) rfl (by decide) (by decide) (gcal_of rfl rfl rfl (Nat.le_of_ble_eq_true rfl) (gJ.recv (G := gGG) sh374.1 t351 rfl rfl)) (cl_Writer_putBlocks _ sh374.1 x t351 sk s375 t352 cq349_0 s386 tcq349_0 fq349_0 s387 ⟨by omega, by omega⟩ fq76_1 s385 ⟨by omega, by omega⟩ 0 eh374 ⟨by omega, by omega⟩ f s376 ⟨by omega, by omega⟩ t s377 ⟨by omega, by omega⟩ z74 s383 ⟨by omega, by omega⟩ z75 s384 ⟨by omega, by omega⟩ (by omega) (by omega) (by omega) uq372) (fun q393 _ wq393 => ?_)
        obtain ⟨pq393, oq393, hq393⟩ := q393
        obtain ⟨tyq393, xq393, cq393_0, ttq393, fq393_0, fq393_1, ecq393_0, tcq393_0, gq393, efq393_0, afq393_0, bfq393_0, efq393_1, afq393_1, bfq393_1, uq393_0, uq393_1, uq393_2, uq393_3, uq393_4, uq393_5, uq393_6⟩ := wq393
        dsimp only at uq393_3 uq393_4 uq393_5 uq393_6
        refine ⟨_, gq393, ?_⟩
        show gz gPP gGG gcn _ _ 92 [some (.ref x), some (.int (zi f)), some (.int (zi t)), some (.int (zi hi)), some (.int (zi lo))] [] hq393 _
        have G394 : gSg [114] [] [56000, 56001, 56002, 56003, 71007, 71008, 71009, 71010, 71011, 71012, 71013, 71014, 76999, 77999, 78999, 79999, 80999, 81999, 85999, 91004, 91008, 92004, 92008, 93999, 94999, 95999, 96999, 97999, 98999, 99999, 114999] ty h tyq393 hq393 := gSg.tr (gSg.ss G350 sh374 (by decide)) xq393 (by decide) (by decide) (fun x hx => by cases hx)
        have t395 : tyq393 x = 71 := gSg.typ xq393 sh374.1 t351 rfl
        have t396 : tyq393 sk = 56 := gSg.typ xq393 sh374.1 t352 rfl
        have t397 : tyq393 bt = 114 := gSg.typ xq393 sh374.1 t353 rfl
        have hl398 : hq393.2.2.2.1 bt = h374.2.2.2.1 bt := gSg.len xq393 sh374.1 t353 rfl
        have t399 : tyq393 c27 = 75 := gSg.typ xq393 sh374.1 t355 rfl
        have t400 : tyq393 c31 = 91 := gSg.typ xq393 sh374.1 t356 rfl
        have t401 : tyq393 c46 = 92 := gSg.typ xq393 sh374.1 t357 rfl
        have t402 : tyq393 cq76_0 = 114 := gSg.typ xq393 sh374.1 t358 rfl
        have hl403 : hq393.2.2.2.1 cq76_0 = h374.2.2.2.1 cq76_0 := gSg.len xq393 sh374.1 t358 rfl
        have t404 : tyq393 cq349_0 = 114 := gSg.typ xq393 sh374.1 tcq349_0 rfl
        have hl405 : hq393.2.2.2.1 cq349_0 = h374.2.2.2.1 cq349_0 := gSg.len xq393 sh374.1 tcq349_0 rfl
        have s406 := gSg.at xq393 sh374.1 t351 rfl (by decide) s375
        have s407 := gSg.at xq393 sh374.1 t351 rfl (by decide) s376
        have s408 := gSg.at xq393 sh374.1 t351 rfl (by decide) s377
        have s409 := gSg.at xq393 sh374.1 t351 rfl (by decide) s378
        have s410 := gSg.at xq393 sh374.1 t351 rfl (by decide) s379
        have s411 := gSg.at xq393 sh374.1 t351 rfl (by decide) s380
        have s412 := gSg.at xq393 sh374.1 t355 rfl (by decide) s381
        have s413 := gSg.at xq393 sh374.1 t355 rfl (by decide) s382
        have s414 := gSg.at xq393 sh374.1 t351 rfl (by decide) s383
        have s415 := gSg.at xq393 sh374.1 t351 rfl (by decide) s384
        have s416 := gSg.at xq393 sh374.1 t351 rfl (by decide) eh374
        have uq417 := gSg.uq xq393 uq372 (by decide)
        have sS418 : gSs rT 1027 tyq393 [56000, 56001, 56002, 56003, 71007, 71008, 71009, 71010, 71011, 71012, 71013, 71014, 76999, 77999, 78999, 79999, 80999, 81999, 85999, 91004, 91008, 92004, 92008, 93999, 94999, 95999, 96999, 97999, 98999, 99999, 114999] hq393 hq393 := gSs.rf xq393.1
        refine gz_s 1 (pc' := 93) (L' := [some (.ref x), some (.int (zi f)), some (.int (zi t)), some (.int (zi hi)), some (.int (zi lo))]) (S' := [.ref x]) rfl ?_
        refine gs_gtk rfl (by decide) rfl sS418.1 t395 rfl rfl s406 ?_
        have hl419 : hq393.2.2.2.1 cq393_0 = hq393.2.2.2.1 cq393_0 := congrFun sS418.2.2.2.2.1 cq393_0
        refine gz_call rfl (by decide) rfl (by decide) (by decide) (gcal_of rfl rfl rfl (Nat.le_of_ble_eq_true rfl) (gJ.recv (G := gGG) sS418.1 t396 rfl rfl)) (cl_Sink_fillByte _ sS418.1 sk t396 cq393_0 ecq393_0 tcq393_0 fq393_0 efq393_0 ⟨by omega, by omega⟩ fq393_1 efq393_1 ⟨by omega, by omega⟩ (by omega) (by omega) uq417) (fun q420 _ wq420 => ?_)
        obtain ⟨pq420, oq420, hq420⟩ := q420
        obtain ⟨tyq420, xq420, cq420_0, ttq420, fq420_0, fq420_1, ecq420_0, tcq420_0, gq420, efq420_0, afq420_0, bfq420_0, efq420_1, afq420_1, bfq420_1, uq420_0, uq420_1, uq420_2, uq420_3, uq420_4, uq420_5⟩ := wq420
        dsimp only at uq420_2 uq420_3 uq420_4 uq420_5
        refine ⟨_, gq420, ?_⟩
        show gz gPP gGG gcn _ _ 99 [some (.ref x), some (.int (zi f)), some (.int (zi t)), some (.int (zi hi)), some (.int (zi lo))] [] hq420 _
        have G421 : gSg [114] [] [56000, 56001, 56002, 56003, 71007, 71008, 71009, 71010, 71011, 71012, 71013, 71014, 76999, 77999, 78999, 79999, 80999, 81999, 85999, 91004, 91008, 92004, 92008, 93999, 94999, 95999, 96999, 97999, 98999, 99999, 114999] ty h tyq420 hq420 := gSg.tr (gSg.ss G394 sS418 (by decide)) xq420 (by decide) (by decide) (fun x hx => by cases hx)
        have t422 : tyq420 x = 71 := gSg.typ xq420 sS418.1 t395 rfl
        have t423 : tyq420 sk = 56 := gSg.typ xq420 sS418.1 t396 rfl
        have t424 : tyq420 bt = 114 := gSg.typ xq420 sS418.1 t397 rfl
        have hl425 : hq420.2.2.2.1 bt = hq393.2.2.2.1 bt := gSg.len xq420 sS418.1 t397 rfl
        have t426 : tyq420 c27 = 75 := gSg.typ xq420 sS418.1 t399 rfl
        have t427 : tyq420 c31 = 91 := gSg.typ xq420 sS418.1 t400 rfl
        have t428 : tyq420 c46 = 92 := gSg.typ xq420 sS418.1 t401 rfl
        have t429 : tyq420 cq76_0 = 114 := gSg.typ xq420 sS418.1 t402 rfl
        have hl430 : hq420.2.2.2.1 cq76_0 = hq393.2.2.2.1 cq76_0 := gSg.len xq420 sS418.1 t402 rfl
        have t431 : tyq420 cq349_0 = 114 := gSg.typ xq420 sS418.1 t404 rfl
        have hl432 : hq420.2.2.2.1 cq349_0 = hq393.2.2.2.1 cq349_0 := gSg.len xq420 sS418.1 t404 rfl
        have t433 : tyq420 cq393_0 = 114 := gSg.typ xq420 sS418.1 tcq393_0 rfl
        have hl434 : hq420.2.2.2.1 cq393_0 = hq393.2.2.2.1 cq393_0 := gSg.len xq420 sS418.1 tcq393_0 rfl
        have s435 := gSg.at xq420 sS418.1 t395 rfl (by decide) s406
        have s436 := gSg.at xq420 sS418.1 t395 rfl (by decide) s407
        have s437 := gSg.at xq420 sS418.1 t395 rfl (by decide) s408
        have s438 := gSg.at xq420 sS418.1 t395 rfl (by decide) s409
        have s439 := gSg.at xq420 sS418.1 t395 rfl (by decide) s410
        have s440 := gSg.at xq420 sS418.1 t395 rfl (by decide) s411
        have s441 := gSg.at xq420 sS418.1 t399 rfl (by decide) s412
        have s442 := gSg.at xq420 sS418.1 t399 rfl (by decide) s413
        have s443 := gSg.at xq420 sS418.1 t395 rfl (by decide) s414
        have s444 := gSg.at xq420 sS418.1 t395 rfl (by decide) s415
        have s445 := gSg.at xq420 sS418.1 t395 rfl (by decide) s416
        have uq446 := gSg.uq xq420 uq417 (by decide)
        have sS447 : gSs rT 1027 tyq420 [56000, 56001, 56002, 56003, 71007, 71008, 71009, 71010, 71011, 71012, 71013, 71014, 76999, 77999, 78999, 79999, 80999, 81999, 85999, 91004, 91008, 92004, 92008, 93999, 94999, 95999, 96999, 97999, 98999, 99999, 114999] hq420 hq420 := gSs.rf xq420.1
        have hl448 : 1024 ≤ hq420.2.2.2.1 bt ∧ hq420.2.2.2.1 bt ≤ 1000000 := gJ.rowl (G := gGG) sS447.1 t424 rfl
        have hl449 : 1024 ≤ hq420.2.2.2.1 cq76_0 ∧ hq420.2.2.2.1 cq76_0 ≤ 1000000 := gJ.rowl (G := gGG) sS447.1 t429 rfl
        have hl450 : 1024 ≤ hq420.2.2.2.1 cq349_0 ∧ hq420.2.2.2.1 cq349_0 ≤ 1000000 := gJ.rowl (G := gGG) sS447.1 t431 rfl
        have hl451 : 1024 ≤ hq420.2.2.2.1 cq393_0 ∧ hq420.2.2.2.1 cq393_0 ≤ 1000000 := gJ.rowl (G := gGG) sS447.1 t433 rfl
        have hl452 : 1024 ≤ hq420.2.2.2.1 cq420_0 ∧ hq420.2.2.2.1 cq420_0 ≤ 1000000 := gJ.rowl (G := gGG) sS447.1 tcq420_0 rfl
        have G453 : gSg [114] [] [56000, 56001, 56002, 56003, 71007, 71008, 71009, 71010, 71011, 71012, 71013, 71014, 76999, 77999, 78999, 79999, 80999, 81999, 85999, 91004, 91008, 92004, 92008, 93999, 94999, 95999, 96999, 97999, 98999, 99999, 114999] ty h tyq420 hq420 := gSg.ss G421 sS447 (by decide)
        exact gz_end (I := .return_) (len := 1) rfl (Or.inl rfl) ⟨tyq420, G453, cq420_0, trivial, fq420_0, fq420_1, ecq420_0, tcq420_0, rfl, efq420_0, (by omega), (by omega), efq420_1, (by omega), (by omega), (by omega), (by omega), (by dsimp only; omega), (by dsimp only; omega), (by dsimp only; omega), (by dsimp only; omega)⟩
      · refine gy_ifF rfl (by decide) (by decide) (by omega) hc347 ?_
        refine gz_s 2 (pc' := 76) (L' := [some (.ref x), some (.int (zi f)), some (.int (zi t)), some (.int (zi hi)), some (.int (zi lo))]) (S' := [.int (zi 1), .ref x]) rfl ?_
        have hl454 : hq76.2.2.2.1 cq76_0 = hq76.2.2.2.1 cq76_0 := congrFun sS97.2.2.2.2.1 cq76_0
        refine gz_call rfl (by decide) rfl (by decide) (by decide) (gcal_of rfl rfl rfl (Nat.le_of_ble_eq_true rfl) (gJ.recv (G := gGG) sS97.1 t78 rfl rfl)) (cl_putCodes1 _ sS97.1 x t78 1 ⟨by omega, by omega⟩ sk s85 t79 cq76_0 ecq76_0 tcq76_0 fq76_0 efq76_0 ⟨by omega, by omega⟩ (by omega) uq96) (fun q455 _ wq455 => ?_)
        obtain ⟨pq455, oq455, hq455⟩ := q455
        obtain ⟨tyq455, xq455, cq455_0, ttq455, fq455_0, ecq455_0, tcq455_0, gq455, efq455_0, afq455_0, bfq455_0, uq455_0, uq455_1, uq455_2, uq455_3, uq455_4, uq455_5⟩ := wq455
        dsimp only at uq455_2 uq455_3 uq455_4 uq455_5
        refine ⟨_, gq455, ?_⟩
        show gz gPP gGG gcn _ _ 79 [some (.ref x), some (.int (zi f)), some (.int (zi t)), some (.int (zi hi)), some (.int (zi lo))] [] hq455 _
        have G456 : gSg [114] [] [56000, 56001, 56002, 56003, 71007, 71008, 71009, 71010, 71011, 71012, 71013, 71014, 76999, 77999, 78999, 79999, 80999, 81999, 85999, 91004, 91008, 92004, 92008, 93999, 94999, 95999, 96999, 97999, 98999, 99999, 114999] ty h tyq455 hq455 := gSg.tr (gSg.ss G77 sS97 (by decide)) xq455 (by decide) (by decide) (fun x hx => by cases hx)
        have t457 : tyq455 x = 71 := gSg.typ xq455 sS97.1 t78 rfl
        have t458 : tyq455 sk = 56 := gSg.typ xq455 sS97.1 t79 rfl
        have t459 : tyq455 bt = 114 := gSg.typ xq455 sS97.1 t80 rfl
        have hl460 : hq455.2.2.2.1 bt = hq76.2.2.2.1 bt := gSg.len xq455 sS97.1 t80 rfl
        have t461 : tyq455 c27 = 75 := gSg.typ xq455 sS97.1 t82 rfl
        have t462 : tyq455 c31 = 91 := gSg.typ xq455 sS97.1 t83 rfl
        have t463 : tyq455 c46 = 92 := gSg.typ xq455 sS97.1 t84 rfl
        have t464 : tyq455 cq76_0 = 114 := gSg.typ xq455 sS97.1 tcq76_0 rfl
        have hl465 : hq455.2.2.2.1 cq76_0 = hq76.2.2.2.1 cq76_0 := gSg.len xq455 sS97.1 tcq76_0 rfl
        have s466 := gSg.at xq455 sS97.1 t78 rfl (by decide) s85
        have s467 := gSg.at xq455 sS97.1 t78 rfl (by decide) s86
        have s468 := gSg.at xq455 sS97.1 t78 rfl (by decide) s87
        have s469 := gSg.at xq455 sS97.1 t78 rfl (by decide) s88
        have s470 := gSg.at xq455 sS97.1 t78 rfl (by decide) s89
        have s471 := gSg.at xq455 sS97.1 t78 rfl (by decide) s90
        have s472 := gSg.at xq455 sS97.1 t82 rfl (by decide) s91
        have s473 := gSg.at xq455 sS97.1 t82 rfl (by decide) s92
        have s474 := gSg.at xq455 sS97.1 t78 rfl (by decide) s93
        have s475 := gSg.at xq455 sS97.1 t78 rfl (by decide) s94
        have s476 := gSg.at xq455 sS97.1 t78 rfl (by decide) s95
        have s477 := gSg.at xq455 sS97.1 t79 rfl (by decide) efq76_1
        have uq478 := gSg.uq xq455 uq96 (by decide)
        have sS479 : gSs rT 1027 tyq455 [56000, 56001, 56002, 56003, 71007, 71008, 71009, 71010, 71011, 71012, 71013, 71014, 76999, 77999, 78999, 79999, 80999, 81999, 85999, 91004, 91008, 92004, 92008, 93999, 94999, 95999, 96999, 97999, 98999, 99999, 114999] hq455 hq455 := gSs.rf xq455.1
        refine gz_s 1 (pc' := 80) (L' := [some (.ref x), some (.int (zi f)), some (.int (zi t)), some (.int (zi hi)), some (.int (zi lo))]) (S' := [.ref x]) rfl ?_
        have hl480 : hq455.2.2.2.1 cq455_0 = hq455.2.2.2.1 cq455_0 := congrFun sS479.2.2.2.2.1 cq455_0
        refine gz_call rfl (by decide) rfl (by decide) (by decide) (gcal_of rfl rfl rfl (Nat.le_of_ble_eq_true rfl) (gJ.recv (G := gGG) sS479.1 t457 rfl rfl)) (cl_Writer_putScanHead _ sS479.1 x t457 sk s466 t458 cq455_0 ecq455_0 tcq455_0 fq455_0 efq455_0 ⟨by omega, by omega⟩ (by omega) uq478) (fun q481 _ wq481 => ?_)
        obtain ⟨pq481, oq481, hq481⟩ := q481
        obtain ⟨tyq481, xq481, cq481_0, ttq481, fq481_0, ecq481_0, tcq481_0, gq481, efq481_0, afq481_0, bfq481_0, uq481_0, uq481_1, uq481_2, uq481_3, uq481_4⟩ := wq481
        dsimp only at uq481_1 uq481_2 uq481_3 uq481_4
        refine ⟨_, gq481, ?_⟩
        show gz gPP gGG gcn _ _ 83 [some (.ref x), some (.int (zi f)), some (.int (zi t)), some (.int (zi hi)), some (.int (zi lo))] [] hq481 _
        have G482 : gSg [114] [] [56000, 56001, 56002, 56003, 71007, 71008, 71009, 71010, 71011, 71012, 71013, 71014, 76999, 77999, 78999, 79999, 80999, 81999, 85999, 91004, 91008, 92004, 92008, 93999, 94999, 95999, 96999, 97999, 98999, 99999, 114999] ty h tyq481 hq481 := gSg.tr (gSg.ss G456 sS479 (by decide)) xq481 (by decide) (by decide) (fun x hx => by cases hx)
        have t483 : tyq481 x = 71 := gSg.typ xq481 sS479.1 t457 rfl
        have t484 : tyq481 sk = 56 := gSg.typ xq481 sS479.1 t458 rfl
        have t485 : tyq481 bt = 114 := gSg.typ xq481 sS479.1 t459 rfl
        have hl486 : hq481.2.2.2.1 bt = hq455.2.2.2.1 bt := gSg.len xq481 sS479.1 t459 rfl
        have t487 : tyq481 c27 = 75 := gSg.typ xq481 sS479.1 t461 rfl
        have t488 : tyq481 c31 = 91 := gSg.typ xq481 sS479.1 t462 rfl
        have t489 : tyq481 c46 = 92 := gSg.typ xq481 sS479.1 t463 rfl
        have t490 : tyq481 cq76_0 = 114 := gSg.typ xq481 sS479.1 t464 rfl
        have hl491 : hq481.2.2.2.1 cq76_0 = hq455.2.2.2.1 cq76_0 := gSg.len xq481 sS479.1 t464 rfl
        have t492 : tyq481 cq455_0 = 114 := gSg.typ xq481 sS479.1 tcq455_0 rfl
        have hl493 : hq481.2.2.2.1 cq455_0 = hq455.2.2.2.1 cq455_0 := gSg.len xq481 sS479.1 tcq455_0 rfl
        have s494 := gSg.at xq481 sS479.1 t457 rfl (by decide) s466
        have s495 := gSg.at xq481 sS479.1 t457 rfl (by decide) s467
        have s496 := gSg.at xq481 sS479.1 t457 rfl (by decide) s468
        have s497 := gSg.at xq481 sS479.1 t457 rfl (by decide) s469
        have s498 := gSg.at xq481 sS479.1 t457 rfl (by decide) s470
        have s499 := gSg.at xq481 sS479.1 t457 rfl (by decide) s471
        have s500 := gSg.at xq481 sS479.1 t461 rfl (by decide) s472
        have s501 := gSg.at xq481 sS479.1 t461 rfl (by decide) s473
        have s502 := gSg.at xq481 sS479.1 t457 rfl (by decide) s474
        have s503 := gSg.at xq481 sS479.1 t457 rfl (by decide) s475
        have s504 := gSg.at xq481 sS479.1 t457 rfl (by decide) s476
        have s505 := gSg.at xq481 sS479.1 t458 rfl (by decide) s477
        have uq506 := gSg.uq xq481 uq478 (by decide)
        have sS507 : gSs rT 1027 tyq481 [56000, 56001, 56002, 56003, 71007, 71008, 71009, 71010, 71011, 71012, 71013, 71014, 76999, 77999, 78999, 79999, 80999, 81999, 85999, 91004, 91008, 92004, 92008, 93999, 94999, 95999, 96999, 97999, 98999, 99999, 114999] hq481 hq481 := gSs.rf xq481.1
        refine gz_s 2 (pc' := 85) (L' := [some (.ref x), some (.int (zi f)), some (.int (zi t)), some (.int (zi hi)), some (.int (zi lo))]) (S' := [.int (zi 0), .ref x]) rfl ?_
        refine gs_put rfl (by decide) rfl sS507 t483 rfl rfl rfl rfl (Or.inl rfl) (by decide) (by omega) (by omega) (fun h508 sh508 eh508 fh508 => ?_)
        have s509 := (fh508 x 0 (fun q => absurd q.2 (by decide))).trans s494
        have s510 := (fh508 x 7 (fun q => absurd q.2 (by decide))).trans s495
        have s511 := (fh508 x 8 (fun q => absurd q.2 (by decide))).trans s496
        have s512 := (fh508 x 9 (fun q => absurd q.2 (by decide))).trans s497
        have s513 := (fh508 x 10 (fun q => absurd q.2 (by decide))).trans s498
        have s514 := (fh508 x 4 (fun q => absurd q.2 (by decide))).trans s499
        have s515 := (fh508 c27 0 (fun q => absurd (((t487).symm.trans (congrArg tyq481 q.1)).trans t483) (by decide))).trans s500
        have s516 := (fh508 c27 1 (fun q => absurd (((t487).symm.trans (congrArg tyq481 q.1)).trans t483) (by decide))).trans s501
        have s517 := (fh508 x 5 (fun q => absurd q.2 (by decide))).trans s503
        have s518 := (fh508 x 6 (fun q => absurd q.2 (by decide))).trans s504
        have s519 := (fh508 sk 3 (fun q => absurd q.2 (by decide))).trans s505
        have s520 := (fh508 sk 0 (fun q => absurd q.2 (by decide))).trans ecq481_0
        have s521 := (fh508 sk 1 (fun q => absurd q.2 (by decide))).trans efq481_0
        refine gz_s 1 (pc' := 89) (L' := [some (.ref x), some (.int (zi f)), some (.int (zi t)), some (.int (zi hi)), some (.int (zi lo))]) (S' := [.ref x]) rfl ?_
        have k522 := sh508.2.1
        have k522b := sh508.2.2.1
        have hl523 : h508.2.2.2.1 bt = hq481.2.2.2.1 bt := congrFun sh508.2.2.2.2.1 bt
        have hl524 : h508.2.2.2.1 cq76_0 = hq481.2.2.2.1 cq76_0 := congrFun sh508.2.2.2.2.1 cq76_0
        have hl525 : h508.2.2.2.1 cq455_0 = hq481.2.2.2.1 cq455_0 := congrFun sh508.2.2.2.2.1 cq455_0
        have hl526 : h508.2.2.2.1 cq481_0 = hq481.2.2.2.1 cq481_0 := congrFun sh508.2.2.2.2.1 cq481_0
        have hl527 : h508.2.2.2.1 cq481_0 = hq481.2.2.2.1 cq481_0 := congrFun sh508.2.2.2.2.1 cq481_0
        refine gz_call rfl (by decide) rfl (by decide) (by decide) (gcal_of rfl rfl rfl (Nat.le_of_ble_eq_true rfl) (gJ.recv (G := gGG) sh508.1 t483 rfl rfl)) (cl_Writer_putBlocks _ sh508.1 x t483 sk s509 t484 cq481_0 s520 tcq481_0 fq481_0 s521 ⟨by omega, by omega⟩ fq76_1 s519 ⟨by omega, by omega⟩ 0 eh508 ⟨by omega, by omega⟩ f s510 ⟨by omega, by omega⟩ t s511 ⟨by omega, by omega⟩ z74 s517 ⟨by omega, by omega⟩ z75 s518 ⟨by omega, by omega⟩ (by omega) (by omega) (by omega) uq506) (fun q528 _ wq528 => ?_)
        obtain ⟨pq528, oq528, hq528⟩ := q528
        obtain ⟨tyq528, xq528, cq528_0, ttq528, fq528_0, fq528_1, ecq528_0, tcq528_0, gq528, efq528_0, afq528_0, bfq528_0, efq528_1, afq528_1, bfq528_1, uq528_0, uq528_1, uq528_2, uq528_3, uq528_4, uq528_5, uq528_6⟩ := wq528
        dsimp only at uq528_3 uq528_4 uq528_5 uq528_6
        refine ⟨_, gq528, ?_⟩
        show gz gPP gGG gcn _ _ 92 [some (.ref x), some (.int (zi f)), some (.int (zi t)), some (.int (zi hi)), some (.int (zi lo))] [] hq528 _
        have G529 : gSg [114] [] [56000, 56001, 56002, 56003, 71007, 71008, 71009, 71010, 71011, 71012, 71013, 71014, 76999, 77999, 78999, 79999, 80999, 81999, 85999, 91004, 91008, 92004, 92008, 93999, 94999, 95999, 96999, 97999, 98999, 99999, 114999] ty h tyq528 hq528 := gSg.tr (gSg.ss G482 sh508 (by decide)) xq528 (by decide) (by decide) (fun x hx => by cases hx)
        have t530 : tyq528 x = 71 := gSg.typ xq528 sh508.1 t483 rfl
        have t531 : tyq528 sk = 56 := gSg.typ xq528 sh508.1 t484 rfl
        have t532 : tyq528 bt = 114 := gSg.typ xq528 sh508.1 t485 rfl
        have hl533 : hq528.2.2.2.1 bt = h508.2.2.2.1 bt := gSg.len xq528 sh508.1 t485 rfl
        have t534 : tyq528 c27 = 75 := gSg.typ xq528 sh508.1 t487 rfl
        have t535 : tyq528 c31 = 91 := gSg.typ xq528 sh508.1 t488 rfl
        have t536 : tyq528 c46 = 92 := gSg.typ xq528 sh508.1 t489 rfl
        have t537 : tyq528 cq76_0 = 114 := gSg.typ xq528 sh508.1 t490 rfl
        have hl538 : hq528.2.2.2.1 cq76_0 = h508.2.2.2.1 cq76_0 := gSg.len xq528 sh508.1 t490 rfl
        have t539 : tyq528 cq455_0 = 114 := gSg.typ xq528 sh508.1 t492 rfl
        have hl540 : hq528.2.2.2.1 cq455_0 = h508.2.2.2.1 cq455_0 := gSg.len xq528 sh508.1 t492 rfl
        have t541 : tyq528 cq481_0 = 114 := gSg.typ xq528 sh508.1 tcq481_0 rfl
        have hl542 : hq528.2.2.2.1 cq481_0 = h508.2.2.2.1 cq481_0 := gSg.len xq528 sh508.1 tcq481_0 rfl
        have s543 := gSg.at xq528 sh508.1 t483 rfl (by decide) s509
        have s544 := gSg.at xq528 sh508.1 t483 rfl (by decide) s510
        have s545 := gSg.at xq528 sh508.1 t483 rfl (by decide) s511
        have s546 := gSg.at xq528 sh508.1 t483 rfl (by decide) s512
        have s547 := gSg.at xq528 sh508.1 t483 rfl (by decide) s513
        have s548 := gSg.at xq528 sh508.1 t483 rfl (by decide) s514
        have s549 := gSg.at xq528 sh508.1 t487 rfl (by decide) s515
        have s550 := gSg.at xq528 sh508.1 t487 rfl (by decide) s516
        have s551 := gSg.at xq528 sh508.1 t483 rfl (by decide) s517
        have s552 := gSg.at xq528 sh508.1 t483 rfl (by decide) s518
        have s553 := gSg.at xq528 sh508.1 t483 rfl (by decide) eh508
        have uq554 := gSg.uq xq528 uq506 (by decide)
        have sS555 : gSs rT 1027 tyq528 [56000, 56001, 56002, 56003, 71007, 71008, 71009, 71010, 71011, 71012, 71013, 71014, 76999, 77999, 78999, 79999, 80999, 81999, 85999, 91004, 91008, 92004, 92008, 93999, 94999, 95999, 96999, 97999, 98999, 99999, 114999] hq528 hq528 := gSs.rf xq528.1
        refine gz_s 1 (pc' := 93) (L' := [some (.ref x), some (.int (zi f)), some (.int (zi t)), some (.int (zi hi)), some (.int (zi lo))]) (S' := [.ref x]) rfl ?_
        refine gs_gtk rfl (by decide) rfl sS555.1 t530 rfl rfl s543 ?_
        have hl556 : hq528.2.2.2.1 cq528_0 = hq528.2.2.2.1 cq528_0 := congrFun sS555.2.2.2.2.1 cq528_0
        refine gz_call rfl (by decide) rfl (by decide) (by decide) (gcal_of rfl rfl rfl (Nat.le_of_ble_eq_true rfl) (gJ.recv (G := gGG) sS555.1 t531 rfl rfl)) (cl_Sink_fillByte _ sS555.1 sk t531 cq528_0 ecq528_0 tcq528_0 fq528_0 efq528_0 ⟨by omega, by omega⟩ fq528_1 efq528_1 ⟨by omega, by omega⟩ (by omega) (by omega) uq554) (fun q557 _ wq557 => ?_)
        obtain ⟨pq557, oq557, hq557⟩ := q557
        obtain ⟨tyq557, xq557, cq557_0, ttq557, fq557_0, fq557_1, ecq557_0, tcq557_0, gq557, efq557_0, afq557_0, bfq557_0, efq557_1, afq557_1, bfq557_1, uq557_0, uq557_1, uq557_2, uq557_3, uq557_4, uq557_5⟩ := wq557
        dsimp only at uq557_2 uq557_3 uq557_4 uq557_5
        refine ⟨_, gq557, ?_⟩
        show gz gPP gGG gcn _ _ 99 [some (.ref x), some (.int (zi f)), some (.int (zi t)), some (.int (zi hi)), some (.int (zi lo))] [] hq557 _
        have G558 : gSg [114] [] [56000, 56001, 56002, 56003, 71007, 71008, 71009, 71010, 71011, 71012, 71013, 71014, 76999, 77999, 78999, 79999, 80999, 81999, 85999, 91004, 91008, 92004, 92008, 93999, 94999, 95999, 96999, 97999, 98999, 99999, 114999] ty h tyq557 hq557 := gSg.tr (gSg.ss G529 sS555 (by decide)) xq557 (by decide) (by decide) (fun x hx => by cases hx)
        have t559 : tyq557 x = 71 := gSg.typ xq557 sS555.1 t530 rfl
        have t560 : tyq557 sk = 56 := gSg.typ xq557 sS555.1 t531 rfl
        have t561 : tyq557 bt = 114 := gSg.typ xq557 sS555.1 t532 rfl
        have hl562 : hq557.2.2.2.1 bt = hq528.2.2.2.1 bt := gSg.len xq557 sS555.1 t532 rfl
        have t563 : tyq557 c27 = 75 := gSg.typ xq557 sS555.1 t534 rfl
        have t564 : tyq557 c31 = 91 := gSg.typ xq557 sS555.1 t535 rfl
        have t565 : tyq557 c46 = 92 := gSg.typ xq557 sS555.1 t536 rfl
        have t566 : tyq557 cq76_0 = 114 := gSg.typ xq557 sS555.1 t537 rfl
        have hl567 : hq557.2.2.2.1 cq76_0 = hq528.2.2.2.1 cq76_0 := gSg.len xq557 sS555.1 t537 rfl
        have t568 : tyq557 cq455_0 = 114 := gSg.typ xq557 sS555.1 t539 rfl
        have hl569 : hq557.2.2.2.1 cq455_0 = hq528.2.2.2.1 cq455_0 := gSg.len xq557 sS555.1 t539 rfl
        have t570 : tyq557 cq481_0 = 114 := gSg.typ xq557 sS555.1 t541 rfl
        have hl571 : hq557.2.2.2.1 cq481_0 = hq528.2.2.2.1 cq481_0 := gSg.len xq557 sS555.1 t541 rfl
        have t572 : tyq557 cq528_0 = 114 := gSg.typ xq557 sS555.1 tcq528_0 rfl
        have hl573 : hq557.2.2.2.1 cq528_0 = hq528.2.2.2.1 cq528_0 := gSg.len xq557 sS555.1 tcq528_0 rfl
        have s574 := gSg.at xq557 sS555.1 t530 rfl (by decide) s543
        have s575 := gSg.at xq557 sS555.1 t530 rfl (by decide) s544
        have s576 := gSg.at xq557 sS555.1 t530 rfl (by decide) s545
        have s577 := gSg.at xq557 sS555.1 t530 rfl (by decide) s546
        have s578 := gSg.at xq557 sS555.1 t530 rfl (by decide) s547
        have s579 := gSg.at xq557 sS555.1 t530 rfl (by decide) s548
        have s580 := gSg.at xq557 sS555.1 t534 rfl (by decide) s549
        have s581 := gSg.at xq557 sS555.1 t534 rfl (by decide) s550
        have s582 := gSg.at xq557 sS555.1 t530 rfl (by decide) s551
        have s583 := gSg.at xq557 sS555.1 t530 rfl (by decide) s552
        have s584 := gSg.at xq557 sS555.1 t530 rfl (by decide) s553
        have uq585 := gSg.uq xq557 uq554 (by decide)
        have sS586 : gSs rT 1027 tyq557 [56000, 56001, 56002, 56003, 71007, 71008, 71009, 71010, 71011, 71012, 71013, 71014, 76999, 77999, 78999, 79999, 80999, 81999, 85999, 91004, 91008, 92004, 92008, 93999, 94999, 95999, 96999, 97999, 98999, 99999, 114999] hq557 hq557 := gSs.rf xq557.1
        have hl587 : 1024 ≤ hq557.2.2.2.1 bt ∧ hq557.2.2.2.1 bt ≤ 1000000 := gJ.rowl (G := gGG) sS586.1 t561 rfl
        have hl588 : 1024 ≤ hq557.2.2.2.1 cq76_0 ∧ hq557.2.2.2.1 cq76_0 ≤ 1000000 := gJ.rowl (G := gGG) sS586.1 t566 rfl
        have hl589 : 1024 ≤ hq557.2.2.2.1 cq455_0 ∧ hq557.2.2.2.1 cq455_0 ≤ 1000000 := gJ.rowl (G := gGG) sS586.1 t568 rfl
        have hl590 : 1024 ≤ hq557.2.2.2.1 cq481_0 ∧ hq557.2.2.2.1 cq481_0 ≤ 1000000 := gJ.rowl (G := gGG) sS586.1 t570 rfl
        have hl591 : 1024 ≤ hq557.2.2.2.1 cq528_0 ∧ hq557.2.2.2.1 cq528_0 ≤ 1000000 := gJ.rowl (G := gGG) sS586.1 t572 rfl
        have hl592 : 1024 ≤ hq557.2.2.2.1 cq557_0 ∧ hq557.2.2.2.1 cq557_0 ≤ 1000000 := gJ.rowl (G := gGG) sS586.1 tcq557_0 rfl
        have G593 : gSg [114] [] [56000, 56001, 56002, 56003, 71007, 71008, 71009, 71010, 71011, 71012, 71013, 71014, 76999, 77999, 78999, 79999, 80999, 81999, 85999, 91004, 91008, 92004, 92008, 93999, 94999, 95999, 96999, 97999, 98999, 99999, 114999] ty h tyq557 hq557 := gSg.ss G558 sS586 (by decide)
        exact gz_end (I := .return_) (len := 1) rfl (Or.inl rfl) ⟨tyq557, G593, cq557_0, trivial, fq557_0, fq557_1, ecq557_0, tcq557_0, rfl, efq557_0, (by omega), (by omega), efq557_1, (by omega), (by omega), (by omega), (by omega), (by dsimp only; omega), (by dsimp only; omega), (by dsimp only; omega), (by dsimp only; omega)⟩
    · refine gy_ifF rfl (by decide) (by decide) (by omega) hc346 ?_
      refine gz_s 2 (pc' := 64) (L' := [some (.ref x), some (.int (zi f)), some (.int (zi t)), some (.int (zi hi)), some (.int (zi lo))]) (S' := [.int (zi 0), .ref x]) rfl ?_
      have hl594 : hq76.2.2.2.1 cq76_0 = hq76.2.2.2.1 cq76_0 := congrFun sS97.2.2.2.2.1 cq76_0
      refine gz_call rfl (by decide) rfl (by decide) (by decide) (gcal_of rfl rfl rfl (Nat.le_of_ble_eq_true rfl) (gJ.recv (G := gGG) sS97.1 t78 rfl rfl)) (cl_putCodes0 _ sS97.1 x t78 0 ⟨by omega, by omega⟩ sk s85 t79 cq76_0 ecq76_0 tcq76_0 fq76_0 efq76_0 ⟨by omega, by omega⟩ (by omega) uq96) (fun q595 _ wq595 => ?_)
      obtain ⟨pq595, oq595, hq595⟩ := q595
      obtain ⟨tyq595, xq595, cq595_0, ttq595, fq595_0, ecq595_0, tcq595_0, gq595, efq595_0, afq595_0, bfq595_0, uq595_0, uq595_1, uq595_2, uq595_3, uq595_4, uq595_5⟩ := wq595
      dsimp only at uq595_2 uq595_3 uq595_4 uq595_5
      refine ⟨_, gq595, ?_⟩
      show gz gPP gGG gcn _ _ 67 [some (.ref x), some (.int (zi f)), some (.int (zi t)), some (.int (zi hi)), some (.int (zi lo))] [] hq595 _
      have G596 : gSg [114] [] [56000, 56001, 56002, 56003, 71007, 71008, 71009, 71010, 71011, 71012, 71013, 71014, 76999, 77999, 78999, 79999, 80999, 81999, 85999, 91004, 91008, 92004, 92008, 93999, 94999, 95999, 96999, 97999, 98999, 99999, 114999] ty h tyq595 hq595 := gSg.tr (gSg.ss G77 sS97 (by decide)) xq595 (by decide) (by decide) (fun x hx => by cases hx)
      have t597 : tyq595 x = 71 := gSg.typ xq595 sS97.1 t78 rfl
      have t598 : tyq595 sk = 56 := gSg.typ xq595 sS97.1 t79 rfl
      have t599 : tyq595 bt = 114 := gSg.typ xq595 sS97.1 t80 rfl
      have hl600 : hq595.2.2.2.1 bt = hq76.2.2.2.1 bt := gSg.len xq595 sS97.1 t80 rfl
      have t601 : tyq595 c27 = 75 := gSg.typ xq595 sS97.1 t82 rfl
      have t602 : tyq595 c31 = 91 := gSg.typ xq595 sS97.1 t83 rfl
      have t603 : tyq595 c46 = 92 := gSg.typ xq595 sS97.1 t84 rfl
      have t604 : tyq595 cq76_0 = 114 := gSg.typ xq595 sS97.1 tcq76_0 rfl
      have hl605 : hq595.2.2.2.1 cq76_0 = hq76.2.2.2.1 cq76_0 := gSg.len xq595 sS97.1 tcq76_0 rfl
      have s606 := gSg.at xq595 sS97.1 t78 rfl (by decide) s85
      have s607 := gSg.at xq595 sS97.1 t78 rfl (by decide) s86
      have s608 := gSg.at xq595 sS97.1 t78 rfl (by decide) s87
      have s609 := gSg.at xq595 sS97.1 t78 rfl (by decide) s88
      have s610 := gSg.at xq595 sS97.1 t78 rfl (by decide) s89
      have s611 := gSg.at xq595 sS97.1 t78 rfl (by decide) s90
      have s612 := gSg.at xq595 sS97.1 t82 rfl (by decide) s91
      have s613 := gSg.at xq595 sS97.1 t82 rfl (by decide) s92
      have s614 := gSg.at xq595 sS97.1 t78 rfl (by decide) s93
      have s615 := gSg.at xq595 sS97.1 t78 rfl (by decide) s94
      have s616 := gSg.at xq595 sS97.1 t78 rfl (by decide) s95
      have s617 := gSg.at xq595 sS97.1 t79 rfl (by decide) efq76_1
      have uq618 := gSg.uq xq595 uq96 (by decide)
      have sS619 : gSs rT 1027 tyq595 [56000, 56001, 56002, 56003, 71007, 71008, 71009, 71010, 71011, 71012, 71013, 71014, 76999, 77999, 78999, 79999, 80999, 81999, 85999, 91004, 91008, 92004, 92008, 93999, 94999, 95999, 96999, 97999, 98999, 99999, 114999] hq595 hq595 := gSs.rf xq595.1
      refine gz_s 1 (pc' := 68) (L' := [some (.ref x), some (.int (zi f)), some (.int (zi t)), some (.int (zi hi)), some (.int (zi lo))]) (S' := [.ref x]) rfl ?_
      refine gs_gtk rfl (by decide) rfl sS619.1 t597 rfl rfl s608 ?_
      by_cases hc620 : (t : Int) ≤ 0
      · refine gy_ifT (pc' := 79) rfl (by decide) (by decide) (by omega) hc620 ?_
        refine gz_s 1 (pc' := 80) (L' := [some (.ref x), some (.int (zi f)), some (.int (zi t)), some (.int (zi hi)), some (.int (zi lo))]) (S' := [.ref x]) rfl ?_
        have hl621 : hq595.2.2.2.1 cq595_0 = hq595.2.2.2.1 cq595_0 := congrFun sS619.2.2.2.2.1 cq595_0
        refine gz_call rfl (by decide) rfl (by decide) (by decide) (gcal_of rfl rfl rfl (Nat.le_of_ble_eq_true rfl) (gJ.recv (G := gGG) sS619.1 t597 rfl rfl)) (cl_Writer_putScanHead _ sS619.1 x t597 sk s606 t598 cq595_0 ecq595_0 tcq595_0 fq595_0 efq595_0 ⟨by omega, by omega⟩ (by omega) uq618) (fun q622 _ wq622 => ?_)
        obtain ⟨pq622, oq622, hq622⟩ := q622
        obtain ⟨tyq622, xq622, cq622_0, ttq622, fq622_0, ecq622_0, tcq622_0, gq622, efq622_0, afq622_0, bfq622_0, uq622_0, uq622_1, uq622_2, uq622_3, uq622_4⟩ := wq622
        dsimp only at uq622_1 uq622_2 uq622_3 uq622_4
        refine ⟨_, gq622, ?_⟩
        show gz gPP gGG gcn _ _ 83 [some (.ref x), some (.int (zi f)), some (.int (zi t)), some (.int (zi hi)), some (.int (zi lo))] [] hq622 _
        have G623 : gSg [114] [] [56000, 56001, 56002, 56003, 71007, 71008, 71009, 71010, 71011, 71012, 71013, 71014, 76999, 77999, 78999, 79999, 80999, 81999, 85999, 91004, 91008, 92004, 92008, 93999, 94999, 95999, 96999, 97999, 98999, 99999, 114999] ty h tyq622 hq622 := gSg.tr (gSg.ss G596 sS619 (by decide)) xq622 (by decide) (by decide) (fun x hx => by cases hx)
        have t624 : tyq622 x = 71 := gSg.typ xq622 sS619.1 t597 rfl
        have t625 : tyq622 sk = 56 := gSg.typ xq622 sS619.1 t598 rfl
        have t626 : tyq622 bt = 114 := gSg.typ xq622 sS619.1 t599 rfl
        have hl627 : hq622.2.2.2.1 bt = hq595.2.2.2.1 bt := gSg.len xq622 sS619.1 t599 rfl
        have t628 : tyq622 c27 = 75 := gSg.typ xq622 sS619.1 t601 rfl
        have t629 : tyq622 c31 = 91 := gSg.typ xq622 sS619.1 t602 rfl
        have t630 : tyq622 c46 = 92 := gSg.typ xq622 sS619.1 t603 rfl
        have t631 : tyq622 cq76_0 = 114 := gSg.typ xq622 sS619.1 t604 rfl
        have hl632 : hq622.2.2.2.1 cq76_0 = hq595.2.2.2.1 cq76_0 := gSg.len xq622 sS619.1 t604 rfl
        have t633 : tyq622 cq595_0 = 114 := gSg.typ xq622 sS619.1 tcq595_0 rfl
        have hl634 : hq622.2.2.2.1 cq595_0 = hq595.2.2.2.1 cq595_0 := gSg.len xq622 sS619.1 tcq595_0 rfl
        have s635 := gSg.at xq622 sS619.1 t597 rfl (by decide) s606
        have s636 := gSg.at xq622 sS619.1 t597 rfl (by decide) s607
        have s637 := gSg.at xq622 sS619.1 t597 rfl (by decide) s608
        have s638 := gSg.at xq622 sS619.1 t597 rfl (by decide) s609
        have s639 := gSg.at xq622 sS619.1 t597 rfl (by decide) s610
        have s640 := gSg.at xq622 sS619.1 t597 rfl (by decide) s611
        have s641 := gSg.at xq622 sS619.1 t601 rfl (by decide) s612
        have s642 := gSg.at xq622 sS619.1 t601 rfl (by decide) s613
        have s643 := gSg.at xq622 sS619.1 t597 rfl (by decide) s614
        have s644 := gSg.at xq622 sS619.1 t597 rfl (by decide) s615
        have s645 := gSg.at xq622 sS619.1 t597 rfl (by decide) s616
        have s646 := gSg.at xq622 sS619.1 t598 rfl (by decide) s617
        have uq647 := gSg.uq xq622 uq618 (by decide)
        have sS648 : gSs rT 1027 tyq622 [56000, 56001, 56002, 56003, 71007, 71008, 71009, 71010, 71011, 71012, 71013, 71014, 76999, 77999, 78999, 79999, 80999, 81999, 85999, 91004, 91008, 92004, 92008, 93999, 94999, 95999, 96999, 97999, 98999, 99999, 114999] hq622 hq622 := gSs.rf xq622.1
        refine gz_s 2 (pc' := 85) (L' := [some (.ref x), some (.int (zi f)), some (.int (zi t)), some (.int (zi hi)), some (.int (zi lo))]) (S' := [.int (zi 0), .ref x]) rfl ?_
        refine gs_put rfl (by decide) rfl sS648 t624 rfl rfl rfl rfl (Or.inl rfl) (by decide) (by omega) (by omega) (fun h649 sh649 eh649 fh649 => ?_)
        have s650 := (fh649 x 0 (fun q => absurd q.2 (by decide))).trans s635
        have s651 := (fh649 x 7 (fun q => absurd q.2 (by decide))).trans s636
        have s652 := (fh649 x 8 (fun q => absurd q.2 (by decide))).trans s637
        have s653 := (fh649 x 9 (fun q => absurd q.2 (by decide))).trans s638
        have s654 := (fh649 x 10 (fun q => absurd q.2 (by decide))).trans s639
        have s655 := (fh649 x 4 (fun q => absurd q.2 (by decide))).trans s640
        have s656 := (fh649 c27 0 (fun q => absurd (((t628).symm.trans (congrArg tyq622 q.1)).trans t624) (by decide))).trans s641
        have s657 := (fh649 c27 1 (fun q => absurd (((t628).symm.trans (congrArg tyq622 q.1)).trans t624) (by decide))).trans s642
        have s658 := (fh649 x 5 (fun q => absurd q.2 (by decide))).trans s644
        have s659 := (fh649 x 6 (fun q => absurd q.2 (by decide))).trans s645
        have s660 := (fh649 sk 3 (fun q => absurd q.2 (by decide))).trans s646
        have s661 := (fh649 sk 0 (fun q => absurd q.2 (by decide))).trans ecq622_0
        have s662 := (fh649 sk 1 (fun q => absurd q.2 (by decide))).trans efq622_0
        refine gz_s 1 (pc' := 89) (L' := [some (.ref x), some (.int (zi f)), some (.int (zi t)), some (.int (zi hi)), some (.int (zi lo))]) (S' := [.ref x]) rfl ?_
        have k663 := sh649.2.1
        have k663b := sh649.2.2.1
        have hl664 : h649.2.2.2.1 bt = hq622.2.2.2.1 bt := congrFun sh649.2.2.2.2.1 bt
        have hl665 : h649.2.2.2.1 cq76_0 = hq622.2.2.2.1 cq76_0 := congrFun sh649.2.2.2.2.1 cq76_0
        have hl666 : h649.2.2.2.1 cq595_0 = hq622.2.2.2.1 cq595_0 := congrFun sh649.2.2.2.2.1 cq595_0
        have hl667 : h649.2.2.2.1 cq622_0 = hq622.2.2.2.1 cq622_0 := congrFun sh649.2.2.2.2.1 cq622_0
        have hl668 : h649.2.2.2.1 cq622_0 = hq622.2.2.2.1 cq622_0 := congrFun sh649.2.2.2.2.1 cq622_0
        refine gz_call rfl (by decide) rfl (by decide) (by decide) (gcal_of rfl rfl rfl (Nat.le_of_ble_eq_true rfl) (gJ.recv (G := gGG) sh649.1 t624 rfl rfl)) (cl_Writer_putBlocks _ sh649.1 x t624 sk s650 t625 cq622_0 s661 tcq622_0 fq622_0 s662 ⟨by omega, by omega⟩ fq76_1 s660 ⟨by omega, by omega⟩ 0 eh649 ⟨by omega, by omega⟩ f s651 ⟨by omega, by omega⟩ t s652 ⟨by omega, by omega⟩ z74 s658 ⟨by omega, by omega⟩ z75 s659 ⟨by omega, by omega⟩ (by omega) (by omega) (by omega) uq647) (fun q669 _ wq669 => ?_)
        obtain ⟨pq669, oq669, hq669⟩ := q669
        obtain ⟨tyq669, xq669, cq669_0, ttq669, fq669_0, fq669_1, ecq669_0, tcq669_0, gq669, efq669_0, afq669_0, bfq669_0, efq669_1, afq669_1, bfq669_1, uq669_0, uq669_1, uq669_2, uq669_3, uq669_4, uq669_5, uq669_6⟩ := wq669
        dsimp only at uq669_3 uq669_4 uq669_5 uq669_6
        refine ⟨_, gq669, ?_⟩
        show gz gPP gGG gcn _ _ 92 [some (.ref x), some (.int (zi f)), some (.int (zi t)), some (.int (zi hi)), some (.int (zi lo))] [] hq669 _
        have G670 : gSg [114] [] [56000, 56001, 56002, 56003, 71007, 71008, 71009, 71010, 71011, 71012, 71013, 71014, 76999, 77999, 78999, 79999, 80999, 81999, 85999, 91004, 91008, 92004, 92008, 93999, 94999, 95999, 96999, 97999, 98999, 99999, 114999] ty h tyq669 hq669 := gSg.tr (gSg.ss G623 sh649 (by decide)) xq669 (by decide) (by decide) (fun x hx => by cases hx)
        have t671 : tyq669 x = 71 := gSg.typ xq669 sh649.1 t624 rfl
        have t672 : tyq669 sk = 56 := gSg.typ xq669 sh649.1 t625 rfl
        have t673 : tyq669 bt = 114 := gSg.typ xq669 sh649.1 t626 rfl
        have hl674 : hq669.2.2.2.1 bt = h649.2.2.2.1 bt := gSg.len xq669 sh649.1 t626 rfl
        have t675 : tyq669 c27 = 75 := gSg.typ xq669 sh649.1 t628 rfl
        have t676 : tyq669 c31 = 91 := gSg.typ xq669 sh649.1 t629 rfl
        have t677 : tyq669 c46 = 92 := gSg.typ xq669 sh649.1 t630 rfl
        have t678 : tyq669 cq76_0 = 114 := gSg.typ xq669 sh649.1 t631 rfl
        have hl679 : hq669.2.2.2.1 cq76_0 = h649.2.2.2.1 cq76_0 := gSg.len xq669 sh649.1 t631 rfl
        have t680 : tyq669 cq595_0 = 114 := gSg.typ xq669 sh649.1 t633 rfl
        have hl681 : hq669.2.2.2.1 cq595_0 = h649.2.2.2.1 cq595_0 := gSg.len xq669 sh649.1 t633 rfl
        have t682 : tyq669 cq622_0 = 114 := gSg.typ xq669 sh649.1 tcq622_0 rfl
        have hl683 : hq669.2.2.2.1 cq622_0 = h649.2.2.2.1 cq622_0 := gSg.len xq669 sh649.1 tcq622_0 rfl
        have s684 := gSg.at xq669 sh649.1 t624 rfl (by decide) s650
        have s685 := gSg.at xq669 sh649.1 t624 rfl (by decide) s651
        have s686 := gSg.at xq669 sh649.1 t624 rfl (by decide) s652
        have s687 := gSg.at xq669 sh649.1 t624 rfl (by decide) s653
        have s688 := gSg.at xq669 sh649.1 t624 rfl (by decide) s654
        have s689 := gSg.at xq669 sh649.1 t624 rfl (by decide) s655
        have s690 := gSg.at xq669 sh649.1 t628 rfl (by decide) s656
        have s691 := gSg.at xq669 sh649.1 t628 rfl (by decide) s657
        have s692 := gSg.at xq669 sh649.1 t624 rfl (by decide) s658
        have s693 := gSg.at xq669 sh649.1 t624 rfl (by decide) s659
        have s694 := gSg.at xq669 sh649.1 t624 rfl (by decide) eh649
        have uq695 := gSg.uq xq669 uq647 (by decide)
        have sS696 : gSs rT 1027 tyq669 [56000, 56001, 56002, 56003, 71007, 71008, 71009, 71010, 71011, 71012, 71013, 71014, 76999, 77999, 78999, 79999, 80999, 81999, 85999, 91004, 91008, 92004, 92008, 93999, 94999, 95999, 96999, 97999, 98999, 99999, 114999] hq669 hq669 := gSs.rf xq669.1
        refine gz_s 1 (pc' := 93) (L' := [some (.ref x), some (.int (zi f)), some (.int (zi t)), some (.int (zi hi)), some (.int (zi lo))]) (S' := [.ref x]) rfl ?_
        refine gs_gtk rfl (by decide) rfl sS696.1 t671 rfl rfl s684 ?_
        have hl697 : hq669.2.2.2.1 cq669_0 = hq669.2.2.2.1 cq669_0 := congrFun sS696.2.2.2.2.1 cq669_0
        refine gz_call rfl (by decide) rfl (by decide) (by decide) (gcal_of rfl rfl rfl (Nat.le_of_ble_eq_true rfl) (gJ.recv (G := gGG) sS696.1 t672 rfl rfl)) (cl_Sink_fillByte _ sS696.1 sk t672 cq669_0 ecq669_0 tcq669_0 fq669_0 efq669_0 ⟨by omega, by omega⟩ fq669_1 efq669_1 ⟨by omega, by omega⟩ (by omega) (by omega) uq695) (fun q698 _ wq698 => ?_)
        obtain ⟨pq698, oq698, hq698⟩ := q698
        obtain ⟨tyq698, xq698, cq698_0, ttq698, fq698_0, fq698_1, ecq698_0, tcq698_0, gq698, efq698_0, afq698_0, bfq698_0, efq698_1, afq698_1, bfq698_1, uq698_0, uq698_1, uq698_2, uq698_3, uq698_4, uq698_5⟩ := wq698
        dsimp only at uq698_2 uq698_3 uq698_4 uq698_5
        refine ⟨_, gq698, ?_⟩
        show gz gPP gGG gcn _ _ 99 [some (.ref x), some (.int (zi f)), some (.int (zi t)), some (.int (zi hi)), some (.int (zi lo))] [] hq698 _
        have G699 : gSg [114] [] [56000, 56001, 56002, 56003, 71007, 71008, 71009, 71010, 71011, 71012, 71013, 71014, 76999, 77999, 78999, 79999, 80999, 81999, 85999, 91004, 91008, 92004, 92008, 93999, 94999, 95999, 96999, 97999, 98999, 99999, 114999] ty h tyq698 hq698 := gSg.tr (gSg.ss G670 sS696 (by decide)) xq698 (by decide) (by decide) (fun x hx => by cases hx)
        have t700 : tyq698 x = 71 := gSg.typ xq698 sS696.1 t671 rfl
        have t701 : tyq698 sk = 56 := gSg.typ xq698 sS696.1 t672 rfl
        have t702 : tyq698 bt = 114 := gSg.typ xq698 sS696.1 t673 rfl
        have hl703 : hq698.2.2.2.1 bt = hq669.2.2.2.1 bt := gSg.len xq698 sS696.1 t673 rfl
        have t704 : tyq698 c27 = 75 := gSg.typ xq698 sS696.1 t675 rfl
        have t705 : tyq698 c31 = 91 := gSg.typ xq698 sS696.1 t676 rfl
        have t706 : tyq698 c46 = 92 := gSg.typ xq698 sS696.1 t677 rfl
        have t707 : tyq698 cq76_0 = 114 := gSg.typ xq698 sS696.1 t678 rfl
        have hl708 : hq698.2.2.2.1 cq76_0 = hq669.2.2.2.1 cq76_0 := gSg.len xq698 sS696.1 t678 rfl
        have t709 : tyq698 cq595_0 = 114 := gSg.typ xq698 sS696.1 t680 rfl
        have hl710 : hq698.2.2.2.1 cq595_0 = hq669.2.2.2.1 cq595_0 := gSg.len xq698 sS696.1 t680 rfl
        have t711 : tyq698 cq622_0 = 114 := gSg.typ xq698 sS696.1 t682 rfl
        have hl712 : hq698.2.2.2.1 cq622_0 = hq669.2.2.2.1 cq622_0 := gSg.len xq698 sS696.1 t682 rfl
        have t713 : tyq698 cq669_0 = 114 := gSg.typ xq698 sS696.1 tcq669_0 rfl
        have hl714 : hq698.2.2.2.1 cq669_0 = hq669.2.2.2.1 cq669_0 := gSg.len xq698 sS696.1 tcq669_0 rfl
        have s715 := gSg.at xq698 sS696.1 t671 rfl (by decide) s684
        have s716 := gSg.at xq698 sS696.1 t671 rfl (by decide) s685
        have s717 := gSg.at xq698 sS696.1 t671 rfl (by decide) s686
        have s718 := gSg.at xq698 sS696.1 t671 rfl (by decide) s687
        have s719 := gSg.at xq698 sS696.1 t671 rfl (by decide) s688
        have s720 := gSg.at xq698 sS696.1 t671 rfl (by decide) s689
        have s721 := gSg.at xq698 sS696.1 t675 rfl (by decide) s690
        have s722 := gSg.at xq698 sS696.1 t675 rfl (by decide) s691
        have s723 := gSg.at xq698 sS696.1 t671 rfl (by decide) s692
        have s724 := gSg.at xq698 sS696.1 t671 rfl (by decide) s693
        have s725 := gSg.at xq698 sS696.1 t671 rfl (by decide) s694
        have uq726 := gSg.uq xq698 uq695 (by decide)
        have sS727 : gSs rT 1027 tyq698 [56000, 56001, 56002, 56003, 71007, 71008, 71009, 71010, 71011, 71012, 71013, 71014, 76999, 77999, 78999, 79999, 80999, 81999, 85999, 91004, 91008, 92004, 92008, 93999, 94999, 95999, 96999, 97999, 98999, 99999, 114999] hq698 hq698 := gSs.rf xq698.1
        have hl728 : 1024 ≤ hq698.2.2.2.1 bt ∧ hq698.2.2.2.1 bt ≤ 1000000 := gJ.rowl (G := gGG) sS727.1 t702 rfl
        have hl729 : 1024 ≤ hq698.2.2.2.1 cq76_0 ∧ hq698.2.2.2.1 cq76_0 ≤ 1000000 := gJ.rowl (G := gGG) sS727.1 t707 rfl
        have hl730 : 1024 ≤ hq698.2.2.2.1 cq595_0 ∧ hq698.2.2.2.1 cq595_0 ≤ 1000000 := gJ.rowl (G := gGG) sS727.1 t709 rfl
        have hl731 : 1024 ≤ hq698.2.2.2.1 cq622_0 ∧ hq698.2.2.2.1 cq622_0 ≤ 1000000 := gJ.rowl (G := gGG) sS727.1 t711 rfl
        have hl732 : 1024 ≤ hq698.2.2.2.1 cq669_0 ∧ hq698.2.2.2.1 cq669_0 ≤ 1000000 := gJ.rowl (G := gGG) sS727.1 t713 rfl
        have hl733 : 1024 ≤ hq698.2.2.2.1 cq698_0 ∧ hq698.2.2.2.1 cq698_0 ≤ 1000000 := gJ.rowl (G := gGG) sS727.1 tcq698_0 rfl
        have G734 : gSg [114] [] [56000, 56001, 56002, 56003, 71007, 71008, 71009, 71010, 71011, 71012, 71013, 71014, 76999, 77999, 78999, 79999, 80999, 81999, 85999, 91004, 91008, 92004, 92008, 93999, 94999, 95999, 96999, 97999, 98999, 99999, 114999] ty h tyq698 hq698 := gSg.ss G699 sS727 (by decide)
        exact gz_end (I := .return_) (len := 1) rfl (Or.inl rfl) ⟨tyq698, G734, cq698_0, trivial, fq698_0, fq698_1, ecq698_0, tcq698_0, rfl, efq698_0, (by omega), (by omega), efq698_1, (by omega), (by omega), (by omega), (by omega), (by dsimp only; omega), (by dsimp only; omega), (by dsimp only; omega), (by dsimp only; omega)⟩
      · refine gy_ifF rfl (by decide) (by decide) (by omega) hc620 ?_
        refine gz_s 2 (pc' := 76) (L' := [some (.ref x), some (.int (zi f)), some (.int (zi t)), some (.int (zi hi)), some (.int (zi lo))]) (S' := [.int (zi 1), .ref x]) rfl ?_
        have hl735 : hq595.2.2.2.1 cq595_0 = hq595.2.2.2.1 cq595_0 := congrFun sS619.2.2.2.2.1 cq595_0
        refine gz_call rfl (by decide) rfl (by decide) (by decide) (gcal_of rfl rfl rfl (Nat.le_of_ble_eq_true rfl) (gJ.recv (G := gGG) sS619.1 t597 rfl rfl)) (cl_putCodes1 _ sS619.1 x t597 1 ⟨by omega, by omega⟩ sk s606 t598 cq595_0 ecq595_0 tcq595_0 fq595_0 efq595_0 ⟨by omega, by omega⟩ (by omega) uq618) (fun q736 _ wq736 => ?_)
        obtain ⟨pq736, oq736, hq736⟩ := q736
        obtain ⟨tyq736, xq736, cq736_0, ttq736, fq736_0, ecq736_0, tcq736_0, gq736, efq736_0, afq736_0, bfq736_0, uq736_0, uq736_1, uq736_2, uq736_3, uq736_4, uq736_5⟩ := wq736
        dsimp only at uq736_2 uq736_3 uq736_4 uq736_5
        refine ⟨_, gq736, ?_⟩
        show gz gPP gGG gcn _ _ 79 [some (.ref x), some (.int (zi f)), some (.int (zi t)), some (.int (zi hi)), some (.int (zi lo))] [] hq736 _
        have G737 : gSg [114] [] [56000, 56001, 56002, 56003, 71007, 71008, 71009, 71010, 71011, 71012, 71013, 71014, 76999, 77999, 78999, 79999, 80999, 81999, 85999, 91004, 91008, 92004, 92008, 93999, 94999, 95999, 96999, 97999, 98999, 99999, 114999] ty h tyq736 hq736 := gSg.tr (gSg.ss G596 sS619 (by decide)) xq736 (by decide) (by decide) (fun x hx => by cases hx)
        have t738 : tyq736 x = 71 := gSg.typ xq736 sS619.1 t597 rfl
        have t739 : tyq736 sk = 56 := gSg.typ xq736 sS619.1 t598 rfl
        have t740 : tyq736 bt = 114 := gSg.typ xq736 sS619.1 t599 rfl
        have hl741 : hq736.2.2.2.1 bt = hq595.2.2.2.1 bt := gSg.len xq736 sS619.1 t599 rfl
        have t742 : tyq736 c27 = 75 := gSg.typ xq736 sS619.1 t601 rfl
        have t743 : tyq736 c31 = 91 := gSg.typ xq736 sS619.1 t602 rfl
        have t744 : tyq736 c46 = 92 := gSg.typ xq736 sS619.1 t603 rfl
        have t745 : tyq736 cq76_0 = 114 := gSg.typ xq736 sS619.1 t604 rfl
        have hl746 : hq736.2.2.2.1 cq76_0 = hq595.2.2.2.1 cq76_0 := gSg.len xq736 sS619.1 t604 rfl
        have t747 : tyq736 cq595_0 = 114 := gSg.typ xq736 sS619.1 tcq595_0 rfl
        have hl748 : hq736.2.2.2.1 cq595_0 = hq595.2.2.2.1 cq595_0 := gSg.len xq736 sS619.1 tcq595_0 rfl
        have s749 := gSg.at xq736 sS619.1 t597 rfl (by decide) s606
        have s750 := gSg.at xq736 sS619.1 t597 rfl (by decide) s607
        have s751 := gSg.at xq736 sS619.1 t597 rfl (by decide) s608
        have s752 := gSg.at xq736 sS619.1 t597 rfl (by decide) s609
        have s753 := gSg.at xq736 sS619.1 t597 rfl (by decide) s610
        have s754 := gSg.at xq736 sS619.1 t597 rfl (by decide) s611
        have s755 := gSg.at xq736 sS619.1 t601 rfl (by decide) s612
        have s756 := gSg.at xq736 sS619.1 t601 rfl (by decide) s613
        have s757 := gSg.at xq736 sS619.1 t597 rfl (by decide) s614
        have s758 := gSg.at xq736 sS619.1 t597 rfl (by decide) s615
        have s759 := gSg.at xq736 sS619.1 t597 rfl (by decide) s616
        have s760 := gSg.at xq736 sS619.1 t598 rfl (by decide) s617
        have uq761 := gSg.uq xq736 uq618 (by decide)
        have sS762 : gSs rT 1027 tyq736 [56000, 56001, 56002, 56003, 71007, 71008, 71009, 71010, 71011, 71012, 71013, 71014, 76999, 77999, 78999, 79999, 80999, 81999, 85999, 91004, 91008, 92004, 92008, 93999, 94999, 95999, 96999, 97999, 98999, 99999, 114999] hq736 hq736 := gSs.rf xq736.1
        refine gz_s 1 (pc' := 80) (L' := [some (.ref x), some (.int (zi f)), some (.int (zi t)), some (.int (zi hi)), some (.int (zi lo))]) (S' := [.ref x]) rfl ?_
        have hl763 : hq736.2.2.2.1 cq736_0 = hq736.2.2.2.1 cq736_0 := congrFun sS762.2.2.2.2.1 cq736_0
        refine gz_call rfl (by decide) rfl (by decide) (by decide) (gcal_of rfl rfl rfl (Nat.le_of_ble_eq_true rfl) (gJ.recv (G := gGG) sS762.1 t738 rfl rfl)) (cl_Writer_putScanHead _ sS762.1 x t738 sk s749 t739 cq736_0 ecq736_0 tcq736_0 fq736_0 efq736_0 ⟨by omega, by omega⟩ (by omega) uq761) (fun q764 _ wq764 => ?_)
        obtain ⟨pq764, oq764, hq764⟩ := q764
        obtain ⟨tyq764, xq764, cq764_0, ttq764, fq764_0, ecq764_0, tcq764_0, gq764, efq764_0, afq764_0, bfq764_0, uq764_0, uq764_1, uq764_2, uq764_3, uq764_4⟩ := wq764
        dsimp only at uq764_1 uq764_2 uq764_3 uq764_4
        refine ⟨_, gq764, ?_⟩
        show gz gPP gGG gcn _ _ 83 [some (.ref x), some (.int (zi f)), some (.int (zi t)), some (.int (zi hi)), some (.int (zi lo))] [] hq764 _
        have G765 : gSg [114] [] [56000, 56001, 56002, 56003, 71007, 71008, 71009, 71010, 71011, 71012, 71013, 71014, 76999, 77999, 78999, 79999, 80999, 81999, 85999, 91004, 91008, 92004, 92008, 93999, 94999, 95999, 96999, 97999, 98999, 99999, 114999] ty h tyq764 hq764 := gSg.tr (gSg.ss G737 sS762 (by decide)) xq764 (by decide) (by decide) (fun x hx => by cases hx)
        have t766 : tyq764 x = 71 := gSg.typ xq764 sS762.1 t738 rfl
        have t767 : tyq764 sk = 56 := gSg.typ xq764 sS762.1 t739 rfl
        have t768 : tyq764 bt = 114 := gSg.typ xq764 sS762.1 t740 rfl
        have hl769 : hq764.2.2.2.1 bt = hq736.2.2.2.1 bt := gSg.len xq764 sS762.1 t740 rfl
        have t770 : tyq764 c27 = 75 := gSg.typ xq764 sS762.1 t742 rfl
        have t771 : tyq764 c31 = 91 := gSg.typ xq764 sS762.1 t743 rfl
        have t772 : tyq764 c46 = 92 := gSg.typ xq764 sS762.1 t744 rfl
        have t773 : tyq764 cq76_0 = 114 := gSg.typ xq764 sS762.1 t745 rfl
        have hl774 : hq764.2.2.2.1 cq76_0 = hq736.2.2.2.1 cq76_0 := gSg.len xq764 sS762.1 t745 rfl
        have t775 : tyq764 cq595_0 = 114 := gSg.typ xq764 sS762.1 t747 rfl
        have hl776 : hq764.2.2.2.1 cq595_0 = hq736.2.2.2.1 cq595_0 := gSg.len xq764 sS762.1 t747 rfl
        have t777 : tyq764 cq736_0 = 114 := gSg.typ xq764 sS762.1 tcq736_0 rfl
        have hl778 : hq764.2.2.2.1 cq736_0 = hq736.2.2.2.1 cq736_0 := gSg.len xq764 sS762.1 tcq736_0 rfl
        have s779 := gSg.at xq764 sS762.1 t738 rfl (by decide) s749
        have s780 := gSg.at xq764 sS762.1 t738 rfl (by decide) s750
        have s781 := gSg.at xq764 sS762.1 t738 rfl (by decide) s751
        have s782 := gSg.at xq764 sS762.1 t738 rfl (by decide) s752
        have s783 := gSg.at xq764 sS762.1 t738 rfl (by decide) s753
        have s784 := gSg.at xq764 sS762.1 t738 rfl (by decide) s754
        have s785 := gSg.at xq764 sS762.1 t742 rfl (by decide) s755
        have s786 := gSg.at xq764 sS762.1 t742 rfl (by decide) s756
        have s787 := gSg.at xq764 sS762.1 t738 rfl (by decide) s757
        have s788 := gSg.at xq764 sS762.1 t738 rfl (by decide) s758
        have s789 := gSg.at xq764 sS762.1 t738 rfl (by decide) s759
        have s790 := gSg.at xq764 sS762.1 t739 rfl (by decide) s760
        have uq791 := gSg.uq xq764 uq761 (by decide)
        have sS792 : gSs rT 1027 tyq764 [56000, 56001, 56002, 56003, 71007, 71008, 71009, 71010, 71011, 71012, 71013, 71014, 76999, 77999, 78999, 79999, 80999, 81999, 85999, 91004, 91008, 92004, 92008, 93999, 94999, 95999, 96999, 97999, 98999, 99999, 114999] hq764 hq764 := gSs.rf xq764.1
        refine gz_s 2 (pc' := 85) (L' := [some (.ref x), some (.int (zi f)), some (.int (zi t)), some (.int (zi hi)), some (.int (zi lo))]) (S' := [.int (zi 0), .ref x]) rfl ?_
        refine gs_put rfl (by decide) rfl sS792 t766 rfl rfl rfl rfl (Or.inl rfl) (by decide) (by omega) (by omega) (fun h793 sh793 eh793 fh793 => ?_)
        have s794 := (fh793 x 0 (fun q => absurd q.2 (by decide))).trans s779
        have s795 := (fh793 x 7 (fun q => absurd q.2 (by decide))).trans s780
        have s796 := (fh793 x 8 (fun q => absurd q.2 (by decide))).trans s781
        have s797 := (fh793 x 9 (fun q => absurd q.2 (by decide))).trans s782
        have s798 := (fh793 x 10 (fun q => absurd q.2 (by decide))).trans s783
        have s799 := (fh793 x 4 (fun q => absurd q.2 (by decide))).trans s784
        have s800 := (fh793 c27 0 (fun q => absurd (((t770).symm.trans (congrArg tyq764 q.1)).trans t766) (by decide))).trans s785
        have s801 := (fh793 c27 1 (fun q => absurd (((t770).symm.trans (congrArg tyq764 q.1)).trans t766) (by decide))).trans s786
        have s802 := (fh793 x 5 (fun q => absurd q.2 (by decide))).trans s788
        have s803 := (fh793 x 6 (fun q => absurd q.2 (by decide))).trans s789
        have s804 := (fh793 sk 3 (fun q => absurd q.2 (by decide))).trans s790
        have s805 := (fh793 sk 0 (fun q => absurd q.2 (by decide))).trans ecq764_0
        have s806 := (fh793 sk 1 (fun q => absurd q.2 (by decide))).trans efq764_0
        refine gz_s 1 (pc' := 89) (L' := [some (.ref x), some (.int (zi f)), some (.int (zi t)), some (.int (zi hi)), some (.int (zi lo))]) (S' := [.ref x]) rfl ?_
        have k807 := sh793.2.1
        have k807b := sh793.2.2.1
        have hl808 : h793.2.2.2.1 bt = hq764.2.2.2.1 bt := congrFun sh793.2.2.2.2.1 bt
        have hl809 : h793.2.2.2.1 cq76_0 = hq764.2.2.2.1 cq76_0 := congrFun sh793.2.2.2.2.1 cq76_0
        have hl810 : h793.2.2.2.1 cq595_0 = hq764.2.2.2.1 cq595_0 := congrFun sh793.2.2.2.2.1 cq595_0
        have hl811 : h793.2.2.2.1 cq736_0 = hq764.2.2.2.1 cq736_0 := congrFun sh793.2.2.2.2.1 cq736_0
        have hl812 : h793.2.2.2.1 cq764_0 = hq764.2.2.2.1 cq764_0 := congrFun sh793.2.2.2.2.1 cq764_0
        have hl813 : h793.2.2.2.1 cq764_0 = hq764.2.2.2.1 cq764_0 := congrFun sh793.2.2.2.2.1 cq764_0
        refine gz_call rfl (by decide) rfl (by decide) (by decide) (gcal_of rfl rfl rfl (Nat.le_of_ble_eq_true rfl) (gJ.recv (G := gGG) sh793.1 t766 rfl rfl)) (cl_Writer_putBlocks _ sh793.1 x t766 sk s794 t767 cq764_0 s805 tcq764_0 fq764_0 s806 ⟨by omega, by omega⟩ fq76_1 s804 ⟨by omega, by omega⟩ 0 eh793 ⟨by omega, by omega⟩ f s795 ⟨by omega, by omega⟩ t s796 ⟨by omega, by omega⟩ z74 s802 ⟨by omega, by omega⟩ z75 s803 ⟨by omega, by omega⟩ (by omega) (by omega) (by omega) uq791) (fun q814 _ wq814 => ?_)
        obtain ⟨pq814, oq814, hq814⟩ := q814
        obtain ⟨tyq814, xq814, cq814_0, ttq814, fq814_0, fq814_1, ecq814_0, tcq814_0, gq814, efq814_0, afq814_0, bfq814_0, efq814_1, afq814_1, bfq814_1, uq814_0, uq814_1, uq814_2, uq814_3, uq814_4, uq814_5, uq814_6⟩ := wq814
        dsimp only at uq814_3 uq814_4 uq814_5 uq814_6
        refine ⟨_, gq814, ?_⟩
        show gz gPP gGG gcn _ _ 92 [some (.ref x), some (.int (zi f)), some (.int (zi t)), some (.int (zi hi)), some (.int (zi lo))] [] hq814 _
        have G815 : gSg [114] [] [56000, 56001, 56002, 56003, 71007, 71008, 71009, 71010, 71011, 71012, 71013, 71014, 76999, 77999, 78999, 79999, 80999, 81999, 85999, 91004, 91008, 92004, 92008, 93999, 94999, 95999, 96999, 97999, 98999, 99999, 114999] ty h tyq814 hq814 := gSg.tr (gSg.ss G765 sh793 (by decide)) xq814 (by decide) (by decide) (fun x hx => by cases hx)
        have t816 : tyq814 x = 71 := gSg.typ xq814 sh793.1 t766 rfl
        have t817 : tyq814 sk = 56 := gSg.typ xq814 sh793.1 t767 rfl
        have t818 : tyq814 bt = 114 := gSg.typ xq814 sh793.1 t768 rfl
        have hl819 : hq814.2.2.2.1 bt = h793.2.2.2.1 bt := gSg.len xq814 sh793.1 t768 rfl
        have t820 : tyq814 c27 = 75 := gSg.typ xq814 sh793.1 t770 rfl
        have t821 : tyq814 c31 = 91 := gSg.typ xq814 sh793.1 t771 rfl
        have t822 : tyq814 c46 = 92 := gSg.typ xq814 sh793.1 t772 rfl
        have t823 : tyq814 cq76_0 = 114 := gSg.typ xq814 sh793.1 t773 rfl
        have hl824 : hq814.2.2.2.1 cq76_0 = h793.2.2.2.1 cq76_0 := gSg.len xq814 sh793.1 t773 rfl
        have t825 : tyq814 cq595_0 = 114 := gSg.typ xq814 sh793.1 t775 rfl
        have hl826 : hq814.2.2.2.1 cq595_0 = h793.2.2.2.1 cq595_0 := gSg.len xq814 sh793.1 t775 rfl
        have t827 : tyq814 cq736_0 = 114 := gSg.typ xq814 sh793.1 t777 rfl
        have hl828 : hq814.2.2.2.1 cq736_0 = h793.2.2.2.1 cq736_0 := gSg.len xq814 sh793.1 t777 rfl
        have t829 : tyq814 cq764_0 = 114 := gSg.typ xq814 sh793.1 tcq764_0 rfl
        have hl830 : hq814.2.2.2.1 cq764_0 = h793.2.2.2.1 cq764_0 := gSg.len xq814 sh793.1 tcq764_0 rfl
        have s831 := gSg.at xq814 sh793.1 t766 rfl (by decide) s794
        have s832 := gSg.at xq814 sh793.1 t766 rfl (by decide) s795
        have s833 := gSg.at xq814 sh793.1 t766 rfl (by decide) s796
        have s834 := gSg.at xq814 sh793.1 t766 rfl (by decide) s797
        have s835 := gSg.at xq814 sh793.1 t766 rfl (by decide) s798
        have s836 := gSg.at xq814 sh793.1 t766 rfl (by decide) s799
        have s837 := gSg.at xq814 sh793.1 t770 rfl (by decide) s800
        have s838 := gSg.at xq814 sh793.1 t770 rfl (by decide) s801
        have s839 := gSg.at xq814 sh793.1 t766 rfl (by decide) s802
        have s840 := gSg.at xq814 sh793.1 t766 rfl (by decide) s803
        have s841 := gSg.at xq814 sh793.1 t766 rfl (by decide) eh793
        have uq842 := gSg.uq xq814 uq791 (by decide)
        have sS843 : gSs rT 1027 tyq814 [56000, 56001, 56002, 56003, 71007, 71008, 71009, 71010, 71011, 71012, 71013, 71014, 76999, 77999, 78999, 79999, 80999, 81999, 85999, 91004, 91008, 92004, 92008, 93999, 94999, 95999, 96999, 97999, 98999, 99999, 114999] hq814 hq814 := gSs.rf xq814.1
        refine gz_s 1 (pc' := 93) (L' := [some (.ref x), some (.int (zi f)), some (.int (zi t)), some (.int (zi hi)), some (.int (zi lo))]) (S' := [.ref x]) rfl ?_
        refine gs_gtk rfl (by decide) rfl sS843.1 t816 rfl rfl s831 ?_
        have hl844 : hq814.2.2.2.1 cq814_0 = hq814.2.2.2.1 cq814_0 := congrFun sS843.2.2.2.2.1 cq814_0
        refine gz_call rfl (by decide) rfl (by decide) (by decide) (gcal_of rfl rfl rfl (Nat.le_of_ble_eq_true rfl) (gJ.recv (G := gGG) sS843.1 t817 rfl rfl)) (cl_Sink_fillByte _ sS843.1 sk t817 cq814_0 ecq814_0 tcq814_0 fq814_0 efq814_0 ⟨by omega, by omega⟩ fq814_1 efq814_1 ⟨by omega, by omega⟩ (by omega) (by omega) uq842) (fun q845 _ wq845 => ?_)
        obtain ⟨pq845, oq845, hq845⟩ := q845
        obtain ⟨tyq845, xq845, cq845_0, ttq845, fq845_0, fq845_1, ecq845_0, tcq845_0, gq845, efq845_0, afq845_0, bfq845_0, efq845_1, afq845_1, bfq845_1, uq845_0, uq845_1, uq845_2, uq845_3, uq845_4, uq845_5⟩ := wq845
        dsimp only at uq845_2 uq845_3 uq845_4 uq845_5
        refine ⟨_, gq845, ?_⟩
        show gz gPP gGG gcn _ _ 99 [some (.ref x), some (.int (zi f)), some (.int (zi t)), some (.int (zi hi)), some (.int (zi lo))] [] hq845 _
        have G846 : gSg [114] [] [56000, 56001, 56002, 56003, 71007, 71008, 71009, 71010, 71011, 71012, 71013, 71014, 76999, 77999, 78999, 79999, 80999, 81999, 85999, 91004, 91008, 92004, 92008, 93999, 94999, 95999, 96999, 97999, 98999, 99999, 114999] ty h tyq845 hq845 := gSg.tr (gSg.ss G815 sS843 (by decide)) xq845 (by decide) (by decide) (fun x hx => by cases hx)
        have t847 : tyq845 x = 71 := gSg.typ xq845 sS843.1 t816 rfl
        have t848 : tyq845 sk = 56 := gSg.typ xq845 sS843.1 t817 rfl
        have t849 : tyq845 bt = 114 := gSg.typ xq845 sS843.1 t818 rfl
        have hl850 : hq845.2.2.2.1 bt = hq814.2.2.2.1 bt := gSg.len xq845 sS843.1 t818 rfl
        have t851 : tyq845 c27 = 75 := gSg.typ xq845 sS843.1 t820 rfl
        have t852 : tyq845 c31 = 91 := gSg.typ xq845 sS843.1 t821 rfl
        have t853 : tyq845 c46 = 92 := gSg.typ xq845 sS843.1 t822 rfl
        have t854 : tyq845 cq76_0 = 114 := gSg.typ xq845 sS843.1 t823 rfl
        have hl855 : hq845.2.2.2.1 cq76_0 = hq814.2.2.2.1 cq76_0 := gSg.len xq845 sS843.1 t823 rfl
        have t856 : tyq845 cq595_0 = 114 := gSg.typ xq845 sS843.1 t825 rfl
        have hl857 : hq845.2.2.2.1 cq595_0 = hq814.2.2.2.1 cq595_0 := gSg.len xq845 sS843.1 t825 rfl
        have t858 : tyq845 cq736_0 = 114 := gSg.typ xq845 sS843.1 t827 rfl
        have hl859 : hq845.2.2.2.1 cq736_0 = hq814.2.2.2.1 cq736_0 := gSg.len xq845 sS843.1 t827 rfl
        have t860 : tyq845 cq764_0 = 114 := gSg.typ xq845 sS843.1 t829 rfl
        have hl861 : hq845.2.2.2.1 cq764_0 = hq814.2.2.2.1 cq764_0 := gSg.len xq845 sS843.1 t829 rfl
        have t862 : tyq845 cq814_0 = 114 := gSg.typ xq845 sS843.1 tcq814_0 rfl
        have hl863 : hq845.2.2.2.1 cq814_0 = hq814.2.2.2.1 cq814_0 := gSg.len xq845 sS843.1 tcq814_0 rfl
        have s864 := gSg.at xq845 sS843.1 t816 rfl (by decide) s831
        have s865 := gSg.at xq845 sS843.1 t816 rfl (by decide) s832
        have s866 := gSg.at xq845 sS843.1 t816 rfl (by decide) s833
        have s867 := gSg.at xq845 sS843.1 t816 rfl (by decide) s834
        have s868 := gSg.at xq845 sS843.1 t816 rfl (by decide) s835
        have s869 := gSg.at xq845 sS843.1 t816 rfl (by decide) s836
        have s870 := gSg.at xq845 sS843.1 t820 rfl (by decide) s837
        have s871 := gSg.at xq845 sS843.1 t820 rfl (by decide) s838
        have s872 := gSg.at xq845 sS843.1 t816 rfl (by decide) s839
        have s873 := gSg.at xq845 sS843.1 t816 rfl (by decide) s840
        have s874 := gSg.at xq845 sS843.1 t816 rfl (by decide) s841
        have uq875 := gSg.uq xq845 uq842 (by decide)
        have sS876 : gSs rT 1027 tyq845 [56000, 56001, 56002, 56003, 71007, 71008, 71009, 71010, 71011, 71012, 71013, 71014, 76999, 77999, 78999, 79999, 80999, 81999, 85999, 91004, 91008, 92004, 92008, 93999, 94999, 95999, 96999, 97999, 98999, 99999, 114999] hq845 hq845 := gSs.rf xq845.1
        have hl877 : 1024 ≤ hq845.2.2.2.1 bt ∧ hq845.2.2.2.1 bt ≤ 1000000 := gJ.rowl (G := gGG) sS876.1 t849 rfl
        have hl878 : 1024 ≤ hq845.2.2.2.1 cq76_0 ∧ hq845.2.2.2.1 cq76_0 ≤ 1000000 := gJ.rowl (G := gGG) sS876.1 t854 rfl
        have hl879 : 1024 ≤ hq845.2.2.2.1 cq595_0 ∧ hq845.2.2.2.1 cq595_0 ≤ 1000000 := gJ.rowl (G := gGG) sS876.1 t856 rfl
        have hl880 : 1024 ≤ hq845.2.2.2.1 cq736_0 ∧ hq845.2.2.2.1 cq736_0 ≤ 1000000 := gJ.rowl (G := gGG) sS876.1 t858 rfl
        have hl881 : 1024 ≤ hq845.2.2.2.1 cq764_0 ∧ hq845.2.2.2.1 cq764_0 ≤ 1000000 := gJ.rowl (G := gGG) sS876.1 t860 rfl
        have hl882 : 1024 ≤ hq845.2.2.2.1 cq814_0 ∧ hq845.2.2.2.1 cq814_0 ≤ 1000000 := gJ.rowl (G := gGG) sS876.1 t862 rfl
        have hl883 : 1024 ≤ hq845.2.2.2.1 cq845_0 ∧ hq845.2.2.2.1 cq845_0 ≤ 1000000 := gJ.rowl (G := gGG) sS876.1 tcq845_0 rfl
        have G884 : gSg [114] [] [56000, 56001, 56002, 56003, 71007, 71008, 71009, 71010, 71011, 71012, 71013, 71014, 76999, 77999, 78999, 79999, 80999, 81999, 85999, 91004, 91008, 92004, 92008, 93999, 94999, 95999, 96999, 97999, 98999, 99999, 114999] ty h tyq845 hq845 := gSg.ss G846 sS876 (by decide)
        exact gz_end (I := .return_) (len := 1) rfl (Or.inl rfl) ⟨tyq845, G884, cq845_0, trivial, fq845_0, fq845_1, ecq845_0, tcq845_0, rfl, efq845_0, (by omega), (by omega), efq845_1, (by omega), (by omega), (by omega), (by omega), (by dsimp only; omega), (by dsimp only; omega), (by dsimp only; omega), (by dsimp only; omega)⟩
