/-! ===== methods of the landed text (by program) ===== -/
set_option maxRecDepth 20000 in
set_option maxHeartbeats 4000000 in
theorem cl_Writer_putScan (d : Nat) {ty : Nat → Nat} {h : gH} (hJ : gJ rT 1027 ty h) (x : Nat) (tx : ty x = 71) (f : Int) (rf : 0 ≤ f ∧ f ≤ 63) (t : Int) (rt : 0 ≤ t ∧ t ≤ 63) (hi : Int) (rhi : 0 ≤ hi ∧ hi ≤ 4) (lo : Int) (rlo : 0 ≤ lo ∧ lo ≤ 3) (sk : Nat) (esk : h.2.2.2.2 x 0 = .ref sk) (tsk : ty sk = 56) (bt : Nat) (ebt : h.2.2.2.2 sk 0 = .ref bt) (tbt : ty bt = 114) (c0 : Int) (ec0 : h.2.2.2.2 sk 1 = .int (zi c0)) (rc0 : 0 ≤ c0 ∧ c0 ≤ 499999) (h0 : Int) (eh0 : h.2.2.2.2 sk 3 = .int (zi h0)) (rh0 : 0 ≤ h0 ∧ h0 ≤ 7) (pp0 : 4 * c0 + h0 + 16 * (656 + 320 * (t - f)) + 2500 ≤ 1997990) (pp1 : f ≤ t) (pp2 : c0 ≤ (h.2.2.2.1 bt : Int)) (uq : gUq ty) : gz gPP gGG gcn (d + 7) gt104 0 (gent [.ref x, .int (zi f), .int (zi t), .int (zi hi), .int (zi lo)] 5) [] h (fun q _ => ∃ ty9 : Nat → Nat, gSg [114] [] [56000, 56001, 56002, 56003, 71007, 71008, 71009, 71010, 71011, 71012, 71013, 71014, 76999, 77999, 78999, 79999, 80999, 81999, 85999, 91004, 91008, 92004, 92008, 93999, 94999, 95999, 96999, 97999, 98999, 99999, 114999] ty h ty9 q.2.2 ∧ ∃ bt2 : Nat, True ∧ ∃ c1 h1 : Int, q.2.2.2.2.2.2 sk 0 = .ref bt2 ∧ ty9 bt2 = 114 ∧ gfin gt104 q.1 q.2.1 = some none ∧ q.2.2.2.2.2.2 sk 1 = .int (zi c1) ∧ 0 ≤ c1 ∧ c1 ≤ 500000 ∧ q.2.2.2.2.2.2 sk 3 = .int (zi h1) ∧ 0 ≤ h1 ∧ h1 ≤ 7 ∧ (4 * c1 + h1 ≤ 4 * c0 + h0 + 16 * (656 + 320 * (t - f)) + 2500) ∧ (c0 ≤ c1) ∧ (1024 * ((q.2.2.1 : Int) - h.1) ≤ (q.2.2.2.2.2.1 bt2 : Int) - h.2.2.2.1 bt) ∧ (((q.2.2.2.1 : Int) - h.2.1) ≤ 2 * ((q.2.2.2.2.2.1 bt2 : Int) - h.2.2.2.1 bt)) ∧ ((h.2.2.2.1 bt : Int) ≤ (q.2.2.2.2.2.1 bt2 : Int)) ∧ (c1 ≤ (q.2.2.2.2.2.1 bt2 : Int))) := by
  have hS : gSs rT 1027 ty [56000, 56001, 56002, 56003, 71007, 71008, 71009, 71010, 71011, 71012, 71013, 71014, 76999, 77999, 78999, 79999, 80999, 81999, 85999, 91004, 91008, 92004, 92008, 93999, 94999, 95999, 96999, 97999, 98999, 99999, 114999] h h := gSs.rf hJ
  have G0 : gSg [114] [] [56000, 56001, 56002, 56003, 71007, 71008, 71009, 71010, 71011, 71012, 71013, 71014, 76999, 77999, 78999, 79999, 80999, 81999, 85999, 91004, 91008, 92004, 92008, 93999, 94999, 95999, 96999, 97999, 98999, 99999, 114999] ty h ty h := gSg.rf hJ (fun x hx => by cases hx)
  refine gz_s 2 (pc' := 2) (L' := [some (.ref x), some (.int (zi f)), some (.int (zi t)), some (.int (zi hi)), some (.int (zi lo))]) (S' := [.int (zi f), .ref x]) rfl ?_
  refine gs_put rfl (by decide) rfl hS tx rfl rfl rfl rfl (Or.inl rfl) (by decide) (by omega) (by omega) (fun h1 sh1 eh1 fh1 => ?_)
  have s2 := (fh1 x 0 (fun q => absurd q.2 (by decide))).trans esk
  have s3 := (fh1 sk 0 (fun q => absurd q.2 (by decide))).trans ebt
  have s4 := (fh1 sk 1 (fun q => absurd q.2 (by decide))).trans ec0
  have s5 := (fh1 sk 3 (fun q => absurd q.2 (by decide))).trans eh0
  refine gz_s 2 (pc' := 7) (L' := [some (.ref x), some (.int (zi f)), some (.int (zi t)), some (.int (zi hi)), some (.int (zi lo))]) (S' := [.int (zi t), .ref x]) rfl ?_
  refine gs_put rfl (by decide) rfl sh1 tx rfl rfl rfl rfl (Or.inl rfl) (by decide) (by omega) (by omega) (fun h6 sh6 eh6 fh6 => ?_)
  have s7 := (fh6 x 0 (fun q => absurd q.2 (by decide))).trans s2
  have s8 := (fh6 sk 0 (fun q => absurd q.2 (by decide))).trans s3
  have s9 := (fh6 sk 1 (fun q => absurd q.2 (by decide))).trans s4
  have s10 := (fh6 sk 3 (fun q => absurd q.2 (by decide))).trans s5
  have s11 := (fh6 x 7 (fun q => absurd q.2 (by decide))).trans eh1
  refine gz_s 2 (pc' := 12) (L' := [some (.ref x), some (.int (zi f)), some (.int (zi t)), some (.int (zi hi)), some (.int (zi lo))]) (S' := [.int (zi hi), .ref x]) rfl ?_
  refine gs_put rfl (by decide) rfl sh6 tx rfl rfl rfl rfl (Or.inl rfl) (by decide) (by omega) (by omega) (fun h12 sh12 eh12 fh12 => ?_)
  have s13 := (fh12 x 0 (fun q => absurd q.2 (by decide))).trans s7
  have s14 := (fh12 sk 0 (fun q => absurd q.2 (by decide))).trans s8
  have s15 := (fh12 sk 1 (fun q => absurd q.2 (by decide))).trans s9
  have s16 := (fh12 sk 3 (fun q => absurd q.2 (by decide))).trans s10
  have s17 := (fh12 x 7 (fun q => absurd q.2 (by decide))).trans s11
  have s18 := (fh12 x 8 (fun q => absurd q.2 (by decide))).trans eh6
  refine gz_s 2 (pc' := 18) (L' := [some (.ref x), some (.int (zi f)), some (.int (zi t)), some (.int (zi hi)), some (.int (zi lo))]) (S' := [.int (zi lo), .ref x]) rfl ?_
  refine gs_put rfl (by decide) rfl sh12 tx rfl rfl rfl rfl (Or.inl rfl) (by decide) (by omega) (by omega) (fun h19 sh19 eh19 fh19 => ?_)
  have s20 := (fh19 x 0 (fun q => absurd q.2 (by decide))).trans s13
  have s21 := (fh19 sk 0 (fun q => absurd q.2 (by decide))).trans s14
  have s22 := (fh19 sk 1 (fun q => absurd q.2 (by decide))).trans s15
  have s23 := (fh19 sk 3 (fun q => absurd q.2 (by decide))).trans s16
  have s24 := (fh19 x 7 (fun q => absurd q.2 (by decide))).trans s17
  have s25 := (fh19 x 8 (fun q => absurd q.2 (by decide))).trans s18
  have s26 := (fh19 x 9 (fun q => absurd q.2 (by decide))).trans eh12
  refine gz_s 1 (pc' := 22) (L' := [some (.ref x), some (.int (zi f)), some (.int (zi t)), some (.int (zi hi)), some (.int (zi lo))]) (S' := [.ref x]) rfl ?_
  refine gs_gtr rfl (by decide) rfl sh19.1 tx rfl rfl rfl (fun c27 ec27 tc27 => ?_)
  refine gz_s 1 (pc' := 26) (L' := [some (.ref x), some (.int (zi f)), some (.int (zi t)), some (.int (zi hi)), some (.int (zi lo))]) (S' := [.int (zi 0), .ref c27]) rfl ?_
  have he30 : (0 : Int) = 0 := by omega
  refine gs_aal (j := 0) (q2 := 91) rfl (by decide) sh19.1 tc27 rfl rfl rfl (by decide) he30 rfl (by decide) (fun c31 ec31 tc31 => ?_)
  refine gz_call rfl (by decide) rfl (by decide) (by decide) (gcal_of rfl rfl rfl (Nat.le_of_ble_eq_true rfl) (gJ.recv (G := gGG) sh19.1 tc31 rfl rfl)) (cl_Suited0_forget _ sh19.1 c31 tc31 uq) (fun q32 _ wq32 => ?_)
  obtain ⟨pq32, oq32, hq32⟩ := q32
  obtain ⟨xq32, gq32⟩ := wq32
  refine ⟨_, gq32, ?_⟩
  show gz gPP gGG gcn _ _ 30 [some (.ref x), some (.int (zi f)), some (.int (zi t)), some (.int (zi hi)), some (.int (zi lo))] [] hq32 _
  have sq32 : gSs rT 1027 ty [56000, 56001, 56002, 56003, 71007, 71008, 71009, 71010, 71011, 71012, 71013, 71014, 76999, 77999, 78999, 79999, 80999, 81999, 85999, 91004, 91008, 92004, 92008, 93999, 94999, 95999, 96999, 97999, 98999, 99999, 114999] h hq32 := gSs.tr sh19 xq32 (by decide)
  have s33 := (xq32.2.2.2.2.2 x 0 (by rw [tx]; decide)).trans s20
  have s34 := (xq32.2.2.2.2.2 sk 0 (by rw [tsk]; decide)).trans s21
  have s35 := (xq32.2.2.2.2.2 sk 1 (by rw [tsk]; decide)).trans s22
  have s36 := (xq32.2.2.2.2.2 sk 3 (by rw [tsk]; decide)).trans s23
  have s37 := (xq32.2.2.2.2.2 x 7 (by rw [tx]; decide)).trans s24
  have s38 := (xq32.2.2.2.2.2 x 8 (by rw [tx]; decide)).trans s25
  have s39 := (xq32.2.2.2.2.2 x 9 (by rw [tx]; decide)).trans s26
  have s40 := (xq32.2.2.2.2.2 x 10 (by rw [tx]; decide)).trans eh19
  have s41 := (xq32.2.2.2.2.2 x 4 (by rw [tx]; decide)).trans ec27
  have s42 := (xq32.2.2.2.2.2 c27 0 (by rw [tc27]; decide)).trans ec31
  refine gz_s 1 (pc' := 31) (L' := [some (.ref x), some (.int (zi f)), some (.int (zi t)), some (.int (zi hi)), some (.int (zi lo))]) (S' := [.ref x]) rfl ?_
  refine gs_gtk rfl (by decide) rfl sq32.1 tx rfl rfl s41 ?_
  refine gz_s 1 (pc' := 35) (L' := [some (.ref x), some (.int (zi f)), some (.int (zi t)), some (.int (zi hi)), some (.int (zi lo))]) (S' := [.int (zi 1), .ref c27]) rfl ?_
  have he45 : (1 : Int) = 1 := by omega
  refine gs_aal (j := 1) (q2 := 92) rfl (by decide) sq32.1 tc27 rfl rfl rfl (by decide) he45 rfl (by decide) (fun c46 ec46 tc46 => ?_)
  refine gz_call rfl (by decide) rfl (by decide) (by decide) (gcal_of rfl rfl rfl (Nat.le_of_ble_eq_true rfl) (gJ.recv (G := gGG) sq32.1 tc46 rfl rfl)) (cl_Suited1_forget _ sq32.1 c46 tc46 uq) (fun q47 _ wq47 => ?_)
  obtain ⟨pq47, oq47, hq47⟩ := q47
  obtain ⟨xq47, gq47⟩ := wq47
  refine ⟨_, gq47, ?_⟩
  show gz gPP gGG gcn _ _ 39 [some (.ref x), some (.int (zi f)), some (.int (zi t)), some (.int (zi hi)), some (.int (zi lo))] [] hq47 _
  have sq47 : gSs rT 1027 ty [56000, 56001, 56002, 56003, 71007, 71008, 71009, 71010, 71011, 71012, 71013, 71014, 76999, 77999, 78999, 79999, 80999, 81999, 85999, 91004, 91008, 92004, 92008, 93999, 94999, 95999, 96999, 97999, 98999, 99999, 114999] h hq47 := gSs.tr sq32 xq47 (by decide)
  have s48 := (xq47.2.2.2.2.2 x 0 (by rw [tx]; decide)).trans s33
  have s49 := (xq47.2.2.2.2.2 sk 0 (by rw [tsk]; decide)).trans s34
  have s50 := (xq47.2.2.2.2.2 sk 1 (by rw [tsk]; decide)).trans s35
  have s51 := (xq47.2.2.2.2.2 sk 3 (by rw [tsk]; decide)).trans s36
  have s52 := (xq47.2.2.2.2.2 x 7 (by rw [tx]; decide)).trans s37
  have s53 := (xq47.2.2.2.2.2 x 8 (by rw [tx]; decide)).trans s38
  have s54 := (xq47.2.2.2.2.2 x 9 (by rw [tx]; decide)).trans s39
  have s55 := (xq47.2.2.2.2.2 x 10 (by rw [tx]; decide)).trans s40
  have s56 := (xq47.2.2.2.2.2 x 4 (by rw [tx]; decide)).trans s41
  have s57 := (xq47.2.2.2.2.2 c27 0 (by rw [tc27]; decide)).trans s42
  have s58 := (xq47.2.2.2.2.2 c27 1 (by rw [tc27]; decide)).trans ec46
  refine gz_s 2 (pc' := 41) (L' := [some (.ref x), some (.int (zi f)), some (.int (zi t)), some (.int (zi hi)), some (.int (zi lo))]) (S' := [.int (zi 1), .ref x]) rfl ?_
  refine gs_put rfl (by decide) rfl sq47 tx rfl rfl rfl rfl (Or.inl rfl) (by decide) (by omega) (by omega) (fun h59 sh59 eh59 fh59 => ?_)
  have s60 := (fh59 x 0 (fun q => absurd q.2 (by decide))).trans s48
  have s61 := (fh59 sk 0 (fun q => absurd q.2 (by decide))).trans s49
  have s62 := (fh59 sk 1 (fun q => absurd q.2 (by decide))).trans s50
  have s63 := (fh59 sk 3 (fun q => absurd q.2 (by decide))).trans s51
  have s64 := (fh59 x 7 (fun q => absurd q.2 (by decide))).trans s52
  have s65 := (fh59 x 8 (fun q => absurd q.2 (by decide))).trans s53
  have s66 := (fh59 x 9 (fun q => absurd q.2 (by decide))).trans s54
  have s67 := (fh59 x 10 (fun q => absurd q.2 (by decide))).trans s55
  have s68 := (fh59 x 4 (fun q => absurd q.2 (by decide))).trans s56
  have s69 := (fh59 c27 0 (fun q => absurd (((tc27).symm.trans (congrArg ty q.1)).trans tx) (by decide))).trans s57
  have s70 := (fh59 c27 1 (fun q => absurd (((tc27).symm.trans (congrArg ty q.1)).trans tx) (by decide))).trans s58
  refine gz_s 1 (pc' := 45) (L' := [some (.ref x), some (.int (zi f)), some (.int (zi t)), some (.int (zi hi)), some (.int (zi lo))]) (S' := [.ref x]) rfl ?_
  have k71 := sh59.2.1
  have k71b := sh59.2.2.1
  have hl72 : h59.2.2.2.1 bt = h.2.2.2.1 bt := congrFun sh59.2.2.2.2.1 bt
  have hl73 : h59.2.2.2.1 bt = h.2.2.2.1 bt := congrFun sh59.2.2.2.2.1 bt
  obtain ⟨z74, ez74, az74, bz74⟩ := gJ.int (k := 5) (G := gGG) sh59.1 tx rfl rfl rfl
  obtain ⟨z75, ez75, az75, bz75⟩ := gJ.int (k := 6) (G := gGG) sh59.1 tx rfl rfl rfl
  refine gz_call rfl (by decide) rfl (by decide) (by decide) (gcal_of rfl rfl rfl (Nat.le_of_ble_eq_true rfl) (gJ.recv (G := gGG) sh59.1 tx rfl rfl)) (cl_Writer_putBlocks _ sh59.1 x tx sk s60 tsk bt s61 tbt c0 s62 (by omega) h0 s63 (by omega) 1 eh59 (by omega) f s64 (by omega) t s65 (by omega) z74 ez74 (by omega) z75 ez75 (by omega) (by omega) (by omega) (by omega) uq) (fun q76 _ wq76 => ?_)
  obtain ⟨pq76, oq76, hq76⟩ := q76
  obtain ⟨tyq76, xq76, cq76_0, ttq76, fq76_0, fq76_1, ecq76_0, tcq76_0, gq76, efq76_0, afq76_0, bfq76_0, efq76_1, afq76_1, bfq76_1, uq76_0, uq76_1, uq76_2, uq76_3, uq76_4, uq76_5, uq76_6⟩ := wq76
  dsimp only at uq76_3 uq76_4 uq76_5 uq76_6
  refine ⟨_, gq76, ?_⟩
  show gz gPP gGG gcn _ _ 48 [some (.ref x), some (.int (zi f)), some (.int (zi t)), some (.int (zi hi)), some (.int (zi lo))] [] hq76 _
  have G77 : gSg [114] [] [56000, 56001, 56002, 56003, 71007, 71008, 71009, 71010, 71011, 71012, 71013, 71014, 76999, 77999, 78999, 79999, 80999, 81999, 85999, 91004, 91008, 92004, 92008, 93999, 94999, 95999, 96999, 97999, 98999, 99999, 114999] ty h tyq76 hq76 := gSg.tr (gSg.ss G0 sh59 (by decide)) xq76 (by decide) (by decide) (fun x hx => by cases hx)
  have t78 : tyq76 x = 71 := gSg.typ xq76 sh59.1 tx rfl
  have t79 : tyq76 sk = 56 := gSg.typ xq76 sh59.1 tsk rfl
  have t80 : tyq76 bt = 114 := gSg.typ xq76 sh59.1 tbt rfl
  have hl81 : hq76.2.2.2.1 bt = h59.2.2.2.1 bt := gSg.len xq76 sh59.1 tbt rfl
  have t82 : tyq76 c27 = 75 := gSg.typ xq76 sh59.1 tc27 rfl
  have t83 : tyq76 c31 = 91 := gSg.typ xq76 sh59.1 tc31 rfl
  have t84 : tyq76 c46 = 92 := gSg.typ xq76 sh59.1 tc46 rfl
  have s85 := gSg.at xq76 sh59.1 tx rfl (by decide) s60
  have s86 := gSg.at xq76 sh59.1 tx rfl (by decide) s64
  have s87 := gSg.at xq76 sh59.1 tx rfl (by decide) s65
  have s88 := gSg.at xq76 sh59.1 tx rfl (by decide) s66
  have s89 := gSg.at xq76 sh59.1 tx rfl (by decide) s67
  have s90 := gSg.at xq76 sh59.1 tx rfl (by decide) s68
  have s91 := gSg.at xq76 sh59.1 tc27 rfl (by decide) s69
  have s92 := gSg.at xq76 sh59.1 tc27 rfl (by decide) s70
  have s93 := gSg.at xq76 sh59.1 tx rfl (by decide) eh59
  have s94 := gSg.at xq76 sh59.1 tx rfl (by decide) ez74
  have s95 := gSg.at xq76 sh59.1 tx rfl (by decide) ez75
  have uq96 := gSg.uq xq76 uq (by decide)
  have sS97 : gSs rT 1027 tyq76 [56000, 56001, 56002, 56003, 71007, 71008, 71009, 71010, 71011, 71012, 71013, 71014, 76999, 77999, 78999, 79999, 80999, 81999, 85999, 91004, 91008, 92004, 92008, 93999, 94999, 95999, 96999, 97999, 98999, 99999, 114999] hq76 hq76 := gSs.rf xq76.1
  refine gz_s 1 (pc' := 49) (L' := [some (.ref x), some (.int (zi f)), some (.int (zi t)), some (.int (zi hi)), some (.int (zi lo))]) (S' := [.ref x]) rfl ?_
  refine gs_gtk rfl (by decide) rfl sS97.1 t78 rfl rfl s86 ?_
  by_cases hc98 : ¬ (f : Int) = 0
  · refine gy_ifT (pc' := 67) rfl (by decide) (by decide) (by omega) hc98 ?_
    refine gz_s 1 (pc' := 68) (L' := [some (.ref x), some (.int (zi f)), some (.int (zi t)), some (.int (zi hi)), some (.int (zi lo))]) (S' := [.ref x]) rfl ?_
    refine gs_gtk rfl (by decide) rfl sS97.1 t78 rfl rfl s87 ?_
    by_cases hc99 : (t : Int) ≤ 0
    · refine gy_ifT (pc' := 79) rfl (by decide) (by decide) (by omega) hc99 ?_
      refine gz_s 1 (pc' := 80) (L' := [some (.ref x), some (.int (zi f)), some (.int (zi t)), some (.int (zi hi)), some (.int (zi lo))]) (S' := [.ref x]) rfl ?_
      have hl100 : hq76.2.2.2.1 cq76_0 = hq76.2.2.2.1 cq76_0 := congrFun sS97.2.2.2.2.1 cq76_0
      refine gz_call rfl (by decide) rfl (by decide) (by decide) (gcal_of rfl rfl rfl (Nat.le_of_ble_eq_true rfl) (gJ.recv (G := gGG) sS97.1 t78 rfl rfl)) (cl_Writer_putScanHead _ sS97.1 x t78 sk s85 t79 cq76_0 ecq76_0 tcq76_0 fq76_0 efq76_0 (by omega) (by omega) uq96) (fun q101 _ wq101 => ?_)
      obtain ⟨pq101, oq101, hq101⟩ := q101
      obtain ⟨tyq101, xq101, cq101_0, ttq101, fq101_0, ecq101_0, tcq101_0, gq101, efq101_0, afq101_0, bfq101_0, uq101_0, uq101_1, uq101_2, uq101_3, uq101_4⟩ := wq101
      dsimp only at uq101_1 uq101_2 uq101_3 uq101_4
      refine ⟨_, gq101, ?_⟩
      show gz gPP gGG gcn _ _ 83 [some (.ref x), some (.int (zi f)), some (.int (zi t)), some (.int (zi hi)), some (.int (zi lo))] [] hq101 _
      have G102 : gSg [114] [] [56000, 56001, 56002, 56003, 71007, 71008, 71009, 71010, 71011, 71012, 71013, 71014, 76999, 77999, 78999, 79999, 80999, 81999, 85999, 91004, 91008, 92004, 92008, 93999, 94999, 95999, 96999, 97999, 98999, 99999, 114999] ty h tyq101 hq101 := gSg.tr (gSg.ss G77 sS97 (by decide)) xq101 (by decide) (by decide) (fun x hx => by cases hx)
      have t103 : tyq101 x = 71 := gSg.typ xq101 sS97.1 t78 rfl
      have t104 : tyq101 sk = 56 := gSg.typ xq101 sS97.1 t79 rfl
      have t105 : tyq101 bt = 114 := gSg.typ xq101 sS97.1 t80 rfl
      have hl106 : hq101.2.2.2.1 bt = hq76.2.2.2.1 bt := gSg.len xq101 sS97.1 t80 rfl
      have t107 : tyq101 c27 = 75 := gSg.typ xq101 sS97.1 t82 rfl
      have t108 : tyq101 c31 = 91 := gSg.typ xq101 sS97.1 t83 rfl
      have t109 : tyq101 c46 = 92 := gSg.typ xq101 sS97.1 t84 rfl
      have t110 : tyq101 cq76_0 = 114 := gSg.typ xq101 sS97.1 tcq76_0 rfl
      have hl111 : hq101.2.2.2.1 cq76_0 = hq76.2.2.2.1 cq76_0 := gSg.len xq101 sS97.1 tcq76_0 rfl
      have s112 := gSg.at xq101 sS97.1 t78 rfl (by decide) s85
      have s113 := gSg.at xq101 sS97.1 t78 rfl (by decide) s86
      have s114 := gSg.at xq101 sS97.1 t78 rfl (by decide) s87
      have s115 := gSg.at xq101 sS97.1 t78 rfl (by decide) s88
      have s116 := gSg.at xq101 sS97.1 t78 rfl (by decide) s89
      have s117 := gSg.at xq101 sS97.1 t78 rfl (by decide) s90
      have s118 := gSg.at xq101 sS97.1 t82 rfl (by decide) s91
      have s119 := gSg.at xq101 sS97.1 t82 rfl (by decide) s92
      have s120 := gSg.at xq101 sS97.1 t78 rfl (by decide) s93
      have s121 := gSg.at xq101 sS97.1 t78 rfl (by decide) s94
      have s122 := gSg.at xq101 sS97.1 t78 rfl (by decide) s95
      have s123 := gSg.at xq101 sS97.1 t79 rfl (by decide) efq76_1
      have uq124 := gSg.uq xq101 uq96 (by decide)
      have sS125 : gSs rT 1027 tyq101 [56000, 56001, 56002, 56003, 71007, 71008, 71009, 71010, 71011, 71012, 71013, 71014, 76999, 77999, 78999, 79999, 80999, 81999, 85999, 91004, 91008, 92004, 92008, 93999, 94999, 95999, 96999, 97999, 98999, 99999, 114999] hq101 hq101 := gSs.rf xq101.1
      refine gz_s 2 (pc' := 85) (L' := [some (.ref x), some (.int (zi f)), some (.int (zi t)), some (.int (zi hi)), some (.int (zi lo))]) (S' := [.int (zi 0), .ref x]) rfl ?_
      refine gs_put rfl (by decide) rfl sS125 t103 rfl rfl rfl rfl (Or.inl rfl) (by decide) (by omega) (by omega) (fun h126 sh126 eh126 fh126 => ?_)
      have s127 := (fh126 x 0 (fun q => absurd q.2 (by decide))).trans s112
      have s128 := (fh126 x 7 (fun q => absurd q.2 (by decide))).trans s113
      have s129 := (fh126 x 8 (fun q => absurd q.2 (by decide))).trans s114
      have s130 := (fh126 x 9 (fun q => absurd q.2 (by decide))).trans s115
      have s131 := (fh126 x 10 (fun q => absurd q.2 (by decide))).trans s116
      have s132 := (fh126 x 4 (fun q => absurd q.2 (by decide))).trans s117
      have s133 := (fh126 c27 0 (fun q => absurd (((t107).symm.trans (congrArg tyq101 q.1)).trans t103) (by decide))).trans s118
      have s134 := (fh126 c27 1 (fun q => absurd (((t107).symm.trans (congrArg tyq101 q.1)).trans t103) (by decide))).trans s119
      have s135 := (fh126 x 5 (fun q => absurd q.2 (by decide))).trans s121
      have s136 := (fh126 x 6 (fun q => absurd q.2 (by decide))).trans s122
      have s137 := (fh126 sk 3 (fun q => absurd q.2 (by decide))).trans s123
      have s138 := (fh126 sk 0 (fun q => absurd q.2 (by decide))).trans ecq101_0
      have s139 := (fh126 sk 1 (fun q => absurd q.2 (by decide))).trans efq101_0
      refine gz_s 1 (pc' := 89) (L' := [some (.ref x), some (.int (zi f)), some (.int (zi t)), some (.int (zi hi)), some (.int (zi lo))]) (S' := [.ref x]) rfl ?_
      have k140 := sh126.2.1
      have k140b := sh126.2.2.1
      have hl141 : h126.2.2.2.1 bt = hq101.2.2.2.1 bt := congrFun sh126.2.2.2.2.1 bt
      have hl142 : h126.2.2.2.1 cq76_0 = hq101.2.2.2.1 cq76_0 := congrFun sh126.2.2.2.2.1 cq76_0
      have hl143 : h126.2.2.2.1 cq101_0 = hq101.2.2.2.1 cq101_0 := congrFun sh126.2.2.2.2.1 cq101_0
      have hl144 : h126.2.2.2.1 cq101_0 = hq101.2.2.2.1 cq101_0 := congrFun sh126.2.2.2.2.1 cq101_0
      refine gz_call rfl (by decide) rfl (by decide) (by decide) (gcal_of rfl rfl rfl (Nat.le_of_ble_eq_true rfl) (gJ.recv (G := gGG) sh126.1 t103 rfl rfl)) (cl_Writer_putBlocks _ sh126.1 x t103 sk s127 t104 cq101_0 s138 tcq101_0 fq101_0 s139 (by omega) fq76_1 s137 (by omega) 0 eh126 (by omega) f s128 (by omega) t s129 (by omega) z74 s135 (by omega) z75 s136 (by omega) (by omega) (by omega) (by omega) uq124) (fun q145 _ wq145 => ?_)
      obtain ⟨pq145, oq145, hq145⟩ := q145
      obtain ⟨tyq145, xq145, cq145_0, ttq145, fq145_0, fq145_1, ecq145_0, tcq145_0, gq145, efq145_0, afq145_0, bfq145_0, efq145_1, afq145_1, bfq145_1, uq145_0, uq145_1, uq145_2, uq145_3, uq145_4, uq145_5, uq145_6⟩ := wq145
      dsimp only at uq145_3 uq145_4 uq145_5 uq145_6
      refine ⟨_, gq145, ?_⟩
      show gz gPP gGG gcn _ _ 92 [some (.ref x), some (.int (zi f)), some (.int (zi t)), some (.int (zi hi)), some (.int (zi lo))] [] hq145 _
      have G146 : gSg [114] [] [56000, 56001, 56002, 56003, 71007, 71008, 71009, 71010, 71011, 71012, 71013, 71014, 76999, 77999, 78999, 79999, 80999, 81999, 85999, 91004, 91008, 92004, 92008, 93999, 94999, 95999, 96999, 97999, 98999, 99999, 114999] ty h tyq145 hq145 := gSg.tr (gSg.ss G102 sh126 (by decide)) xq145 (by decide) (by decide) (fun x hx => by cases hx)
      have t147 : tyq145 x = 71 := gSg.typ xq145 sh126.1 t103 rfl
      have t148 : tyq145 sk = 56 := gSg.typ xq145 sh126.1 t104 rfl
      have t149 : tyq145 bt = 114 := gSg.typ xq145 sh126.1 t105 rfl
      have hl150 : hq145.2.2.2.1 bt = h126.2.2.2.1 bt := gSg.len xq145 sh126.1 t105 rfl
      have t151 : tyq145 c27 = 75 := gSg.typ xq145 sh126.1 t107 rfl
      have t152 : tyq145 c31 = 91 := gSg.typ xq145 sh126.1 t108 rfl
      have t153 : tyq145 c46 = 92 := gSg.typ xq145 sh126.1 t109 rfl
      have t154 : tyq145 cq76_0 = 114 := gSg.typ xq145 sh126.1 t110 rfl
      have hl155 : hq145.2.2.2.1 cq76_0 = h126.2.2.2.1 cq76_0 := gSg.len xq145 sh126.1 t110 rfl
      have t156 : tyq145 cq101_0 = 114 := gSg.typ xq145 sh126.1 tcq101_0 rfl
      have hl157 : hq145.2.2.2.1 cq101_0 = h126.2.2.2.1 cq101_0 := gSg.len xq145 sh126.1 tcq101_0 rfl
      have s158 := gSg.at xq145 sh126.1 t103 rfl (by decide) s127
      have s159 := gSg.at xq145 sh126.1 t103 rfl (by decide) s128
      have s160 := gSg.at xq145 sh126.1 t103 rfl (by decide) s129
      have s161 := gSg.at xq145 sh126.1 t103 rfl (by decide) s130
      have s162 := gSg.at xq145 sh126.1 t103 rfl (by decide) s131
      have s163 := gSg.at xq145 sh126.1 t103 rfl (by decide) s132
      have s164 := gSg.at xq145 sh126.1 t107 rfl (by decide) s133
      have s165 := gSg.at xq145 sh126.1 t107 rfl (by decide) s134
      have s166 := gSg.at xq145 sh126.1 t103 rfl (by decide) s135
      have s167 := gSg.at xq145 sh126.1 t103 rfl (by decide) s136
      have s168 := gSg.at xq145 sh126.1 t103 rfl (by decide) eh126
      have uq169 := gSg.uq xq145 uq124 (by decide)
      have sS170 : gSs rT 1027 tyq145 [56000, 56001, 56002, 56003, 71007, 71008, 71009, 71010, 71011, 71012, 71013, 71014, 76999, 77999, 78999, 79999, 80999, 81999, 85999, 91004, 91008, 92004, 92008, 93999, 94999, 95999, 96999, 97999, 98999, 99999, 114999] hq145 hq145 := gSs.rf xq145.1
      refine gz_s 1 (pc' := 93) (L' := [some (.ref x), some (.int (zi f)), some (.int (zi t)), some (.int (zi hi)), some (.int (zi lo))]) (S' := [.ref x]) rfl ?_
      refine gs_gtk rfl (by decide) rfl sS170.1 t147 rfl rfl s158 ?_
      have hl171 : hq145.2.2.2.1 cq145_0 = hq145.2.2.2.1 cq145_0 := congrFun sS170.2.2.2.2.1 cq145_0
      refine gz_call rfl (by decide) rfl (by decide) (by decide) (gcal_of rfl rfl rfl (Nat.le_of_ble_eq_true rfl) (gJ.recv (G := gGG) sS170.1 t148 rfl rfl)) (cl_Sink_fillByte _ sS170.1 sk t148 cq145_0 ecq145_0 tcq145_0 fq145_0 efq145_0 (by omega) fq145_1 efq145_1 (by omega) (by omega) (by omega) uq169) (fun q172 _ wq172 => ?_)
      obtain ⟨pq172, oq172, hq172⟩ := q172
      obtain ⟨tyq172, xq172, cq172_0, ttq172, fq172_0, fq172_1, ecq172_0, tcq172_0, gq172, efq172_0, afq172_0, bfq172_0, efq172_1, afq172_1, bfq172_1, uq172_0, uq172_1, uq172_2, uq172_3, uq172_4, uq172_5⟩ := wq172
      dsimp only at uq172_2 uq172_3 uq172_4 uq172_5
      refine ⟨_, gq172, ?_⟩
      show gz gPP gGG gcn _ _ 99 [some (.ref x), some (.int (zi f)), some (.int (zi t)), some (.int (zi hi)), some (.int (zi lo))] [] hq172 _
      have G173 : gSg [114] [] [56000, 56001, 56002, 56003, 71007, 71008, 71009, 71010, 71011, 71012, 71013, 71014, 76999, 77999, 78999, 79999, 80999, 81999, 85999, 91004, 91008, 92004, 92008, 93999, 94999, 95999, 96999, 97999, 98999, 99999, 114999] ty h tyq172 hq172 := gSg.tr (gSg.ss G146 sS170 (by decide)) xq172 (by decide) (by decide) (fun x hx => by cases hx)
      have t174 : tyq172 x = 71 := gSg.typ xq172 sS170.1 t147 rfl
      have t175 : tyq172 sk = 56 := gSg.typ xq172 sS170.1 t148 rfl
      have t176 : tyq172 bt = 114 := gSg.typ xq172 sS170.1 t149 rfl
      have hl177 : hq172.2.2.2.1 bt = hq145.2.2.2.1 bt := gSg.len xq172 sS170.1 t149 rfl
      have t178 : tyq172 c27 = 75 := gSg.typ xq172 sS170.1 t151 rfl
      have t179 : tyq172 c31 = 91 := gSg.typ xq172 sS170.1 t152 rfl
      have t180 : tyq172 c46 = 92 := gSg.typ xq172 sS170.1 t153 rfl
      have t181 : tyq172 cq76_0 = 114 := gSg.typ xq172 sS170.1 t154 rfl
      have hl182 : hq172.2.2.2.1 cq76_0 = hq145.2.2.2.1 cq76_0 := gSg.len xq172 sS170.1 t154 rfl
      have t183 : tyq172 cq101_0 = 114 := gSg.typ xq172 sS170.1 t156 rfl
      have hl184 : hq172.2.2.2.1 cq101_0 = hq145.2.2.2.1 cq101_0 := gSg.len xq172 sS170.1 t156 rfl
      have t185 : tyq172 cq145_0 = 114 := gSg.typ xq172 sS170.1 tcq145_0 rfl
      have hl186 : hq172.2.2.2.1 cq145_0 = hq145.2.2.2.1 cq145_0 := gSg.len xq172 sS170.1 tcq145_0 rfl
      have s187 := gSg.at xq172 sS170.1 t147 rfl (by decide) s158
      have s188 := gSg.at xq172 sS170.1 t147 rfl (by decide) s159
      have s189 := gSg.at xq172 sS170.1 t147 rfl (by decide) s160
      have s190 := gSg.at xq172 sS170.1 t147 rfl (by decide) s161
      have s191 := gSg.at xq172 sS170.1 t147 rfl (by decide) s162
      have s192 := gSg.at xq172 sS170.1 t147 rfl (by decide) s163
      have s193 := gSg.at xq172 sS170.1 t151 rfl (by decide) s164
      have s194 := gSg.at xq172 sS170.1 t151 rfl (by decide) s165
      have s195 := gSg.at xq172 sS170.1 t147 rfl (by decide) s166
      have s196 := gSg.at xq172 sS170.1 t147 rfl (by decide) s167
      have s197 := gSg.at xq172 sS170.1 t147 rfl (by decide) s168
      have uq198 := gSg.uq xq172 uq169 (by decide)
      have sS199 : gSs rT 1027 tyq172 [56000, 56001, 56002, 56003, 71007, 71008, 71009, 71010, 71011, 71012, 71013, 71014, 76999, 77999, 78999, 79999, 80999, 81999, 85999, 91004, 91008, 92004, 92008, 93999, 94999, 95999, 96999, 97999, 98999, 99999, 114999] hq172 hq172 := gSs.rf xq172.1
      have G200 : gSg [114] [] [56000, 56001, 56002, 56003, 71007, 71008, 71009, 71010, 71011, 71012, 71013, 71014, 76999, 77999, 78999, 79999, 80999, 81999, 85999, 91004, 91008, 92004, 92008, 93999, 94999, 95999, 96999, 97999, 98999, 99999, 114999] ty h tyq172 hq172 := gSg.ss G173 sS199 (by decide)
      exact gz_end (I := .return_) (len := 1) rfl (Or.inl rfl) ⟨tyq172, G200, cq172_0, trivial, fq172_0, fq172_1, ecq172_0, tcq172_0, rfl, efq172_0, (by omega), (by omega), efq172_1, (by omega), (by omega), (by omega), (by omega), (by dsimp only; omega), (by dsimp only; omega), (by dsimp only; omega), (by dsimp only; omega)⟩
    · refine gy_ifF rfl (by decide) (by decide) (by omega) hc99 ?_
      refine gz_s 2 (pc' := 76) (L' := [some (.ref x), some (.int (zi f)), some (.int (zi t)), some (.int (zi hi)), some (.int (zi lo))]) (S' := [.int (zi 1), .ref x]) rfl ?_
      have hl201 : hq76.2.2.2.1 cq76_0 = hq76.2.2.2.1 cq76_0 := congrFun sS97.2.2.2.2.1 cq76_0
      refine gz_call rfl (by decide) rfl (by decide) (by decide) (gcal_of rfl rfl rfl (Nat.le_of_ble_eq_true rfl) (gJ.recv (G := gGG) sS97.1 t78 rfl rfl)) (cl_putCodes1 _ sS97.1 x t78 1 (by omega) sk s85 t79 cq76_0 ecq76_0 tcq76_0 fq76_0 efq76_0 (by omega) (by omega) uq96) (fun q202 _ wq202 => ?_)
      obtain ⟨pq202, oq202, hq202⟩ := q202
      obtain ⟨tyq202, xq202, cq202_0, ttq202, fq202_0, ecq202_0, tcq202_0, gq202, efq202_0, afq202_0, bfq202_0, uq202_0, uq202_1, uq202_2, uq202_3, uq202_4, uq202_5⟩ := wq202
      dsimp only at uq202_2 uq202_3 uq202_4 uq202_5
      refine ⟨_, gq202, ?_⟩
      show gz gPP gGG gcn _ _ 79 [some (.ref x), some (.int (zi f)), some (.int (zi t)), some (.int (zi hi)), some (.int (zi lo))] [] hq202 _
      have G203 : gSg [114] [] [56000, 56001, 56002, 56003, 71007, 71008, 71009, 71010, 71011, 71012, 71013, 71014, 76999, 77999, 78999, 79999, 80999, 81999, 85999, 91004, 91008, 92004, 92008, 93999, 94999, 95999, 96999, 97999, 98999, 99999, 114999] ty h tyq202 hq202 := gSg.tr (gSg.ss G77 sS97 (by decide)) xq202 (by decide) (by decide) (fun x hx => by cases hx)
      have t204 : tyq202 x = 71 := gSg.typ xq202 sS97.1 t78 rfl
      have t205 : tyq202 sk = 56 := gSg.typ xq202 sS97.1 t79 rfl
      have t206 : tyq202 bt = 114 := gSg.typ xq202 sS97.1 t80 rfl
      have hl207 : hq202.2.2.2.1 bt = hq76.2.2.2.1 bt := gSg.len xq202 sS97.1 t80 rfl
      have t208 : tyq202 c27 = 75 := gSg.typ xq202 sS97.1 t82 rfl
      have t209 : tyq202 c31 = 91 := gSg.typ xq202 sS97.1 t83 rfl
      have t210 : tyq202 c46 = 92 := gSg.typ xq202 sS97.1 t84 rfl
      have t211 : tyq202 cq76_0 = 114 := gSg.typ xq202 sS97.1 tcq76_0 rfl
      have hl212 : hq202.2.2.2.1 cq76_0 = hq76.2.2.2.1 cq76_0 := gSg.len xq202 sS97.1 tcq76_0 rfl
      have s213 := gSg.at xq202 sS97.1 t78 rfl (by decide) s85
      have s214 := gSg.at xq202 sS97.1 t78 rfl (by decide) s86
      have s215 := gSg.at xq202 sS97.1 t78 rfl (by decide) s87
      have s216 := gSg.at xq202 sS97.1 t78 rfl (by decide) s88
      have s217 := gSg.at xq202 sS97.1 t78 rfl (by decide) s89
      have s218 := gSg.at xq202 sS97.1 t78 rfl (by decide) s90
      have s219 := gSg.at xq202 sS97.1 t82 rfl (by decide) s91
      have s220 := gSg.at xq202 sS97.1 t82 rfl (by decide) s92
      have s221 := gSg.at xq202 sS97.1 t78 rfl (by decide) s93
      have s222 := gSg.at xq202 sS97.1 t78 rfl (by decide) s94
      have s223 := gSg.at xq202 sS97.1 t78 rfl (by decide) s95
      have s224 := gSg.at xq202 sS97.1 t79 rfl (by decide) efq76_1
      have uq225 := gSg.uq xq202 uq96 (by decide)
      have sS226 : gSs rT 1027 tyq202 [56000, 56001, 56002, 56003, 71007, 71008, 71009, 71010, 71011, 71012, 71013, 71014, 76999, 77999, 78999, 79999, 80999, 81999, 85999, 91004, 91008, 92004, 92008, 93999, 94999, 95999, 96999, 97999, 98999, 99999, 114999] hq202 hq202 := gSs.rf xq202.1
      refine gz_s 1 (pc' := 80) (L' := [some (.ref x), some (.int (zi f)), some (.int (zi t)), some (.int (zi hi)), some (.int (zi lo))]) (S' := [.ref x]) rfl ?_
      have hl227 : hq202.2.2.2.1 cq202_0 = hq202.2.2.2.1 cq202_0 := congrFun sS226.2.2.2.2.1 cq202_0
      refine gz_call rfl (by decide) rfl (by decide) (by decide) (gcal_of rfl rfl rfl (Nat.le_of_ble_eq_true rfl) (gJ.recv (G := gGG) sS226.1 t204 rfl rfl)) (cl_Writer_putScanHead _ sS226.1 x t204 sk s213 t205 cq202_0 ecq202_0 tcq202_0 fq202_0 efq202_0 (by omega) (by omega) uq225) (fun q228 _ wq228 => ?_)
      obtain ⟨pq228, oq228, hq228⟩ := q228
      obtain ⟨tyq228, xq228, cq228_0, ttq228, fq228_0, ecq228_0, tcq228_0, gq228, efq228_0, afq228_0, bfq228_0, uq228_0, uq228_1, uq228_2, uq228_3, uq228_4⟩ := wq228
      dsimp only at uq228_1 uq228_2 uq228_3 uq228_4
      refine ⟨_, gq228, ?_⟩
      show gz gPP gGG gcn _ _ 83 [some (.ref x), some (.int (zi f)), some (.int (zi t)), some (.int (zi hi)), some (.int (zi lo))] [] hq228 _
      have G229 : gSg [114] [] [56000, 56001, 56002, 56003, 71007, 71008, 71009, 71010, 71011, 71012, 71013, 71014, 76999, 77999, 78999, 79999, 80999, 81999, 85999, 91004, 91008, 92004, 92008, 93999, 94999, 95999, 96999, 97999, 98999, 99999, 114999] ty h tyq228 hq228 := gSg.tr (gSg.ss G203 sS226 (by decide)) xq228 (by decide) (by decide) (fun x hx => by cases hx)
      have t230 : tyq228 x = 71 := gSg.typ xq228 sS226.1 t204 rfl
      have t231 : tyq228 sk = 56 := gSg.typ xq228 sS226.1 t205 rfl
      have t232 : tyq228 bt = 114 := gSg.typ xq228 sS226.1 t206 rfl
      have hl233 : hq228.2.2.2.1 bt = hq202.2.2.2.1 bt := gSg.len xq228 sS226.1 t206 rfl
      have t234 : tyq228 c27 = 75 := gSg.typ xq228 sS226.1 t208 rfl
      have t235 : tyq228 c31 = 91 := gSg.typ xq228 sS226.1 t209 rfl
      have t236 : tyq228 c46 = 92 := gSg.typ xq228 sS226.1 t210 rfl
      have t237 : tyq228 cq76_0 = 114 := gSg.typ xq228 sS226.1 t211 rfl
      have hl238 : hq228.2.2.2.1 cq76_0 = hq202.2.2.2.1 cq76_0 := gSg.len xq228 sS226.1 t211 rfl
      have t239 : tyq228 cq202_0 = 114 := gSg.typ xq228 sS226.1 tcq202_0 rfl
      have hl240 : hq228.2.2.2.1 cq202_0 = hq202.2.2.2.1 cq202_0 := gSg.len xq228 sS226.1 tcq202_0 rfl
      have s241 := gSg.at xq228 sS226.1 t204 rfl (by decide) s213
      have s242 := gSg.at xq228 sS226.1 t204 rfl (by decide) s214
      have s243 := gSg.at xq228 sS226.1 t204 rfl (by decide) s215
      have s244 := gSg.at xq228 sS226.1 t204 rfl (by decide) s216
      have s245 := gSg.at xq228 sS226.1 t204 rfl (by decide) s217
      have s246 := gSg.at xq228 sS226.1 t204 rfl (by decide) s218
      have s247 := gSg.at xq228 sS226.1 t208 rfl (by decide) s219
      have s248 := gSg.at xq228 sS226.1 t208 rfl (by decide) s220
      have s249 := gSg.at xq228 sS226.1 t204 rfl (by decide) s221
      have s250 := gSg.at xq228 sS226.1 t204 rfl (by decide) s222
      have s251 := gSg.at xq228 sS226.1 t204 rfl (by decide) s223
      have s252 := gSg.at xq228 sS226.1 t205 rfl (by decide) s224
      have uq253 := gSg.uq xq228 uq225 (by decide)
      have sS254 : gSs rT 1027 tyq228 [56000, 56001, 56002, 56003, 71007, 71008, 71009, 71010, 71011, 71012, 71013, 71014, 76999, 77999, 78999, 79999, 80999, 81999, 85999, 91004, 91008, 92004, 92008, 93999, 94999, 95999, 96999, 97999, 98999, 99999, 114999] hq228 hq228 := gSs.rf xq228.1
      refine gz_s 2 (pc' := 85) (L' := [some (.ref x), some (.int (zi f)), some (.int (zi t)), some (.int (zi hi)), some (.int (zi lo))]) (S' := [.int (zi 0), .ref x]) rfl ?_
      refine gs_put rfl (by decide) rfl sS254 t230 rfl rfl rfl rfl (Or.inl rfl) (by decide) (by omega) (by omega) (fun h255 sh255 eh255 fh255 => ?_)
      have s256 := (fh255 x 0 (fun q => absurd q.2 (by decide))).trans s241
      have s257 := (fh255 x 7 (fun q => absurd q.2 (by decide))).trans s242
      have s258 := (fh255 x 8 (fun q => absurd q.2 (by decide))).trans s243
      have s259 := (fh255 x 9 (fun q => absurd q.2 (by decide))).trans s244
      have s260 := (fh255 x 10 (fun q => absurd q.2 (by decide))).trans s245
      have s261 := (fh255 x 4 (fun q => absurd q.2 (by decide))).trans s246
      have s262 := (fh255 c27 0 (fun q => absurd (((t234).symm.trans (congrArg tyq228 q.1)).trans t230) (by decide))).trans s247
      have s263 := (fh255 c27 1 (fun q => absurd (((t234).symm.trans (congrArg tyq228 q.1)).trans t230) (by decide))).trans s248
      have s264 := (fh255 x 5 (fun q => absurd q.2 (by decide))).trans s250
      have s265 := (fh255 x 6 (fun q => absurd q.2 (by decide))).trans s251
      have s266 := (fh255 sk 3 (fun q => absurd q.2 (by decide))).trans s252
      have s267 := (fh255 sk 0 (fun q => absurd q.2 (by decide))).trans ecq228_0
      have s268 := (fh255 sk 1 (fun q => absurd q.2 (by decide))).trans efq228_0
      refine gz_s 1 (pc' := 89) (L' := [some (.ref x), some (.int (zi f)), some (.int (zi t)), some (.int (zi hi)), some (.int (zi lo))]) (S' := [.ref x]) rfl ?_
      have k269 := sh255.2.1
      have k269b := sh255.2.2.1
      have hl270 : h255.2.2.2.1 bt = hq228.2.2.2.1 bt := congrFun sh255.2.2.2.2.1 bt
      have hl271 : h255.2.2.2.1 cq76_0 = hq228.2.2.2.1 cq76_0 := congrFun sh255.2.2.2.2.1 cq76_0
      have hl272 : h255.2.2.2.1 cq202_0 = hq228.2.2.2.1 cq202_0 := congrFun sh255.2.2.2.2.1 cq202_0
      have hl273 : h255.2.2.2.1 cq228_0 = hq228.2.2.2.1 cq228_0 := congrFun sh255.2.2.2.2.1 cq228_0
      have hl274 : h255.2.2.2.1 cq228_0 = hq228.2.2.2.1 cq228_0 := congrFun sh255.2.2.2.2.1 cq228_0
      refine gz_call rfl (by decide) rfl (by decide) (by decide) (gcal_of rfl rfl rfl (Nat.le_of_ble_eq_true rfl) (gJ.recv (G := gGG) sh255.1 t230 rfl rfl)) (cl_Writer_putBlocks _ sh255.1 x t230 sk s256 t231 cq228_0 s267 tcq228_0 fq228_0 s268 (by omega) fq76_1 s266 (by omega) 0 eh255 (by omega) f s257 (by omega) t s258 (by omega) z74 s264 (by omega) z75 s265 (by omega) (by omega) (by omega) (by omega) uq253) (fun q275 _ wq275 => ?_)
      obtain ⟨pq275, oq275, hq275⟩ := q275
      obtain ⟨tyq275, xq275, cq275_0, ttq275, fq275_0, fq275_1, ecq275_0, tcq275_0, gq275, efq275_0, afq275_0, bfq275_0, efq275_1, afq275_1, bfq275_1, uq275_0, uq275_1, uq275_2, uq275_3, uq275_4, uq275_5, uq275_6⟩ := wq275
      dsimp only at uq275_3 uq275_4 uq275_5 uq275_6
      refine ⟨_, gq275, ?_⟩
      show gz gPP gGG gcn _ _ 92 [some (.ref x), some (.int (zi f)), some (.int (zi t)), some (.int (zi hi)), some (.int (zi lo))] [] hq275 _
      have G276 : gSg [114] [] [56000, 56001, 56002, 56003, 71007, 71008, 71009, 71010, 71011, 71012, 71013, 71014, 76999, 77999, 78999, 79999, 80999, 81999, 85999, 91004, 91008, 92004, 92008, 93999, 94999, 95999, 96999, 97999, 98999, 99999, 114999] ty h tyq275 hq275 := gSg.tr (gSg.ss G229 sh255 (by decide)) xq275 (by decide) (by decide) (fun x hx => by cases hx)
      have t277 : tyq275 x = 71 := gSg.typ xq275 sh255.1 t230 rfl
      have t278 : tyq275 sk = 56 := gSg.typ xq275 sh255.1 t231 rfl
      have t279 : tyq275 bt = 114 := gSg.typ xq275 sh255.1 t232 rfl
      have hl280 : hq275.2.2.2.1 bt = h255.2.2.2.1 bt := gSg.len xq275 sh255.1 t232 rfl
      have t281 : tyq275 c27 = 75 := gSg.typ xq275 sh255.1 t234 rfl
      have t282 : tyq275 c31 = 91 := gSg.typ xq275 sh255.1 t235 rfl
      have t283 : tyq275 c46 = 92 := gSg.typ xq275 sh255.1 t236 rfl
      have t284 : tyq275 cq76_0 = 114 := gSg.typ xq275 sh255.1 t237 rfl
      have hl285 : hq275.2.2.2.1 cq76_0 = h255.2.2.2.1 cq76_0 := gSg.len xq275 sh255.1 t237 rfl
      have t286 : tyq275 cq202_0 = 114 := gSg.typ xq275 sh255.1 t239 rfl
      have hl287 : hq275.2.2.2.1 cq202_0 = h255.2.2.2.1 cq202_0 := gSg.len xq275 sh255.1 t239 rfl
      have t288 : tyq275 cq228_0 = 114 := gSg.typ xq275 sh255.1 tcq228_0 rfl
      have hl289 : hq275.2.2.2.1 cq228_0 = h255.2.2.2.1 cq228_0 := gSg.len xq275 sh255.1 tcq228_0 rfl
      have s290 := gSg.at xq275 sh255.1 t230 rfl (by decide) s256
      have s291 := gSg.at xq275 sh255.1 t230 rfl (by decide) s257
      have s292 := gSg.at xq275 sh255.1 t230 rfl (by decide) s258
      have s293 := gSg.at xq275 sh255.1 t230 rfl (by decide) s259
      have s294 := gSg.at xq275 sh255.1 t230 rfl (by decide) s260
      have s295 := gSg.at xq275 sh255.1 t230 rfl (by decide) s261
      have s296 := gSg.at xq275 sh255.1 t234 rfl (by decide) s262
      have s297 := gSg.at xq275 sh255.1 t234 rfl (by decide) s263
      have s298 := gSg.at xq275 sh255.1 t230 rfl (by decide) s264
      have s299 := gSg.at xq275 sh255.1 t230 rfl (by decide) s265
      have s300 := gSg.at xq275 sh255.1 t230 rfl (by decide) eh255
      have uq301 := gSg.uq xq275 uq253 (by decide)
      have sS302 : gSs rT 1027 tyq275 [56000, 56001, 56002, 56003, 71007, 71008, 71009, 71010, 71011, 71012, 71013, 71014, 76999, 77999, 78999, 79999, 80999, 81999, 85999, 91004, 91008, 92004, 92008, 93999, 94999, 95999, 96999, 97999, 98999, 99999, 114999] hq275 hq275 := gSs.rf xq275.1
      refine gz_s 1 (pc' := 93) (L' := [some (.ref x), some (.int (zi f)), some (.int (zi t)), some (.int (zi hi)), some (.int (zi lo))]) (S' := [.ref x]) rfl ?_
      refine gs_gtk rfl (by decide) rfl sS302.1 t277 rfl rfl s290 ?_
      have hl303 : hq275.2.2.2.1 cq275_0 = hq275.2.2.2.1 cq275_0 := congrFun sS302.2.2.2.2.1 cq275_0
      refine gz_call rfl (by decide) rfl (by decide) (by decide) (gcal_of rfl rfl rfl (Nat.le_of_ble_eq_true rfl) (gJ.recv (G := gGG) sS302.1 t278 rfl rfl)) (cl_Sink_fillByte _ sS302.1 sk t278 cq275_0 ecq275_0 tcq275_0 fq275_0 efq275_0 (by omega) fq275_1 efq275_1 (by omega) (by omega) (by omega) uq301) (fun q304 _ wq304 => ?_)
      obtain ⟨pq304, oq304, hq304⟩ := q304
      obtain ⟨tyq304, xq304, cq304_0, ttq304, fq304_0, fq304_1, ecq304_0, tcq304_0, gq304, efq304_0, afq304_0, bfq304_0, efq304_1, afq304_1, bfq304_1, uq304_0, uq304_1, uq304_2, uq304_3, uq304_4, uq304_5⟩ := wq304
      dsimp only at uq304_2 uq304_3 uq304_4 uq304_5
      refine ⟨_, gq304, ?_⟩
      show gz gPP gGG gcn _ _ 99 [some (.ref x), some (.int (zi f)), some (.int (zi t)), some (.int (zi hi)), some (.int (zi lo))] [] hq304 _
      have G305 : gSg [114] [] [56000, 56001, 56002, 56003, 71007, 71008, 71009, 71010, 71011, 71012, 71013, 71014, 76999, 77999, 78999, 79999, 80999, 81999, 85999, 91004, 91008, 92004, 92008, 93999, 94999, 95999, 96999, 97999, 98999, 99999, 114999] ty h tyq304 hq304 := gSg.tr (gSg.ss G276 sS302 (by decide)) xq304 (by decide) (by decide) (fun x hx => by cases hx)
      have t306 : tyq304 x = 71 := gSg.typ xq304 sS302.1 t277 rfl
      have t307 : tyq304 sk = 56 := gSg.typ xq304 sS302.1 t278 rfl
      have t308 : tyq304 bt = 114 := gSg.typ xq304 sS302.1 t279 rfl
      have hl309 : hq304.2.2.2.1 bt = hq275.2.2.2.1 bt := gSg.len xq304 sS302.1 t279 rfl
      have t310 : tyq304 c27 = 75 := gSg.typ xq304 sS302.1 t281 rfl
      have t311 : tyq304 c31 = 91 := gSg.typ xq304 sS302.1 t282 rfl
      have t312 : tyq304 c46 = 92 := gSg.typ xq304 sS302.1 t283 rfl
      have t313 : tyq304 cq76_0 = 114 := gSg.typ xq304 sS302.1 t284 rfl
      have hl314 : hq304.2.2.2.1 cq76_0 = hq275.2.2.2.1 cq76_0 := gSg.len xq304 sS302.1 t284 rfl
      have t315 : tyq304 cq202_0 = 114 := gSg.typ xq304 sS302.1 t286 rfl
      have hl316 : hq304.2.2.2.1 cq202_0 = hq275.2.2.2.1 cq202_0 := gSg.len xq304 sS302.1 t286 rfl
      have t317 : tyq304 cq228_0 = 114 := gSg.typ xq304 sS302.1 t288 rfl
      have hl318 : hq304.2.2.2.1 cq228_0 = hq275.2.2.2.1 cq228_0 := gSg.len xq304 sS302.1 t288 rfl
      have t319 : tyq304 cq275_0 = 114 := gSg.typ xq304 sS302.1 tcq275_0 rfl
      have hl320 : hq304.2.2.2.1 cq275_0 = hq275.2.2.2.1 cq275_0 := gSg.len xq304 sS302.1 tcq275_0 rfl
      have s321 := gSg.at xq304 sS302.1 t277 rfl (by decide) s290
      have s322 := gSg.at xq304 sS302.1 t277 rfl (by decide) s291
      have s323 := gSg.at xq304 sS302.1 t277 rfl (by decide) s292
      have s324 := gSg.at xq304 sS302.1 t277 rfl (by decide) s293
      have s325 := gSg.at xq304 sS302.1 t277 rfl (by decide) s294
      have s326 := gSg.at xq304 sS302.1 t277 rfl (by decide) s295
      have s327 := gSg.at xq304 sS302.1 t281 rfl (by decide) s296
      have s328 := gSg.at xq304 sS302.1 t281 rfl (by decide) s297
      have s329 := gSg.at xq304 sS302.1 t277 rfl (by decide) s298
      have s330 := gSg.at xq304 sS302.1 t277 rfl (by decide) s299
      have s331 := gSg.at xq304 sS302.1 t277 rfl (by decide) s300
      have uq332 := gSg.uq xq304 uq301 (by decide)
      have sS333 : gSs rT 1027 tyq304 [56000, 56001, 56002, 56003, 71007, 71008, 71009, 71010, 71011, 71012, 71013, 71014, 76999, 77999, 78999, 79999, 80999, 81999, 85999, 91004, 91008, 92004, 92008, 93999, 94999, 95999, 96999, 97999, 98999, 99999, 114999] hq304 hq304 := gSs.rf xq304.1
      have G334 : gSg [114] [] [56000, 56001, 56002, 56003, 71007, 71008, 71009, 71010, 71011, 71012, 71013, 71014, 76999, 77999, 78999, 79999, 80999, 81999, 85999, 91004, 91008, 92004, 92008, 93999, 94999, 95999, 96999, 97999, 98999, 99999, 114999] ty h tyq304 hq304 := gSg.ss G305 sS333 (by decide)
      exact gz_end (I := .return_) (len := 1) rfl (Or.inl rfl) ⟨tyq304, G334, cq304_0, trivial, fq304_0, fq304_1, ecq304_0, tcq304_0, rfl, efq304_0, (by omega), (by omega), efq304_1, (by omega), (by omega), (by omega), (by omega), (by dsimp only; omega), (by dsimp only; omega), (by dsimp only; omega), (by dsimp only; omega)⟩
  · refine gy_ifF rfl (by decide) (by decide) (by omega) hc98 ?_
    refine gz_s 1 (pc' := 56) (L' := [some (.ref x), some (.int (zi f)), some (.int (zi t)), some (.int (zi hi)), some (.int (zi lo))]) (S' := [.ref x]) rfl ?_
    refine gs_gtk rfl (by decide) rfl sS97.1 t78 rfl rfl s88 ?_
    by_cases hc335 : ¬ (hi : Int) = 0
    · refine gy_ifT (pc' := 67) rfl (by decide) (by decide) (by omega) hc335 ?_
      refine gz_s 1 (pc' := 68) (L' := [some (.ref x), some (.int (zi f)), some (.int (zi t)), some (.int (zi hi)), some (.int (zi lo))]) (S' := [.ref x]) rfl ?_
      refine gs_gtk rfl (by decide) rfl sS97.1 t78 rfl rfl s87 ?_
      by_cases hc336 : (t : Int) ≤ 0
      · refine gy_ifT (pc' := 79) rfl (by decide) (by decide) (by omega) hc336 ?_
        refine gz_s 1 (pc' := 80) (L' := [some (.ref x), some (.int (zi f)), some (.int (zi t)), some (.int (zi hi)), some (.int (zi lo))]) (S' := [.ref x]) rfl ?_
        have hl337 : hq76.2.2.2.1 cq76_0 = hq76.2.2.2.1 cq76_0 := congrFun sS97.2.2.2.2.1 cq76_0
        refine gz_call rfl (by decide) rfl (by decide) (by decide) (gcal_of rfl rfl rfl (Nat.le_of_ble_eq_true rfl) (gJ.recv (G := gGG) sS97.1 t78 rfl rfl)) (cl_Writer_putScanHead _ sS97.1 x t78 sk s85 t79 cq76_0 ecq76_0 tcq76_0 fq76_0 efq76_0 (by omega) (by omega) uq96) (fun q338 _ wq338 => ?_)
        obtain ⟨pq338, oq338, hq338⟩ := q338
        obtain ⟨tyq338, xq338, cq338_0, ttq338, fq338_0, ecq338_0, tcq338_0, gq338, efq338_0, afq338_0, bfq338_0, uq338_0, uq338_1, uq338_2, uq338_3, uq338_4⟩ := wq338
        dsimp only at uq338_1 uq338_2 uq338_3 uq338_4
        refine ⟨_, gq338, ?_⟩
        show gz gPP gGG gcn _ _ 83 [some (.ref x), some (.int (zi f)), some (.int (zi t)), some (.int (zi hi)), some (.int (zi lo))] [] hq338 _
        have G339 : gSg [114] [] [56000, 56001, 56002, 56003, 71007, 71008, 71009, 71010, 71011, 71012, 71013, 71014, 76999, 77999, 78999, 79999, 80999, 81999, 85999, 91004, 91008, 92004, 92008, 93999, 94999, 95999, 96999, 97999, 98999, 99999, 114999] ty h tyq338 hq338 := gSg.tr (gSg.ss G77 sS97 (by decide)) xq338 (by decide) (by decide) (fun x hx => by cases hx)
        have t340 : tyq338 x = 71 := gSg.typ xq338 sS97.1 t78 rfl
        have t341 : tyq338 sk = 56 := gSg.typ xq338 sS97.1 t79 rfl
        have t342 : tyq338 bt = 114 := gSg.typ xq338 sS97.1 t80 rfl
        have hl343 : hq338.2.2.2.1 bt = hq76.2.2.2.1 bt := gSg.len xq338 sS97.1 t80 rfl
        have t344 : tyq338 c27 = 75 := gSg.typ xq338 sS97.1 t82 rfl
        have t345 : tyq338 c31 = 91 := gSg.typ xq338 sS97.1 t83 rfl
        have t346 : tyq338 c46 = 92 := gSg.typ xq338 sS97.1 t84 rfl
        have t347 : tyq338 cq76_0 = 114 := gSg.typ xq338 sS97.1 tcq76_0 rfl
        have hl348 : hq338.2.2.2.1 cq76_0 = hq76.2.2.2.1 cq76_0 := gSg.len xq338 sS97.1 tcq76_0 rfl
        have s349 := gSg.at xq338 sS97.1 t78 rfl (by decide) s85
        have s350 := gSg.at xq338 sS97.1 t78 rfl (by decide) s86
        have s351 := gSg.at xq338 sS97.1 t78 rfl (by decide) s87
        have s352 := gSg.at xq338 sS97.1 t78 rfl (by decide) s88
        have s353 := gSg.at xq338 sS97.1 t78 rfl (by decide) s89
        have s354 := gSg.at xq338 sS97.1 t78 rfl (by decide) s90
        have s355 := gSg.at xq338 sS97.1 t82 rfl (by decide) s91
        have s356 := gSg.at xq338 sS97.1 t82 rfl (by decide) s92
        have s357 := gSg.at xq338 sS97.1 t78 rfl (by decide) s93
        have s358 := gSg.at xq338 sS97.1 t78 rfl (by decide) s94
        have s359 := gSg.at xq338 sS97.1 t78 rfl (by decide) s95
        have s360 := gSg.at xq338 sS97.1 t79 rfl (by decide) efq76_1
        have uq361 := gSg.uq xq338 uq96 (by decide)
        have sS362 : gSs rT 1027 tyq338 [56000, 56001, 56002, 56003, 71007, 71008, 71009, 71010, 71011, 71012, 71013, 71014, 76999, 77999, 78999, 79999, 80999, 81999, 85999, 91004, 91008, 92004, 92008, 93999, 94999, 95999, 96999, 97999, 98999, 99999, 114999] hq338 hq338 := gSs.rf xq338.1
        refine gz_s 2 (pc' := 85) (L' := [some (.ref x), some (.int (zi f)), some (.int (zi t)), some (.int (zi hi)), some (.int (zi lo))]) (S' := [.int (zi 0), .ref x]) rfl ?_
        refine gs_put rfl (by decide) rfl sS362 t340 rfl rfl rfl rfl (Or.inl rfl) (by decide) (by omega) (by omega) (fun h363 sh363 eh363 fh363 => ?_)
        have s364 := (fh363 x 0 (fun q => absurd q.2 (by decide))).trans s349
        have s365 := (fh363 x 7 (fun q => absurd q.2 (by decide))).trans s350
        have s366 := (fh363 x 8 (fun q => absurd q.2 (by decide))).trans s351
        have s367 := (fh363 x 9 (fun q => absurd q.2 (by decide))).trans s352
        have s368 := (fh363 x 10 (fun q => absurd q.2 (by decide))).trans s353
        have s369 := (fh363 x 4 (fun q => absurd q.2 (by decide))).trans s354
        have s370 := (fh363 c27 0 (fun q => absurd (((t344).symm.trans (congrArg tyq338 q.1)).trans t340) (by decide))).trans s355
        have s371 := (fh363 c27 1 (fun q => absurd (((t344).symm.trans (congrArg tyq338 q.1)).trans t340) (by decide))).trans s356
        have s372 := (fh363 x 5 (fun q => absurd q.2 (by decide))).trans s358
        have s373 := (fh363 x 6 (fun q => absurd q.2 (by decide))).trans s359
        have s374 := (fh363 sk 3 (fun q => absurd q.2 (by decide))).trans s360
        have s375 := (fh363 sk 0 (fun q => absurd q.2 (by decide))).trans ecq338_0
        have s376 := (fh363 sk 1 (fun q => absurd q.2 (by decide))).trans efq338_0
        refine gz_s 1 (pc' := 89) (L' := [some (.ref x), some (.int (zi f)), some (.int (zi t)), some (.int (zi hi)), some (.int (zi lo))]) (S' := [.ref x]) rfl ?_
        have k377 := sh363.2.1
        have k377b := sh363.2.2.1
        have hl378 : h363.2.2.2.1 bt = hq338.2.2.2.1 bt := congrFun sh363.2.2.2.2.1 bt
        have hl379 : h363.2.2.2.1 cq76_0 = hq338.2.2.2.1 cq76_0 := congrFun sh363.2.2.2.2.1 cq76_0
        have hl380 : h363.2.2.2.1 cq338_0 = hq338.2.2.2.1 cq338_0 := congrFun sh363.2.2.2.2.1 cq338_0
        have hl381 : h363.2.2.2.1 cq338_0 = hq338.2.2.2.1 cq338_0 := congrFun sh363.2.2.2.2.1 cq338_0
        refine gz_call rfl (by decide) rfl (by decide) (by decide) (gcal_of rfl rfl rfl (Nat.le_of_ble_eq_true rfl) (gJ.recv (G := gGG) sh363.1 t340 rfl rfl)) (cl_Writer_putBlocks _ sh363.1 x t340 sk s364 t341 cq338_0 s375 tcq338_0 fq338_0 s376 (by omega) fq76_1 s374 (by omega) 0 eh363 (by omega) f s365 (by omega) t s366 (by omega) z74 s372 (by omega) z75 s373 (by omega) (by omega) (by omega) (by omega) uq361) (fun q382 _ wq382 => ?_)
        obtain ⟨pq382, oq382, hq382⟩ := q382
        obtain ⟨tyq382, xq382, cq382_0, ttq382, fq382_0, fq382_1, ecq382_0, tcq382_0, gq382, efq382_0, afq382_0, bfq382_0, efq382_1, afq382_1, bfq382_1, uq382_0, uq382_1, uq382_2, uq382_3, uq382_4, uq382_5, uq382_6⟩ := wq382
        dsimp only at uq382_3 uq382_4 uq382_5 uq382_6
        refine ⟨_, gq382, ?_⟩
        show gz gPP gGG gcn _ _ 92 [some (.ref x), some (.int (zi f)), some (.int (zi t)), some (.int (zi hi)), some (.int (zi lo))] [] hq382 _
        have G383 : gSg [114] [] [56000, 56001, 56002, 56003, 71007, 71008, 71009, 71010, 71011, 71012, 71013, 71014, 76999, 77999, 78999, 79999, 80999, 81999, 85999, 91004, 91008, 92004, 92008, 93999, 94999, 95999, 96999, 97999, 98999, 99999, 114999] ty h tyq382 hq382 := gSg.tr (gSg.ss G339 sh363 (by decide)) xq382 (by decide) (by decide) (fun x hx => by cases hx)
        have t384 : tyq382 x = 71 := gSg.typ xq382 sh363.1 t340 rfl
        have t385 : tyq382 sk = 56 := gSg.typ xq382 sh363.1 t341 rfl
        have t386 : tyq382 bt = 114 := gSg.typ xq382 sh363.1 t342 rfl
        have hl387 : hq382.2.2.2.1 bt = h363.2.2.2.1 bt := gSg.len xq382 sh363.1 t342 rfl
        have t388 : tyq382 c27 = 75 := gSg.typ xq382 sh363.1 t344 rfl
        have t389 : tyq382 c31 = 91 := gSg.typ xq382 sh363.1 t345 rfl
        have t390 : tyq382 c46 = 92 := gSg.typ xq382 sh363.1 t346 rfl
        have t391 : tyq382 cq76_0 = 114 := gSg.typ xq382 sh363.1 t347 rfl
        have hl392 : hq382.2.2.2.1 cq76_0 = h363.2.2.2.1 cq76_0 := gSg.len xq382 sh363.1 t347 rfl
        have t393 : tyq382 cq338_0 = 114 := gSg.typ xq382 sh363.1 tcq338_0 rfl
        have hl394 : hq382.2.2.2.1 cq338_0 = h363.2.2.2.1 cq338_0 := gSg.len xq382 sh363.1 tcq338_0 rfl
        have s395 := gSg.at xq382 sh363.1 t340 rfl (by decide) s364
        have s396 := gSg.at xq382 sh363.1 t340 rfl (by decide) s365
        have s397 := gSg.at xq382 sh363.1 t340 rfl (by decide) s366
        have s398 := gSg.at xq382 sh363.1 t340 rfl (by decide) s367
        have s399 := gSg.at xq382 sh363.1 t340 rfl (by decide) s368
        have s400 := gSg.at xq382 sh363.1 t340 rfl (by decide) s369
        have s401 := gSg.at xq382 sh363.1 t344 rfl (by decide) s370
        have s402 := gSg.at xq382 sh363.1 t344 rfl (by decide) s371
        have s403 := gSg.at xq382 sh363.1 t340 rfl (by decide) s372
        have s404 := gSg.at xq382 sh363.1 t340 rfl (by decide) s373
        have s405 := gSg.at xq382 sh363.1 t340 rfl (by decide) eh363
        have uq406 := gSg.uq xq382 uq361 (by decide)
        have sS407 : gSs rT 1027 tyq382 [56000, 56001, 56002, 56003, 71007, 71008, 71009, 71010, 71011, 71012, 71013, 71014, 76999, 77999, 78999, 79999, 80999, 81999, 85999, 91004, 91008, 92004, 92008, 93999, 94999, 95999, 96999, 97999, 98999, 99999, 114999] hq382 hq382 := gSs.rf xq382.1
        refine gz_s 1 (pc' := 93) (L' := [some (.ref x), some (.int (zi f)), some (.int (zi t)), some (.int (zi hi)), some (.int (zi lo))]) (S' := [.ref x]) rfl ?_
        refine gs_gtk rfl (by decide) rfl sS407.1 t384 rfl rfl s395 ?_
        have hl408 : hq382.2.2.2.1 cq382_0 = hq382.2.2.2.1 cq382_0 := congrFun sS407.2.2.2.2.1 cq382_0
        refine gz_call rfl (by decide) rfl (by decide) (by decide) (gcal_of rfl rfl rfl (Nat.le_of_ble_eq_true rfl) (gJ.recv (G := gGG) sS407.1 t385 rfl rfl)) (cl_Sink_fillByte _ sS407.1 sk t385 cq382_0 ecq382_0 tcq382_0 fq382_0 efq382_0 (by omega) fq382_1 efq382_1 (by omega) (by omega) (by omega) uq406) (fun q409 _ wq409 => ?_)
        obtain ⟨pq409, oq409, hq409⟩ := q409
        obtain ⟨tyq409, xq409, cq409_0, ttq409, fq409_0, fq409_1, ecq409_0, tcq409_0, gq409, efq409_0, afq409_0, bfq409_0, efq409_1, afq409_1, bfq409_1, uq409_0, uq409_1, uq409_2, uq409_3, uq409_4, uq409_5⟩ := wq409
        dsimp only at uq409_2 uq409_3 uq409_4 uq409_5
        refine ⟨_, gq409, ?_⟩
        show gz gPP gGG gcn _ _ 99 [some (.ref x), some (.int (zi f)), some (.int (zi t)), some (.int (zi hi)), some (.int (zi lo))] [] hq409 _
        have G410 : gSg [114] [] [56000, 56001, 56002, 56003, 71007, 71008, 71009, 71010, 71011, 71012, 71013, 71014, 76999, 77999, 78999, 79999, 80999, 81999, 85999, 91004, 91008, 92004, 92008, 93999, 94999, 95999, 96999, 97999, 98999, 99999, 114999] ty h tyq409 hq409 := gSg.tr (gSg.ss G383 sS407 (by decide)) xq409 (by decide) (by decide) (fun x hx => by cases hx)
        have t411 : tyq409 x = 71 := gSg.typ xq409 sS407.1 t384 rfl
        have t412 : tyq409 sk = 56 := gSg.typ xq409 sS407.1 t385 rfl
        have t413 : tyq409 bt = 114 := gSg.typ xq409 sS407.1 t386 rfl
        have hl414 : hq409.2.2.2.1 bt = hq382.2.2.2.1 bt := gSg.len xq409 sS407.1 t386 rfl
        have t415 : tyq409 c27 = 75 := gSg.typ xq409 sS407.1 t388 rfl
        have t416 : tyq409 c31 = 91 := gSg.typ xq409 sS407.1 t389 rfl
        have t417 : tyq409 c46 = 92 := gSg.typ xq409 sS407.1 t390 rfl
        have t418 : tyq409 cq76_0 = 114 := gSg.typ xq409 sS407.1 t391 rfl
        have hl419 : hq409.2.2.2.1 cq76_0 = hq382.2.2.2.1 cq76_0 := gSg.len xq409 sS407.1 t391 rfl
        have t420 : tyq409 cq338_0 = 114 := gSg.typ xq409 sS407.1 t393 rfl
        have hl421 : hq409.2.2.2.1 cq338_0 = hq382.2.2.2.1 cq338_0 := gSg.len xq409 sS407.1 t393 rfl
        have t422 : tyq409 cq382_0 = 114 := gSg.typ xq409 sS407.1 tcq382_0 rfl
        have hl423 : hq409.2.2.2.1 cq382_0 = hq382.2.2.2.1 cq382_0 := gSg.len xq409 sS407.1 tcq382_0 rfl
        have s424 := gSg.at xq409 sS407.1 t384 rfl (by decide) s395
        have s425 := gSg.at xq409 sS407.1 t384 rfl (by decide) s396
        have s426 := gSg.at xq409 sS407.1 t384 rfl (by decide) s397
        have s427 := gSg.at xq409 sS407.1 t384 rfl (by decide) s398
        have s428 := gSg.at xq409 sS407.1 t384 rfl (by decide) s399
        have s429 := gSg.at xq409 sS407.1 t384 rfl (by decide) s400
        have s430 := gSg.at xq409 sS407.1 t388 rfl (by decide) s401
        have s431 := gSg.at xq409 sS407.1 t388 rfl (by decide) s402
        have s432 := gSg.at xq409 sS407.1 t384 rfl (by decide) s403
        have s433 := gSg.at xq409 sS407.1 t384 rfl (by decide) s404
        have s434 := gSg.at xq409 sS407.1 t384 rfl (by decide) s405
        have uq435 := gSg.uq xq409 uq406 (by decide)
        have sS436 : gSs rT 1027 tyq409 [56000, 56001, 56002, 56003, 71007, 71008, 71009, 71010, 71011, 71012, 71013, 71014, 76999, 77999, 78999, 79999, 80999, 81999, 85999, 91004, 91008, 92004, 92008, 93999, 94999, 95999, 96999, 97999, 98999, 99999, 114999] hq409 hq409 := gSs.rf xq409.1
        have G437 : gSg [114] [] [56000, 56001, 56002, 56003, 71007, 71008, 71009, 71010, 71011, 71012, 71013, 71014, 76999, 77999, 78999, 79999, 80999, 81999, 85999, 91004, 91008, 92004, 92008, 93999, 94999, 95999, 96999, 97999, 98999, 99999, 114999] ty h tyq409 hq409 := gSg.ss G410 sS436 (by decide)
        exact gz_end (I := .return_) (len := 1) rfl (Or.inl rfl) ⟨tyq409, G437, cq409_0, trivial, fq409_0, fq409_1, ecq409_0, tcq409_0, rfl, efq409_0, (by omega), (by omega), efq409_1, (by omega), (by omega), (by omega), (by omega), (by dsimp only; omega), (by dsimp only; omega), (by dsimp only; omega), (by dsimp only; omega)⟩
      · refine gy_ifF rfl (by decide) (by decide) (by omega) hc336 ?_
        refine gz_s 2 (pc' := 76) (L' := [some (.ref x), some (.int (zi f)), some (.int (zi t)), some (.int (zi hi)), some (.int (zi lo))]) (S' := [.int (zi 1), .ref x]) rfl ?_
        have hl438 : hq76.2.2.2.1 cq76_0 = hq76.2.2.2.1 cq76_0 := congrFun sS97.2.2.2.2.1 cq76_0
        refine gz_call rfl (by decide) rfl (by decide) (by decide) (gcal_of rfl rfl rfl (Nat.le_of_ble_eq_true rfl) (gJ.recv (G := gGG) sS97.1 t78 rfl rfl)) (cl_putCodes1 _ sS97.1 x t78 1 (by omega) sk s85 t79 cq76_0 ecq76_0 tcq76_0 fq76_0 efq76_0 (by omega) (by omega) uq96) (fun q439 _ wq439 => ?_)
        obtain ⟨pq439, oq439, hq439⟩ := q439
        obtain ⟨tyq439, xq439, cq439_0, ttq439, fq439_0, ecq439_0, tcq439_0, gq439, efq439_0, afq439_0, bfq439_0, uq439_0, uq439_1, uq439_2, uq439_3, uq439_4, uq439_5⟩ := wq439
        dsimp only at uq439_2 uq439_3 uq439_4 uq439_5
        refine ⟨_, gq439, ?_⟩
        show gz gPP gGG gcn _ _ 79 [some (.ref x), some (.int (zi f)), some (.int (zi t)), some (.int (zi hi)), some (.int (zi lo))] [] hq439 _
        have G440 : gSg [114] [] [56000, 56001, 56002, 56003, 71007, 71008, 71009, 71010, 71011, 71012, 71013, 71014, 76999, 77999, 78999, 79999, 80999, 81999, 85999, 91004, 91008, 92004, 92008, 93999, 94999, 95999, 96999, 97999, 98999, 99999, 114999] ty h tyq439 hq439 := gSg.tr (gSg.ss G77 sS97 (by decide)) xq439 (by decide) (by decide) (fun x hx => by cases hx)
        have t441 : tyq439 x = 71 := gSg.typ xq439 sS97.1 t78 rfl
        have t442 : tyq439 sk = 56 := gSg.typ xq439 sS97.1 t79 rfl
        have t443 : tyq439 bt = 114 := gSg.typ xq439 sS97.1 t80 rfl
        have hl444 : hq439.2.2.2.1 bt = hq76.2.2.2.1 bt := gSg.len xq439 sS97.1 t80 rfl
        have t445 : tyq439 c27 = 75 := gSg.typ xq439 sS97.1 t82 rfl
        have t446 : tyq439 c31 = 91 := gSg.typ xq439 sS97.1 t83 rfl
        have t447 : tyq439 c46 = 92 := gSg.typ xq439 sS97.1 t84 rfl
        have t448 : tyq439 cq76_0 = 114 := gSg.typ xq439 sS97.1 tcq76_0 rfl
        have hl449 : hq439.2.2.2.1 cq76_0 = hq76.2.2.2.1 cq76_0 := gSg.len xq439 sS97.1 tcq76_0 rfl
        have s450 := gSg.at xq439 sS97.1 t78 rfl (by decide) s85
        have s451 := gSg.at xq439 sS97.1 t78 rfl (by decide) s86
        have s452 := gSg.at xq439 sS97.1 t78 rfl (by decide) s87
        have s453 := gSg.at xq439 sS97.1 t78 rfl (by decide) s88
        have s454 := gSg.at xq439 sS97.1 t78 rfl (by decide) s89
        have s455 := gSg.at xq439 sS97.1 t78 rfl (by decide) s90
        have s456 := gSg.at xq439 sS97.1 t82 rfl (by decide) s91
        have s457 := gSg.at xq439 sS97.1 t82 rfl (by decide) s92
        have s458 := gSg.at xq439 sS97.1 t78 rfl (by decide) s93
        have s459 := gSg.at xq439 sS97.1 t78 rfl (by decide) s94
        have s460 := gSg.at xq439 sS97.1 t78 rfl (by decide) s95
        have s461 := gSg.at xq439 sS97.1 t79 rfl (by decide) efq76_1
        have uq462 := gSg.uq xq439 uq96 (by decide)
        have sS463 : gSs rT 1027 tyq439 [56000, 56001, 56002, 56003, 71007, 71008, 71009, 71010, 71011, 71012, 71013, 71014, 76999, 77999, 78999, 79999, 80999, 81999, 85999, 91004, 91008, 92004, 92008, 93999, 94999, 95999, 96999, 97999, 98999, 99999, 114999] hq439 hq439 := gSs.rf xq439.1
        refine gz_s 1 (pc' := 80) (L' := [some (.ref x), some (.int (zi f)), some (.int (zi t)), some (.int (zi hi)), some (.int (zi lo))]) (S' := [.ref x]) rfl ?_
        have hl464 : hq439.2.2.2.1 cq439_0 = hq439.2.2.2.1 cq439_0 := congrFun sS463.2.2.2.2.1 cq439_0
        refine gz_call rfl (by decide) rfl (by decide) (by decide) (gcal_of rfl rfl rfl (Nat.le_of_ble_eq_true rfl) (gJ.recv (G := gGG) sS463.1 t441 rfl rfl)) (cl_Writer_putScanHead _ sS463.1 x t441 sk s450 t442 cq439_0 ecq439_0 tcq439_0 fq439_0 efq439_0 (by omega) (by omega) uq462) (fun q465 _ wq465 => ?_)
        obtain ⟨pq465, oq465, hq465⟩ := q465
        obtain ⟨tyq465, xq465, cq465_0, ttq465, fq465_0, ecq465_0, tcq465_0, gq465, efq465_0, afq465_0, bfq465_0, uq465_0, uq465_1, uq465_2, uq465_3, uq465_4⟩ := wq465
        dsimp only at uq465_1 uq465_2 uq465_3 uq465_4
        refine ⟨_, gq465, ?_⟩
        show gz gPP gGG gcn _ _ 83 [some (.ref x), some (.int (zi f)), some (.int (zi t)), some (.int (zi hi)), some (.int (zi lo))] [] hq465 _
        have G466 : gSg [114] [] [56000, 56001, 56002, 56003, 71007, 71008, 71009, 71010, 71011, 71012, 71013, 71014, 76999, 77999, 78999, 79999, 80999, 81999, 85999, 91004, 91008, 92004, 92008, 93999, 94999, 95999, 96999, 97999, 98999, 99999, 114999] ty h tyq465 hq465 := gSg.tr (gSg.ss G440 sS463 (by decide)) xq465 (by decide) (by decide) (fun x hx => by cases hx)
        have t467 : tyq465 x = 71 := gSg.typ xq465 sS463.1 t441 rfl
        have t468 : tyq465 sk = 56 := gSg.typ xq465 sS463.1 t442 rfl
        have t469 : tyq465 bt = 114 := gSg.typ xq465 sS463.1 t443 rfl
        have hl470 : hq465.2.2.2.1 bt = hq439.2.2.2.1 bt := gSg.len xq465 sS463.1 t443 rfl
        have t471 : tyq465 c27 = 75 := gSg.typ xq465 sS463.1 t445 rfl
        have t472 : tyq465 c31 = 91 := gSg.typ xq465 sS463.1 t446 rfl
        have t473 : tyq465 c46 = 92 := gSg.typ xq465 sS463.1 t447 rfl
        have t474 : tyq465 cq76_0 = 114 := gSg.typ xq465 sS463.1 t448 rfl
        have hl475 : hq465.2.2.2.1 cq76_0 = hq439.2.2.2.1 cq76_0 := gSg.len xq465 sS463.1 t448 rfl
        have t476 : tyq465 cq439_0 = 114 := gSg.typ xq465 sS463.1 tcq439_0 rfl
        have hl477 : hq465.2.2.2.1 cq439_0 = hq439.2.2.2.1 cq439_0 := gSg.len xq465 sS463.1 tcq439_0 rfl
        have s478 := gSg.at xq465 sS463.1 t441 rfl (by decide) s450
        have s479 := gSg.at xq465 sS463.1 t441 rfl (by decide) s451
        have s480 := gSg.at xq465 sS463.1 t441 rfl (by decide) s452
        have s481 := gSg.at xq465 sS463.1 t441 rfl (by decide) s453
        have s482 := gSg.at xq465 sS463.1 t441 rfl (by decide) s454
        have s483 := gSg.at xq465 sS463.1 t441 rfl (by decide) s455
        have s484 := gSg.at xq465 sS463.1 t445 rfl (by decide) s456
        have s485 := gSg.at xq465 sS463.1 t445 rfl (by decide) s457
        have s486 := gSg.at xq465 sS463.1 t441 rfl (by decide) s458
        have s487 := gSg.at xq465 sS463.1 t441 rfl (by decide) s459
        have s488 := gSg.at xq465 sS463.1 t441 rfl (by decide) s460
        have s489 := gSg.at xq465 sS463.1 t442 rfl (by decide) s461
        have uq490 := gSg.uq xq465 uq462 (by decide)
        have sS491 : gSs rT 1027 tyq465 [56000, 56001, 56002, 56003, 71007, 71008, 71009, 71010, 71011, 71012, 71013, 71014, 76999, 77999, 78999, 79999, 80999, 81999, 85999, 91004, 91008, 92004, 92008, 93999, 94999, 95999, 96999, 97999, 98999, 99999, 114999] hq465 hq465 := gSs.rf xq465.1
        refine gz_s 2 (pc' := 85) (L' := [some (.ref x), some (.int (zi f)), some (.int (zi t)), some (.int (zi hi)), some (.int (zi lo))]) (S' := [.int (zi 0), .ref x]) rfl ?_
        refine gs_put rfl (by decide) rfl sS491 t467 rfl rfl rfl rfl (Or.inl rfl) (by decide) (by omega) (by omega) (fun h492 sh492 eh492 fh492 => ?_)
        have s493 := (fh492 x 0 (fun q => absurd q.2 (by decide))).trans s478
        have s494 := (fh492 x 7 (fun q => absurd q.2 (by decide))).trans s479
        have s495 := (fh492 x 8 (fun q => absurd q.2 (by decide))).trans s480
        have s496 := (fh492 x 9 (fun q => absurd q.2 (by decide))).trans s481
        have s497 := (fh492 x 10 (fun q => absurd q.2 (by decide))).trans s482
        have s498 := (fh492 x 4 (fun q => absurd q.2 (by decide))).trans s483
        have s499 := (fh492 c27 0 (fun q => absurd (((t471).symm.trans (congrArg tyq465 q.1)).trans t467) (by decide))).trans s484
        have s500 := (fh492 c27 1 (fun q => absurd (((t471).symm.trans (congrArg tyq465 q.1)).trans t467) (by decide))).trans s485
        have s501 := (fh492 x 5 (fun q => absurd q.2 (by decide))).trans s487
        have s502 := (fh492 x 6 (fun q => absurd q.2 (by decide))).trans s488
        have s503 := (fh492 sk 3 (fun q => absurd q.2 (by decide))).trans s489
        have s504 := (fh492 sk 0 (fun q => absurd q.2 (by decide))).trans ecq465_0
        have s505 := (fh492 sk 1 (fun q => absurd q.2 (by decide))).trans efq465_0
        refine gz_s 1 (pc' := 89) (L' := [some (.ref x), some (.int (zi f)), some (.int (zi t)), some (.int (zi hi)), some (.int (zi lo))]) (S' := [.ref x]) rfl ?_
        have k506 := sh492.2.1
        have k506b := sh492.2.2.1
        have hl507 : h492.2.2.2.1 bt = hq465.2.2.2.1 bt := congrFun sh492.2.2.2.2.1 bt
        have hl508 : h492.2.2.2.1 cq76_0 = hq465.2.2.2.1 cq76_0 := congrFun sh492.2.2.2.2.1 cq76_0
        have hl509 : h492.2.2.2.1 cq439_0 = hq465.2.2.2.1 cq439_0 := congrFun sh492.2.2.2.2.1 cq439_0
        have hl510 : h492.2.2.2.1 cq465_0 = hq465.2.2.2.1 cq465_0 := congrFun sh492.2.2.2.2.1 cq465_0
        have hl511 : h492.2.2.2.1 cq465_0 = hq465.2.2.2.1 cq465_0 := congrFun sh492.2.2.2.2.1 cq465_0
        refine gz_call rfl (by decide) rfl (by decide) (by decide) (gcal_of rfl rfl rfl (Nat.le_of_ble_eq_true rfl) (gJ.recv (G := gGG) sh492.1 t467 rfl rfl)) (cl_Writer_putBlocks _ sh492.1 x t467 sk s493 t468 cq465_0 s504 tcq465_0 fq465_0 s505 (by omega) fq76_1 s503 (by omega) 0 eh492 (by omega) f s494 (by omega) t s495 (by omega) z74 s501 (by omega) z75 s502 (by omega) (by omega) (by omega) (by omega) uq490) (fun q512 _ wq512 => ?_)
        obtain ⟨pq512, oq512, hq512⟩ := q512
        obtain ⟨tyq512, xq512, cq512_0, ttq512, fq512_0, fq512_1, ecq512_0, tcq512_0, gq512, efq512_0, afq512_0, bfq512_0, efq512_1, afq512_1, bfq512_1, uq512_0, uq512_1, uq512_2, uq512_3, uq512_4, uq512_5, uq512_6⟩ := wq512
        dsimp only at uq512_3 uq512_4 uq512_5 uq512_6
        refine ⟨_, gq512, ?_⟩
        show gz gPP gGG gcn _ _ 92 [some (.ref x), some (.int (zi f)), some (.int (zi t)), some (.int (zi hi)), some (.int (zi lo))] [] hq512 _
        have G513 : gSg [114] [] [56000, 56001, 56002, 56003, 71007, 71008, 71009, 71010, 71011, 71012, 71013, 71014, 76999, 77999, 78999, 79999, 80999, 81999, 85999, 91004, 91008, 92004, 92008, 93999, 94999, 95999, 96999, 97999, 98999, 99999, 114999] ty h tyq512 hq512 := gSg.tr (gSg.ss G466 sh492 (by decide)) xq512 (by decide) (by decide) (fun x hx => by cases hx)
        have t514 : tyq512 x = 71 := gSg.typ xq512 sh492.1 t467 rfl
        have t515 : tyq512 sk = 56 := gSg.typ xq512 sh492.1 t468 rfl
        have t516 : tyq512 bt = 114 := gSg.typ xq512 sh492.1 t469 rfl
        have hl517 : hq512.2.2.2.1 bt = h492.2.2.2.1 bt := gSg.len xq512 sh492.1 t469 rfl
        have t518 : tyq512 c27 = 75 := gSg.typ xq512 sh492.1 t471 rfl
        have t519 : tyq512 c31 = 91 := gSg.typ xq512 sh492.1 t472 rfl
        have t520 : tyq512 c46 = 92 := gSg.typ xq512 sh492.1 t473 rfl
        have t521 : tyq512 cq76_0 = 114 := gSg.typ xq512 sh492.1 t474 rfl
        have hl522 : hq512.2.2.2.1 cq76_0 = h492.2.2.2.1 cq76_0 := gSg.len xq512 sh492.1 t474 rfl
        have t523 : tyq512 cq439_0 = 114 := gSg.typ xq512 sh492.1 t476 rfl
        have hl524 : hq512.2.2.2.1 cq439_0 = h492.2.2.2.1 cq439_0 := gSg.len xq512 sh492.1 t476 rfl
        have t525 : tyq512 cq465_0 = 114 := gSg.typ xq512 sh492.1 tcq465_0 rfl
        have hl526 : hq512.2.2.2.1 cq465_0 = h492.2.2.2.1 cq465_0 := gSg.len xq512 sh492.1 tcq465_0 rfl
        have s527 := gSg.at xq512 sh492.1 t467 rfl (by decide) s493
        have s528 := gSg.at xq512 sh492.1 t467 rfl (by decide) s494
        have s529 := gSg.at xq512 sh492.1 t467 rfl (by decide) s495
        have s530 := gSg.at xq512 sh492.1 t467 rfl (by decide) s496
        have s531 := gSg.at xq512 sh492.1 t467 rfl (by decide) s497
        have s532 := gSg.at xq512 sh492.1 t467 rfl (by decide) s498
        have s533 := gSg.at xq512 sh492.1 t471 rfl (by decide) s499
        have s534 := gSg.at xq512 sh492.1 t471 rfl (by decide) s500
        have s535 := gSg.at xq512 sh492.1 t467 rfl (by decide) s501
        have s536 := gSg.at xq512 sh492.1 t467 rfl (by decide) s502
        have s537 := gSg.at xq512 sh492.1 t467 rfl (by decide) eh492
        have uq538 := gSg.uq xq512 uq490 (by decide)
        have sS539 : gSs rT 1027 tyq512 [56000, 56001, 56002, 56003, 71007, 71008, 71009, 71010, 71011, 71012, 71013, 71014, 76999, 77999, 78999, 79999, 80999, 81999, 85999, 91004, 91008, 92004, 92008, 93999, 94999, 95999, 96999, 97999, 98999, 99999, 114999] hq512 hq512 := gSs.rf xq512.1
        refine gz_s 1 (pc' := 93) (L' := [some (.ref x), some (.int (zi f)), some (.int (zi t)), some (.int (zi hi)), some (.int (zi lo))]) (S' := [.ref x]) rfl ?_
        refine gs_gtk rfl (by decide) rfl sS539.1 t514 rfl rfl s527 ?_
        have hl540 : hq512.2.2.2.1 cq512_0 = hq512.2.2.2.1 cq512_0 := congrFun sS539.2.2.2.2.1 cq512_0
        refine gz_call rfl (by decide) rfl (by decide) (by decide) (gcal_of rfl rfl rfl (Nat.le_of_ble_eq_true rfl) (gJ.recv (G := gGG) sS539.1 t515 rfl rfl)) (cl_Sink_fillByte _ sS539.1 sk t515 cq512_0 ecq512_0 tcq512_0 fq512_0 efq512_0 (by omega) fq512_1 efq512_1 (by omega) (by omega) (by omega) uq538) (fun q541 _ wq541 => ?_)
        obtain ⟨pq541, oq541, hq541⟩ := q541
        obtain ⟨tyq541, xq541, cq541_0, ttq541, fq541_0, fq541_1, ecq541_0, tcq541_0, gq541, efq541_0, afq541_0, bfq541_0, efq541_1, afq541_1, bfq541_1, uq541_0, uq541_1, uq541_2, uq541_3, uq541_4, uq541_5⟩ := wq541
        dsimp only at uq541_2 uq541_3 uq541_4 uq541_5
        refine ⟨_, gq541, ?_⟩
        show gz gPP gGG gcn _ _ 99 [some (.ref x), some (.int (zi f)), some (.int (zi t)), some (.int (zi hi)), some (.int (zi lo))] [] hq541 _
        have G542 : gSg [114] [] [56000, 56001, 56002, 56003, 71007, 71008, 71009, 71010, 71011, 71012, 71013, 71014, 76999, 77999, 78999, 79999, 80999, 81999, 85999, 91004, 91008, 92004, 92008, 93999, 94999, 95999, 96999, 97999, 98999, 99999, 114999] ty h tyq541 hq541 := gSg.tr (gSg.ss G513 sS539 (by decide)) xq541 (by decide) (by decide) (fun x hx => by cases hx)
        have t543 : tyq541 x = 71 := gSg.typ xq541 sS539.1 t514 rfl
        have t544 : tyq541 sk = 56 := gSg.typ xq541 sS539.1 t515 rfl
        have t545 : tyq541 bt = 114 := gSg.typ xq541 sS539.1 t516 rfl
        have hl546 : hq541.2.2.2.1 bt = hq512.2.2.2.1 bt := gSg.len xq541 sS539.1 t516 rfl
        have t547 : tyq541 c27 = 75 := gSg.typ xq541 sS539.1 t518 rfl
        have t548 : tyq541 c31 = 91 := gSg.typ xq541 sS539.1 t519 rfl
        have t549 : tyq541 c46 = 92 := gSg.typ xq541 sS539.1 t520 rfl
        have t550 : tyq541 cq76_0 = 114 := gSg.typ xq541 sS539.1 t521 rfl
        have hl551 : hq541.2.2.2.1 cq76_0 = hq512.2.2.2.1 cq76_0 := gSg.len xq541 sS539.1 t521 rfl
        have t552 : tyq541 cq439_0 = 114 := gSg.typ xq541 sS539.1 t523 rfl
        have hl553 : hq541.2.2.2.1 cq439_0 = hq512.2.2.2.1 cq439_0 := gSg.len xq541 sS539.1 t523 rfl
        have t554 : tyq541 cq465_0 = 114 := gSg.typ xq541 sS539.1 t525 rfl
        have hl555 : hq541.2.2.2.1 cq465_0 = hq512.2.2.2.1 cq465_0 := gSg.len xq541 sS539.1 t525 rfl
        have t556 : tyq541 cq512_0 = 114 := gSg.typ xq541 sS539.1 tcq512_0 rfl
        have hl557 : hq541.2.2.2.1 cq512_0 = hq512.2.2.2.1 cq512_0 := gSg.len xq541 sS539.1 tcq512_0 rfl
        have s558 := gSg.at xq541 sS539.1 t514 rfl (by decide) s527
        have s559 := gSg.at xq541 sS539.1 t514 rfl (by decide) s528
        have s560 := gSg.at xq541 sS539.1 t514 rfl (by decide) s529
        have s561 := gSg.at xq541 sS539.1 t514 rfl (by decide) s530
        have s562 := gSg.at xq541 sS539.1 t514 rfl (by decide) s531
        have s563 := gSg.at xq541 sS539.1 t514 rfl (by decide) s532
        have s564 := gSg.at xq541 sS539.1 t518 rfl (by decide) s533
        have s565 := gSg.at xq541 sS539.1 t518 rfl (by decide) s534
        have s566 := gSg.at xq541 sS539.1 t514 rfl (by decide) s535
        have s567 := gSg.at xq541 sS539.1 t514 rfl (by decide) s536
        have s568 := gSg.at xq541 sS539.1 t514 rfl (by decide) s537
        have uq569 := gSg.uq xq541 uq538 (by decide)
        have sS570 : gSs rT 1027 tyq541 [56000, 56001, 56002, 56003, 71007, 71008, 71009, 71010, 71011, 71012, 71013, 71014, 76999, 77999, 78999, 79999, 80999, 81999, 85999, 91004, 91008, 92004, 92008, 93999, 94999, 95999, 96999, 97999, 98999, 99999, 114999] hq541 hq541 := gSs.rf xq541.1
        have G571 : gSg [114] [] [56000, 56001, 56002, 56003, 71007, 71008, 71009, 71010, 71011, 71012, 71013, 71014, 76999, 77999, 78999, 79999, 80999, 81999, 85999, 91004, 91008, 92004, 92008, 93999, 94999, 95999, 96999, 97999, 98999, 99999, 114999] ty h tyq541 hq541 := gSg.ss G542 sS570 (by decide)
        exact gz_end (I := .return_) (len := 1) rfl (Or.inl rfl) ⟨tyq541, G571, cq541_0, trivial, fq541_0, fq541_1, ecq541_0, tcq541_0, rfl, efq541_0, (by omega), (by omega), efq541_1, (by omega), (by omega), (by omega), (by omega), (by dsimp only; omega), (by dsimp only; omega), (by dsimp only; omega), (by dsimp only; omega)⟩
    · refine gy_ifF rfl (by decide) (by decide) (by omega) hc335 ?_
      refine gz_s 2 (pc' := 64) (L' := [some (.ref x), some (.int (zi f)), some (.int (zi t)), some (.int (zi hi)), some (.int (zi lo))]) (S' := [.int (zi 0), .ref x]) rfl ?_
      have hl572 : hq76.2.2.2.1 cq76_0 = hq76.2.2.2.1 cq76_0 := congrFun sS97.2.2.2.2.1 cq76_0
      refine gz_call rfl (by decide) rfl (by decide) (by decide) (gcal_of rfl rfl rfl (Nat.le_of_ble_eq_true rfl) (gJ.recv (G := gGG) sS97.1 t78 rfl rfl)) (cl_putCodes0 _ sS97.1 x t78 0 (by omega) sk s85 t79 cq76_0 ecq76_0 tcq76_0 fq76_0 efq76_0 (by omega) (by omega) uq96) (fun q573 _ wq573 => ?_)
      obtain ⟨pq573, oq573, hq573⟩ := q573
      obtain ⟨tyq573, xq573, cq573_0, ttq573, fq573_0, ecq573_0, tcq573_0, gq573, efq573_0, afq573_0, bfq573_0, uq573_0, uq573_1, uq573_2, uq573_3, uq573_4, uq573_5⟩ := wq573
      dsimp only at uq573_2 uq573_3 uq573_4 uq573_5
      refine ⟨_, gq573, ?_⟩
      show gz gPP gGG gcn _ _ 67 [some (.ref x), some (.int (zi f)), some (.int (zi t)), some (.int (zi hi)), some (.int (zi lo))] [] hq573 _
      have G574 : gSg [114] [] [56000, 56001, 56002, 56003, 71007, 71008, 71009, 71010, 71011, 71012, 71013, 71014, 76999, 77999, 78999, 79999, 80999, 81999, 85999, 91004, 91008, 92004, 92008, 93999, 94999, 95999, 96999, 97999, 98999, 99999, 114999] ty h tyq573 hq573 := gSg.tr (gSg.ss G77 sS97 (by decide)) xq573 (by decide) (by decide) (fun x hx => by cases hx)
      have t575 : tyq573 x = 71 := gSg.typ xq573 sS97.1 t78 rfl
      have t576 : tyq573 sk = 56 := gSg.typ xq573 sS97.1 t79 rfl
      have t577 : tyq573 bt = 114 := gSg.typ xq573 sS97.1 t80 rfl
      have hl578 : hq573.2.2.2.1 bt = hq76.2.2.2.1 bt := gSg.len xq573 sS97.1 t80 rfl
      have t579 : tyq573 c27 = 75 := gSg.typ xq573 sS97.1 t82 rfl
      have t580 : tyq573 c31 = 91 := gSg.typ xq573 sS97.1 t83 rfl
      have t581 : tyq573 c46 = 92 := gSg.typ xq573 sS97.1 t84 rfl
      have t582 : tyq573 cq76_0 = 114 := gSg.typ xq573 sS97.1 tcq76_0 rfl
      have hl583 : hq573.2.2.2.1 cq76_0 = hq76.2.2.2.1 cq76_0 := gSg.len xq573 sS97.1 tcq76_0 rfl
      have s584 := gSg.at xq573 sS97.1 t78 rfl (by decide) s85
      have s585 := gSg.at xq573 sS97.1 t78 rfl (by decide) s86
      have s586 := gSg.at xq573 sS97.1 t78 rfl (by decide) s87
      have s587 := gSg.at xq573 sS97.1 t78 rfl (by decide) s88
      have s588 := gSg.at xq573 sS97.1 t78 rfl (by decide) s89
      have s589 := gSg.at xq573 sS97.1 t78 rfl (by decide) s90
      have s590 := gSg.at xq573 sS97.1 t82 rfl (by decide) s91
      have s591 := gSg.at xq573 sS97.1 t82 rfl (by decide) s92
      have s592 := gSg.at xq573 sS97.1 t78 rfl (by decide) s93
      have s593 := gSg.at xq573 sS97.1 t78 rfl (by decide) s94
      have s594 := gSg.at xq573 sS97.1 t78 rfl (by decide) s95
      have s595 := gSg.at xq573 sS97.1 t79 rfl (by decide) efq76_1
      have uq596 := gSg.uq xq573 uq96 (by decide)
      have sS597 : gSs rT 1027 tyq573 [56000, 56001, 56002, 56003, 71007, 71008, 71009, 71010, 71011, 71012, 71013, 71014, 76999, 77999, 78999, 79999, 80999, 81999, 85999, 91004, 91008, 92004, 92008, 93999, 94999, 95999, 96999, 97999, 98999, 99999, 114999] hq573 hq573 := gSs.rf xq573.1
      refine gz_s 1 (pc' := 68) (L' := [some (.ref x), some (.int (zi f)), some (.int (zi t)), some (.int (zi hi)), some (.int (zi lo))]) (S' := [.ref x]) rfl ?_
      refine gs_gtk rfl (by decide) rfl sS597.1 t575 rfl rfl s586 ?_
      by_cases hc598 : (t : Int) ≤ 0
      · refine gy_ifT (pc' := 79) rfl (by decide) (by decide) (by omega) hc598 ?_
        refine gz_s 1 (pc' := 80) (L' := [some (.ref x), some (.int (zi f)), some (.int (zi t)), some (.int (zi hi)), some (.int (zi lo))]) (S' := [.ref x]) rfl ?_
        have hl599 : hq573.2.2.2.1 cq573_0 = hq573.2.2.2.1 cq573_0 := congrFun sS597.2.2.2.2.1 cq573_0
        refine gz_call rfl (by decide) rfl (by decide) (by decide) (gcal_of rfl rfl rfl (Nat.le_of_ble_eq_true rfl) (gJ.recv (G := gGG) sS597.1 t575 rfl rfl)) (cl_Writer_putScanHead _ sS597.1 x t575 sk s584 t576 cq573_0 ecq573_0 tcq573_0 fq573_0 efq573_0 (by omega) (by omega) uq596) (fun q600 _ wq600 => ?_)
        obtain ⟨pq600, oq600, hq600⟩ := q600
        obtain ⟨tyq600, xq600, cq600_0, ttq600, fq600_0, ecq600_0, tcq600_0, gq600, efq600_0, afq600_0, bfq600_0, uq600_0, uq600_1, uq600_2, uq600_3, uq600_4⟩ := wq600
        dsimp only at uq600_1 uq600_2 uq600_3 uq600_4
        refine ⟨_, gq600, ?_⟩
        show gz gPP gGG gcn _ _ 83 [some (.ref x), some (.int (zi f)), some (.int (zi t)), some (.int (zi hi)), some (.int (zi lo))] [] hq600 _
        have G601 : gSg [114] [] [56000, 56001, 56002, 56003, 71007, 71008, 71009, 71010, 71011, 71012, 71013, 71014, 76999, 77999, 78999, 79999, 80999, 81999, 85999, 91004, 91008, 92004, 92008, 93999, 94999, 95999, 96999, 97999, 98999, 99999, 114999] ty h tyq600 hq600 := gSg.tr (gSg.ss G574 sS597 (by decide)) xq600 (by decide) (by decide) (fun x hx => by cases hx)
        have t602 : tyq600 x = 71 := gSg.typ xq600 sS597.1 t575 rfl
        have t603 : tyq600 sk = 56 := gSg.typ xq600 sS597.1 t576 rfl
        have t604 : tyq600 bt = 114 := gSg.typ xq600 sS597.1 t577 rfl
        have hl605 : hq600.2.2.2.1 bt = hq573.2.2.2.1 bt := gSg.len xq600 sS597.1 t577 rfl
        have t606 : tyq600 c27 = 75 := gSg.typ xq600 sS597.1 t579 rfl
        have t607 : tyq600 c31 = 91 := gSg.typ xq600 sS597.1 t580 rfl
        have t608 : tyq600 c46 = 92 := gSg.typ xq600 sS597.1 t581 rfl
        have t609 : tyq600 cq76_0 = 114 := gSg.typ xq600 sS597.1 t582 rfl
        have hl610 : hq600.2.2.2.1 cq76_0 = hq573.2.2.2.1 cq76_0 := gSg.len xq600 sS597.1 t582 rfl
        have t611 : tyq600 cq573_0 = 114 := gSg.typ xq600 sS597.1 tcq573_0 rfl
        have hl612 : hq600.2.2.2.1 cq573_0 = hq573.2.2.2.1 cq573_0 := gSg.len xq600 sS597.1 tcq573_0 rfl
        have s613 := gSg.at xq600 sS597.1 t575 rfl (by decide) s584
        have s614 := gSg.at xq600 sS597.1 t575 rfl (by decide) s585
        have s615 := gSg.at xq600 sS597.1 t575 rfl (by decide) s586
        have s616 := gSg.at xq600 sS597.1 t575 rfl (by decide) s587
        have s617 := gSg.at xq600 sS597.1 t575 rfl (by decide) s588
        have s618 := gSg.at xq600 sS597.1 t575 rfl (by decide) s589
        have s619 := gSg.at xq600 sS597.1 t579 rfl (by decide) s590
        have s620 := gSg.at xq600 sS597.1 t579 rfl (by decide) s591
        have s621 := gSg.at xq600 sS597.1 t575 rfl (by decide) s592
        have s622 := gSg.at xq600 sS597.1 t575 rfl (by decide) s593
        have s623 := gSg.at xq600 sS597.1 t575 rfl (by decide) s594
        have s624 := gSg.at xq600 sS597.1 t576 rfl (by decide) s595
        have uq625 := gSg.uq xq600 uq596 (by decide)
        have sS626 : gSs rT 1027 tyq600 [56000, 56001, 56002, 56003, 71007, 71008, 71009, 71010, 71011, 71012, 71013, 71014, 76999, 77999, 78999, 79999, 80999, 81999, 85999, 91004, 91008, 92004, 92008, 93999, 94999, 95999, 96999, 97999, 98999, 99999, 114999] hq600 hq600 := gSs.rf xq600.1
        refine gz_s 2 (pc' := 85) (L' := [some (.ref x), some (.int (zi f)), some (.int (zi t)), some (.int (zi hi)), some (.int (zi lo))]) (S' := [.int (zi 0), .ref x]) rfl ?_
        refine gs_put rfl (by decide) rfl sS626 t602 rfl rfl rfl rfl (Or.inl rfl) (by decide) (by omega) (by omega) (fun h627 sh627 eh627 fh627 => ?_)
        have s628 := (fh627 x 0 (fun q => absurd q.2 (by decide))).trans s613
        have s629 := (fh627 x 7 (fun q => absurd q.2 (by decide))).trans s614
        have s630 := (fh627 x 8 (fun q => absurd q.2 (by decide))).trans s615
        have s631 := (fh627 x 9 (fun q => absurd q.2 (by decide))).trans s616
        have s632 := (fh627 x 10 (fun q => absurd q.2 (by decide))).trans s617
        have s633 := (fh627 x 4 (fun q => absurd q.2 (by decide))).trans s618
        have s634 := (fh627 c27 0 (fun q => absurd (((t606).symm.trans (congrArg tyq600 q.1)).trans t602) (by decide))).trans s619
        have s635 := (fh627 c27 1 (fun q => absurd (((t606).symm.trans (congrArg tyq600 q.1)).trans t602) (by decide))).trans s620
        have s636 := (fh627 x 5 (fun q => absurd q.2 (by decide))).trans s622
        have s637 := (fh627 x 6 (fun q => absurd q.2 (by decide))).trans s623
        have s638 := (fh627 sk 3 (fun q => absurd q.2 (by decide))).trans s624
        have s639 := (fh627 sk 0 (fun q => absurd q.2 (by decide))).trans ecq600_0
        have s640 := (fh627 sk 1 (fun q => absurd q.2 (by decide))).trans efq600_0
        refine gz_s 1 (pc' := 89) (L' := [some (.ref x), some (.int (zi f)), some (.int (zi t)), some (.int (zi hi)), some (.int (zi lo))]) (S' := [.ref x]) rfl ?_
        have k641 := sh627.2.1
        have k641b := sh627.2.2.1
        have hl642 : h627.2.2.2.1 bt = hq600.2.2.2.1 bt := congrFun sh627.2.2.2.2.1 bt
        have hl643 : h627.2.2.2.1 cq76_0 = hq600.2.2.2.1 cq76_0 := congrFun sh627.2.2.2.2.1 cq76_0
        have hl644 : h627.2.2.2.1 cq573_0 = hq600.2.2.2.1 cq573_0 := congrFun sh627.2.2.2.2.1 cq573_0
        have hl645 : h627.2.2.2.1 cq600_0 = hq600.2.2.2.1 cq600_0 := congrFun sh627.2.2.2.2.1 cq600_0
        have hl646 : h627.2.2.2.1 cq600_0 = hq600.2.2.2.1 cq600_0 := congrFun sh627.2.2.2.2.1 cq600_0
        refine gz_call rfl (by decide) rfl (by decide) (by decide) (gcal_of rfl rfl rfl (Nat.le_of_ble_eq_true rfl) (gJ.recv (G := gGG) sh627.1 t602 rfl rfl)) (cl_Writer_putBlocks _ sh627.1 x t602 sk s628 t603 cq600_0 s639 tcq600_0 fq600_0 s640 (by omega) fq76_1 s638 (by omega) 0 eh627 (by omega) f s629 (by omega) t s630 (by omega) z74 s636 (by omega) z75 s637 (by omega) (by omega) (by omega) (by omega) uq625) (fun q647 _ wq647 => ?_)
        obtain ⟨pq647, oq647, hq647⟩ := q647
        obtain ⟨tyq647, xq647, cq647_0, ttq647, fq647_0, fq647_1, ecq647_0, tcq647_0, gq647, efq647_0, afq647_0, bfq647_0, efq647_1, afq647_1, bfq647_1, uq647_0, uq647_1, uq647_2, uq647_3, uq647_4, uq647_5, uq647_6⟩ := wq647
        dsimp only at uq647_3 uq647_4 uq647_5 uq647_6
        refine ⟨_, gq647, ?_⟩
        show gz gPP gGG gcn _ _ 92 [some (.ref x), some (.int (zi f)), some (.int (zi t)), some (.int (zi hi)), some (.int (zi lo))] [] hq647 _
        have G648 : gSg [114] [] [56000, 56001, 56002, 56003, 71007, 71008, 71009, 71010, 71011, 71012, 71013, 71014, 76999, 77999, 78999, 79999, 80999, 81999, 85999, 91004, 91008, 92004, 92008, 93999, 94999, 95999, 96999, 97999, 98999, 99999, 114999] ty h tyq647 hq647 := gSg.tr (gSg.ss G601 sh627 (by decide)) xq647 (by decide) (by decide) (fun x hx => by cases hx)
        have t649 : tyq647 x = 71 := gSg.typ xq647 sh627.1 t602 rfl
        have t650 : tyq647 sk = 56 := gSg.typ xq647 sh627.1 t603 rfl
        have t651 : tyq647 bt = 114 := gSg.typ xq647 sh627.1 t604 rfl
        have hl652 : hq647.2.2.2.1 bt = h627.2.2.2.1 bt := gSg.len xq647 sh627.1 t604 rfl
        have t653 : tyq647 c27 = 75 := gSg.typ xq647 sh627.1 t606 rfl
        have t654 : tyq647 c31 = 91 := gSg.typ xq647 sh627.1 t607 rfl
        have t655 : tyq647 c46 = 92 := gSg.typ xq647 sh627.1 t608 rfl
        have t656 : tyq647 cq76_0 = 114 := gSg.typ xq647 sh627.1 t609 rfl
        have hl657 : hq647.2.2.2.1 cq76_0 = h627.2.2.2.1 cq76_0 := gSg.len xq647 sh627.1 t609 rfl
        have t658 : tyq647 cq573_0 = 114 := gSg.typ xq647 sh627.1 t611 rfl
        have hl659 : hq647.2.2.2.1 cq573_0 = h627.2.2.2.1 cq573_0 := gSg.len xq647 sh627.1 t611 rfl
        have t660 : tyq647 cq600_0 = 114 := gSg.typ xq647 sh627.1 tcq600_0 rfl
        have hl661 : hq647.2.2.2.1 cq600_0 = h627.2.2.2.1 cq600_0 := gSg.len xq647 sh627.1 tcq600_0 rfl
        have s662 := gSg.at xq647 sh627.1 t602 rfl (by decide) s628
        have s663 := gSg.at xq647 sh627.1 t602 rfl (by decide) s629
        have s664 := gSg.at xq647 sh627.1 t602 rfl (by decide) s630
        have s665 := gSg.at xq647 sh627.1 t602 rfl (by decide) s631
        have s666 := gSg.at xq647 sh627.1 t602 rfl (by decide) s632
        have s667 := gSg.at xq647 sh627.1 t602 rfl (by decide) s633
        have s668 := gSg.at xq647 sh627.1 t606 rfl (by decide) s634
        have s669 := gSg.at xq647 sh627.1 t606 rfl (by decide) s635
        have s670 := gSg.at xq647 sh627.1 t602 rfl (by decide) s636
        have s671 := gSg.at xq647 sh627.1 t602 rfl (by decide) s637
        have s672 := gSg.at xq647 sh627.1 t602 rfl (by decide) eh627
        have uq673 := gSg.uq xq647 uq625 (by decide)
        have sS674 : gSs rT 1027 tyq647 [56000, 56001, 56002, 56003, 71007, 71008, 71009, 71010, 71011, 71012, 71013, 71014, 76999, 77999, 78999, 79999, 80999, 81999, 85999, 91004, 91008, 92004, 92008, 93999, 94999, 95999, 96999, 97999, 98999, 99999, 114999] hq647 hq647 := gSs.rf xq647.1
        refine gz_s 1 (pc' := 93) (L' := [some (.ref x), some (.int (zi f)), some (.int (zi t)), some (.int (zi hi)), some (.int (zi lo))]) (S' := [.ref x]) rfl ?_
        refine gs_gtk rfl (by decide) rfl sS674.1 t649 rfl rfl s662 ?_
        have hl675 : hq647.2.2.2.1 cq647_0 = hq647.2.2.2.1 cq647_0 := congrFun sS674.2.2.2.2.1 cq647_0
        refine gz_call rfl (by decide) rfl (by decide) (by decide) (gcal_of rfl rfl rfl (Nat.le_of_ble_eq_true rfl) (gJ.recv (G := gGG) sS674.1 t650 rfl rfl)) (cl_Sink_fillByte _ sS674.1 sk t650 cq647_0 ecq647_0 tcq647_0 fq647_0 efq647_0 (by omega) fq647_1 efq647_1 (by omega) (by omega) (by omega) uq673) (fun q676 _ wq676 => ?_)
        obtain ⟨pq676, oq676, hq676⟩ := q676
        obtain ⟨tyq676, xq676, cq676_0, ttq676, fq676_0, fq676_1, ecq676_0, tcq676_0, gq676, efq676_0, afq676_0, bfq676_0, efq676_1, afq676_1, bfq676_1, uq676_0, uq676_1, uq676_2, uq676_3, uq676_4, uq676_5⟩ := wq676
        dsimp only at uq676_2 uq676_3 uq676_4 uq676_5
        refine ⟨_, gq676, ?_⟩
        show gz gPP gGG gcn _ _ 99 [some (.ref x), some (.int (zi f)), some (.int (zi t)), some (.int (zi hi)), some (.int (zi lo))] [] hq676 _
        have G677 : gSg [114] [] [56000, 56001, 56002, 56003, 71007, 71008, 71009, 71010, 71011, 71012, 71013, 71014, 76999, 77999, 78999, 79999, 80999, 81999, 85999, 91004, 91008, 92004, 92008, 93999, 94999, 95999, 96999, 97999, 98999, 99999, 114999] ty h tyq676 hq676 := gSg.tr (gSg.ss G648 sS674 (by decide)) xq676 (by decide) (by decide) (fun x hx => by cases hx)
        have t678 : tyq676 x = 71 := gSg.typ xq676 sS674.1 t649 rfl
        have t679 : tyq676 sk = 56 := gSg.typ xq676 sS674.1 t650 rfl
        have t680 : tyq676 bt = 114 := gSg.typ xq676 sS674.1 t651 rfl
        have hl681 : hq676.2.2.2.1 bt = hq647.2.2.2.1 bt := gSg.len xq676 sS674.1 t651 rfl
        have t682 : tyq676 c27 = 75 := gSg.typ xq676 sS674.1 t653 rfl
        have t683 : tyq676 c31 = 91 := gSg.typ xq676 sS674.1 t654 rfl
        have t684 : tyq676 c46 = 92 := gSg.typ xq676 sS674.1 t655 rfl
        have t685 : tyq676 cq76_0 = 114 := gSg.typ xq676 sS674.1 t656 rfl
        have hl686 : hq676.2.2.2.1 cq76_0 = hq647.2.2.2.1 cq76_0 := gSg.len xq676 sS674.1 t656 rfl
        have t687 : tyq676 cq573_0 = 114 := gSg.typ xq676 sS674.1 t658 rfl
        have hl688 : hq676.2.2.2.1 cq573_0 = hq647.2.2.2.1 cq573_0 := gSg.len xq676 sS674.1 t658 rfl
        have t689 : tyq676 cq600_0 = 114 := gSg.typ xq676 sS674.1 t660 rfl
        have hl690 : hq676.2.2.2.1 cq600_0 = hq647.2.2.2.1 cq600_0 := gSg.len xq676 sS674.1 t660 rfl
        have t691 : tyq676 cq647_0 = 114 := gSg.typ xq676 sS674.1 tcq647_0 rfl
        have hl692 : hq676.2.2.2.1 cq647_0 = hq647.2.2.2.1 cq647_0 := gSg.len xq676 sS674.1 tcq647_0 rfl
        have s693 := gSg.at xq676 sS674.1 t649 rfl (by decide) s662
        have s694 := gSg.at xq676 sS674.1 t649 rfl (by decide) s663
        have s695 := gSg.at xq676 sS674.1 t649 rfl (by decide) s664
        have s696 := gSg.at xq676 sS674.1 t649 rfl (by decide) s665
        have s697 := gSg.at xq676 sS674.1 t649 rfl (by decide) s666
        have s698 := gSg.at xq676 sS674.1 t649 rfl (by decide) s667
        have s699 := gSg.at xq676 sS674.1 t653 rfl (by decide) s668
        have s700 := gSg.at xq676 sS674.1 t653 rfl (by decide) s669
        have s701 := gSg.at xq676 sS674.1 t649 rfl (by decide) s670
        have s702 := gSg.at xq676 sS674.1 t649 rfl (by decide) s671
        have s703 := gSg.at xq676 sS674.1 t649 rfl (by decide) s672
        have uq704 := gSg.uq xq676 uq673 (by decide)
        have sS705 : gSs rT 1027 tyq676 [56000, 56001, 56002, 56003, 71007, 71008, 71009, 71010, 71011, 71012, 71013, 71014, 76999, 77999, 78999, 79999, 80999, 81999, 85999, 91004, 91008, 92004, 92008, 93999, 94999, 95999, 96999, 97999, 98999, 99999, 114999] hq676 hq676 := gSs.rf xq676.1
        have G706 : gSg [114] [] [56000, 56001, 56002, 56003, 71007, 71008, 71009, 71010, 71011, 71012, 71013, 71014, 76999, 77999, 78999, 79999, 80999, 81999, 85999, 91004, 91008, 92004, 92008, 93999, 94999, 95999, 96999, 97999, 98999, 99999, 114999] ty h tyq676 hq676 := gSg.ss G677 sS705 (by decide)
        exact gz_end (I := .return_) (len := 1) rfl (Or.inl rfl) ⟨tyq676, G706, cq676_0, trivial, fq676_0, fq676_1, ecq676_0, tcq676_0, rfl, efq676_0, (by omega), (by omega), efq676_1, (by omega), (by omega), (by omega), (by omega), (by dsimp only; omega), (by dsimp only; omega), (by dsimp only; omega), (by dsimp only; omega)⟩
      · refine gy_ifF rfl (by decide) (by decide) (by omega) hc598 ?_
        refine gz_s 2 (pc' := 76) (L' := [some (.ref x), some (.int (zi f)), some (.int (zi t)), some (.int (zi hi)), some (.int (zi lo))]) (S' := [.int (zi 1), .ref x]) rfl ?_
        have hl707 : hq573.2.2.2.1 cq573_0 = hq573.2.2.2.1 cq573_0 := congrFun sS597.2.2.2.2.1 cq573_0
        refine gz_call rfl (by decide) rfl (by decide) (by decide) (gcal_of rfl rfl rfl (Nat.le_of_ble_eq_true rfl) (gJ.recv (G := gGG) sS597.1 t575 rfl rfl)) (cl_putCodes1 _ sS597.1 x t575 1 (by omega) sk s584 t576 cq573_0 ecq573_0 tcq573_0 fq573_0 efq573_0 (by omega) (by omega) uq596) (fun q708 _ wq708 => ?_)
        obtain ⟨pq708, oq708, hq708⟩ := q708
        obtain ⟨tyq708, xq708, cq708_0, ttq708, fq708_0, ecq708_0, tcq708_0, gq708, efq708_0, afq708_0, bfq708_0, uq708_0, uq708_1, uq708_2, uq708_3, uq708_4, uq708_5⟩ := wq708
        dsimp only at uq708_2 uq708_3 uq708_4 uq708_5
        refine ⟨_, gq708, ?_⟩
        show gz gPP gGG gcn _ _ 79 [some (.ref x), some (.int (zi f)), some (.int (zi t)), some (.int (zi hi)), some (.int (zi lo))] [] hq708 _
        have G709 : gSg [114] [] [56000, 56001, 56002, 56003, 71007, 71008, 71009, 71010, 71011, 71012, 71013, 71014, 76999, 77999, 78999, 79999, 80999, 81999, 85999, 91004, 91008, 92004, 92008, 93999, 94999, 95999, 96999, 97999, 98999, 99999, 114999] ty h tyq708 hq708 := gSg.tr (gSg.ss G574 sS597 (by decide)) xq708 (by decide) (by decide) (fun x hx => by cases hx)
        have t710 : tyq708 x = 71 := gSg.typ xq708 sS597.1 t575 rfl
        have t711 : tyq708 sk = 56 := gSg.typ xq708 sS597.1 t576 rfl
        have t712 : tyq708 bt = 114 := gSg.typ xq708 sS597.1 t577 rfl
        have hl713 : hq708.2.2.2.1 bt = hq573.2.2.2.1 bt := gSg.len xq708 sS597.1 t577 rfl
        have t714 : tyq708 c27 = 75 := gSg.typ xq708 sS597.1 t579 rfl
        have t715 : tyq708 c31 = 91 := gSg.typ xq708 sS597.1 t580 rfl
        have t716 : tyq708 c46 = 92 := gSg.typ xq708 sS597.1 t581 rfl
        have t717 : tyq708 cq76_0 = 114 := gSg.typ xq708 sS597.1 t582 rfl
        have hl718 : hq708.2.2.2.1 cq76_0 = hq573.2.2.2.1 cq76_0 := gSg.len xq708 sS597.1 t582 rfl
        have t719 : tyq708 cq573_0 = 114 := gSg.typ xq708 sS597.1 tcq573_0 rfl
        have hl720 : hq708.2.2.2.1 cq573_0 = hq573.2.2.2.1 cq573_0 := gSg.len xq708 sS597.1 tcq573_0 rfl
        have s721 := gSg.at xq708 sS597.1 t575 rfl (by decide) s584
        have s722 := gSg.at xq708 sS597.1 t575 rfl (by decide) s585
        have s723 := gSg.at xq708 sS597.1 t575 rfl (by decide) s586
        have s724 := gSg.at xq708 sS597.1 t575 rfl (by decide) s587
        have s725 := gSg.at xq708 sS597.1 t575 rfl (by decide) s588
        have s726 := gSg.at xq708 sS597.1 t575 rfl (by decide) s589
        have s727 := gSg.at xq708 sS597.1 t579 rfl (by decide) s590
        have s728 := gSg.at xq708 sS597.1 t579 rfl (by decide) s591
        have s729 := gSg.at xq708 sS597.1 t575 rfl (by decide) s592
        have s730 := gSg.at xq708 sS597.1 t575 rfl (by decide) s593
        have s731 := gSg.at xq708 sS597.1 t575 rfl (by decide) s594
        have s732 := gSg.at xq708 sS597.1 t576 rfl (by decide) s595
        have uq733 := gSg.uq xq708 uq596 (by decide)
        have sS734 : gSs rT 1027 tyq708 [56000, 56001, 56002, 56003, 71007, 71008, 71009, 71010, 71011, 71012, 71013, 71014, 76999, 77999, 78999, 79999, 80999, 81999, 85999, 91004, 91008, 92004, 92008, 93999, 94999, 95999, 96999, 97999, 98999, 99999, 114999] hq708 hq708 := gSs.rf xq708.1
        refine gz_s 1 (pc' := 80) (L' := [some (.ref x), some (.int (zi f)), some (.int (zi t)), some (.int (zi hi)), some (.int (zi lo))]) (S' := [.ref x]) rfl ?_
        have hl735 : hq708.2.2.2.1 cq708_0 = hq708.2.2.2.1 cq708_0 := congrFun sS734.2.2.2.2.1 cq708_0
        refine gz_call rfl (by decide) rfl (by decide) (by decide) (gcal_of rfl rfl rfl (Nat.le_of_ble_eq_true rfl) (gJ.recv (G := gGG) sS734.1 t710 rfl rfl)) (cl_Writer_putScanHead _ sS734.1 x t710 sk s721 t711 cq708_0 ecq708_0 tcq708_0 fq708_0 efq708_0 (by omega) (by omega) uq733) (fun q736 _ wq736 => ?_)
        obtain ⟨pq736, oq736, hq736⟩ := q736
        obtain ⟨tyq736, xq736, cq736_0, ttq736, fq736_0, ecq736_0, tcq736_0, gq736, efq736_0, afq736_0, bfq736_0, uq736_0, uq736_1, uq736_2, uq736_3, uq736_4⟩ := wq736
        dsimp only at uq736_1 uq736_2 uq736_3 uq736_4
        refine ⟨_, gq736, ?_⟩
        show gz gPP gGG gcn _ _ 83 [some (.ref x), some (.int (zi f)), some (.int (zi t)), some (.int (zi hi)), some (.int (zi lo))] [] hq736 _
        have G737 : gSg [114] [] [56000, 56001, 56002, 56003, 71007, 71008, 71009, 71010, 71011, 71012, 71013, 71014, 76999, 77999, 78999, 79999, 80999, 81999, 85999, 91004, 91008, 92004, 92008, 93999, 94999, 95999, 96999, 97999, 98999, 99999, 114999] ty h tyq736 hq736 := gSg.tr (gSg.ss G709 sS734 (by decide)) xq736 (by decide) (by decide) (fun x hx => by cases hx)
        have t738 : tyq736 x = 71 := gSg.typ xq736 sS734.1 t710 rfl
        have t739 : tyq736 sk = 56 := gSg.typ xq736 sS734.1 t711 rfl
        have t740 : tyq736 bt = 114 := gSg.typ xq736 sS734.1 t712 rfl
        have hl741 : hq736.2.2.2.1 bt = hq708.2.2.2.1 bt := gSg.len xq736 sS734.1 t712 rfl
        have t742 : tyq736 c27 = 75 := gSg.typ xq736 sS734.1 t714 rfl
        have t743 : tyq736 c31 = 91 := gSg.typ xq736 sS734.1 t715 rfl
        have t744 : tyq736 c46 = 92 := gSg.typ xq736 sS734.1 t716 rfl
        have t745 : tyq736 cq76_0 = 114 := gSg.typ xq736 sS734.1 t717 rfl
        have hl746 : hq736.2.2.2.1 cq76_0 = hq708.2.2.2.1 cq76_0 := gSg.len xq736 sS734.1 t717 rfl
        have t747 : tyq736 cq573_0 = 114 := gSg.typ xq736 sS734.1 t719 rfl
        have hl748 : hq736.2.2.2.1 cq573_0 = hq708.2.2.2.1 cq573_0 := gSg.len xq736 sS734.1 t719 rfl
        have t749 : tyq736 cq708_0 = 114 := gSg.typ xq736 sS734.1 tcq708_0 rfl
        have hl750 : hq736.2.2.2.1 cq708_0 = hq708.2.2.2.1 cq708_0 := gSg.len xq736 sS734.1 tcq708_0 rfl
        have s751 := gSg.at xq736 sS734.1 t710 rfl (by decide) s721
        have s752 := gSg.at xq736 sS734.1 t710 rfl (by decide) s722
        have s753 := gSg.at xq736 sS734.1 t710 rfl (by decide) s723
        have s754 := gSg.at xq736 sS734.1 t710 rfl (by decide) s724
        have s755 := gSg.at xq736 sS734.1 t710 rfl (by decide) s725
        have s756 := gSg.at xq736 sS734.1 t710 rfl (by decide) s726
        have s757 := gSg.at xq736 sS734.1 t714 rfl (by decide) s727
        have s758 := gSg.at xq736 sS734.1 t714 rfl (by decide) s728
        have s759 := gSg.at xq736 sS734.1 t710 rfl (by decide) s729
        have s760 := gSg.at xq736 sS734.1 t710 rfl (by decide) s730
        have s761 := gSg.at xq736 sS734.1 t710 rfl (by decide) s731
        have s762 := gSg.at xq736 sS734.1 t711 rfl (by decide) s732
        have uq763 := gSg.uq xq736 uq733 (by decide)
        have sS764 : gSs rT 1027 tyq736 [56000, 56001, 56002, 56003, 71007, 71008, 71009, 71010, 71011, 71012, 71013, 71014, 76999, 77999, 78999, 79999, 80999, 81999, 85999, 91004, 91008, 92004, 92008, 93999, 94999, 95999, 96999, 97999, 98999, 99999, 114999] hq736 hq736 := gSs.rf xq736.1
        refine gz_s 2 (pc' := 85) (L' := [some (.ref x), some (.int (zi f)), some (.int (zi t)), some (.int (zi hi)), some (.int (zi lo))]) (S' := [.int (zi 0), .ref x]) rfl ?_
        refine gs_put rfl (by decide) rfl sS764 t738 rfl rfl rfl rfl (Or.inl rfl) (by decide) (by omega) (by omega) (fun h765 sh765 eh765 fh765 => ?_)
        have s766 := (fh765 x 0 (fun q => absurd q.2 (by decide))).trans s751
        have s767 := (fh765 x 7 (fun q => absurd q.2 (by decide))).trans s752
        have s768 := (fh765 x 8 (fun q => absurd q.2 (by decide))).trans s753
        have s769 := (fh765 x 9 (fun q => absurd q.2 (by decide))).trans s754
        have s770 := (fh765 x 10 (fun q => absurd q.2 (by decide))).trans s755
        have s771 := (fh765 x 4 (fun q => absurd q.2 (by decide))).trans s756
        have s772 := (fh765 c27 0 (fun q => absurd (((t742).symm.trans (congrArg tyq736 q.1)).trans t738) (by decide))).trans s757
        have s773 := (fh765 c27 1 (fun q => absurd (((t742).symm.trans (congrArg tyq736 q.1)).trans t738) (by decide))).trans s758
        have s774 := (fh765 x 5 (fun q => absurd q.2 (by decide))).trans s760
        have s775 := (fh765 x 6 (fun q => absurd q.2 (by decide))).trans s761
        have s776 := (fh765 sk 3 (fun q => absurd q.2 (by decide))).trans s762
        have s777 := (fh765 sk 0 (fun q => absurd q.2 (by decide))).trans ecq736_0
        have s778 := (fh765 sk 1 (fun q => absurd q.2 (by decide))).trans efq736_0
        refine gz_s 1 (pc' := 89) (L' := [some (.ref x), some (.int (zi f)), some (.int (zi t)), some (.int (zi hi)), some (.int (zi lo))]) (S' := [.ref x]) rfl ?_
        have k779 := sh765.2.1
        have k779b := sh765.2.2.1
        have hl780 : h765.2.2.2.1 bt = hq736.2.2.2.1 bt := congrFun sh765.2.2.2.2.1 bt
        have hl781 : h765.2.2.2.1 cq76_0 = hq736.2.2.2.1 cq76_0 := congrFun sh765.2.2.2.2.1 cq76_0
        have hl782 : h765.2.2.2.1 cq573_0 = hq736.2.2.2.1 cq573_0 := congrFun sh765.2.2.2.2.1 cq573_0
        have hl783 : h765.2.2.2.1 cq708_0 = hq736.2.2.2.1 cq708_0 := congrFun sh765.2.2.2.2.1 cq708_0
        have hl784 : h765.2.2.2.1 cq736_0 = hq736.2.2.2.1 cq736_0 := congrFun sh765.2.2.2.2.1 cq736_0
        have hl785 : h765.2.2.2.1 cq736_0 = hq736.2.2.2.1 cq736_0 := congrFun sh765.2.2.2.2.1 cq736_0
        refine gz_call rfl (by decide) rfl (by decide) (by decide) (gcal_of rfl rfl rfl (Nat.le_of_ble_eq_true rfl) (gJ.recv (G := gGG) sh765.1 t738 rfl rfl)) (cl_Writer_putBlocks _ sh765.1 x t738 sk s766 t739 cq736_0 s777 tcq736_0 fq736_0 s778 (by omega) fq76_1 s776 (by omega) 0 eh765 (by omega) f s767 (by omega) t s768 (by omega) z74 s774 (by omega) z75 s775 (by omega) (by omega) (by omega) (by omega) uq763) (fun q786 _ wq786 => ?_)
        obtain ⟨pq786, oq786, hq786⟩ := q786
        obtain ⟨tyq786, xq786, cq786_0, ttq786, fq786_0, fq786_1, ecq786_0, tcq786_0, gq786, efq786_0, afq786_0, bfq786_0, efq786_1, afq786_1, bfq786_1, uq786_0, uq786_1, uq786_2, uq786_3, uq786_4, uq786_5, uq786_6⟩ := wq786
        dsimp only at uq786_3 uq786_4 uq786_5 uq786_6
        refine ⟨_, gq786, ?_⟩
        show gz gPP gGG gcn _ _ 92 [some (.ref x), some (.int (zi f)), some (.int (zi t)), some (.int (zi hi)), some (.int (zi lo))] [] hq786 _
        have G787 : gSg [114] [] [56000, 56001, 56002, 56003, 71007, 71008, 71009, 71010, 71011, 71012, 71013, 71014, 76999, 77999, 78999, 79999, 80999, 81999, 85999, 91004, 91008, 92004, 92008, 93999, 94999, 95999, 96999, 97999, 98999, 99999, 114999] ty h tyq786 hq786 := gSg.tr (gSg.ss G737 sh765 (by decide)) xq786 (by decide) (by decide) (fun x hx => by cases hx)
        have t788 : tyq786 x = 71 := gSg.typ xq786 sh765.1 t738 rfl
        have t789 : tyq786 sk = 56 := gSg.typ xq786 sh765.1 t739 rfl
        have t790 : tyq786 bt = 114 := gSg.typ xq786 sh765.1 t740 rfl
        have hl791 : hq786.2.2.2.1 bt = h765.2.2.2.1 bt := gSg.len xq786 sh765.1 t740 rfl
        have t792 : tyq786 c27 = 75 := gSg.typ xq786 sh765.1 t742 rfl
        have t793 : tyq786 c31 = 91 := gSg.typ xq786 sh765.1 t743 rfl
        have t794 : tyq786 c46 = 92 := gSg.typ xq786 sh765.1 t744 rfl
        have t795 : tyq786 cq76_0 = 114 := gSg.typ xq786 sh765.1 t745 rfl
        have hl796 : hq786.2.2.2.1 cq76_0 = h765.2.2.2.1 cq76_0 := gSg.len xq786 sh765.1 t745 rfl
        have t797 : tyq786 cq573_0 = 114 := gSg.typ xq786 sh765.1 t747 rfl
        have hl798 : hq786.2.2.2.1 cq573_0 = h765.2.2.2.1 cq573_0 := gSg.len xq786 sh765.1 t747 rfl
        have t799 : tyq786 cq708_0 = 114 := gSg.typ xq786 sh765.1 t749 rfl
        have hl800 : hq786.2.2.2.1 cq708_0 = h765.2.2.2.1 cq708_0 := gSg.len xq786 sh765.1 t749 rfl
        have t801 : tyq786 cq736_0 = 114 := gSg.typ xq786 sh765.1 tcq736_0 rfl
        have hl802 : hq786.2.2.2.1 cq736_0 = h765.2.2.2.1 cq736_0 := gSg.len xq786 sh765.1 tcq736_0 rfl
        have s803 := gSg.at xq786 sh765.1 t738 rfl (by decide) s766
        have s804 := gSg.at xq786 sh765.1 t738 rfl (by decide) s767
        have s805 := gSg.at xq786 sh765.1 t738 rfl (by decide) s768
        have s806 := gSg.at xq786 sh765.1 t738 rfl (by decide) s769
        have s807 := gSg.at xq786 sh765.1 t738 rfl (by decide) s770
        have s808 := gSg.at xq786 sh765.1 t738 rfl (by decide) s771
        have s809 := gSg.at xq786 sh765.1 t742 rfl (by decide) s772
        have s810 := gSg.at xq786 sh765.1 t742 rfl (by decide) s773
        have s811 := gSg.at xq786 sh765.1 t738 rfl (by decide) s774
        have s812 := gSg.at xq786 sh765.1 t738 rfl (by decide) s775
        have s813 := gSg.at xq786 sh765.1 t738 rfl (by decide) eh765
        have uq814 := gSg.uq xq786 uq763 (by decide)
        have sS815 : gSs rT 1027 tyq786 [56000, 56001, 56002, 56003, 71007, 71008, 71009, 71010, 71011, 71012, 71013, 71014, 76999, 77999, 78999, 79999, 80999, 81999, 85999, 91004, 91008, 92004, 92008, 93999, 94999, 95999, 96999, 97999, 98999, 99999, 114999] hq786 hq786 := gSs.rf xq786.1
        refine gz_s 1 (pc' := 93) (L' := [some (.ref x), some (.int (zi f)), some (.int (zi t)), some (.int (zi hi)), some (.int (zi lo))]) (S' := [.ref x]) rfl ?_
        refine gs_gtk rfl (by decide) rfl sS815.1 t788 rfl rfl s803 ?_
        have hl816 : hq786.2.2.2.1 cq786_0 = hq786.2.2.2.1 cq786_0 := congrFun sS815.2.2.2.2.1 cq786_0
        refine gz_call rfl (by decide) rfl (by decide) (by decide) (gcal_of rfl rfl rfl (Nat.le_of_ble_eq_true rfl) (gJ.recv (G := gGG) sS815.1 t789 rfl rfl)) (cl_Sink_fillByte _ sS815.1 sk t789 cq786_0 ecq786_0 tcq786_0 fq786_0 efq786_0 (by omega) fq786_1 efq786_1 (by omega) (by omega) (by omega) uq814) (fun q817 _ wq817 => ?_)
        obtain ⟨pq817, oq817, hq817⟩ := q817
        obtain ⟨tyq817, xq817, cq817_0, ttq817, fq817_0, fq817_1, ecq817_0, tcq817_0, gq817, efq817_0, afq817_0, bfq817_0, efq817_1, afq817_1, bfq817_1, uq817_0, uq817_1, uq817_2, uq817_3, uq817_4, uq817_5⟩ := wq817
        dsimp only at uq817_2 uq817_3 uq817_4 uq817_5
        refine ⟨_, gq817, ?_⟩
        show gz gPP gGG gcn _ _ 99 [some (.ref x), some (.int (zi f)), some (.int (zi t)), some (.int (zi hi)), some (.int (zi lo))] [] hq817 _
        have G818 : gSg [114] [] [56000, 56001, 56002, 56003, 71007, 71008, 71009, 71010, 71011, 71012, 71013, 71014, 76999, 77999, 78999, 79999, 80999, 81999, 85999, 91004, 91008, 92004, 92008, 93999, 94999, 95999, 96999, 97999, 98999, 99999, 114999] ty h tyq817 hq817 := gSg.tr (gSg.ss G787 sS815 (by decide)) xq817 (by decide) (by decide) (fun x hx => by cases hx)
        have t819 : tyq817 x = 71 := gSg.typ xq817 sS815.1 t788 rfl
        have t820 : tyq817 sk = 56 := gSg.typ xq817 sS815.1 t789 rfl
        have t821 : tyq817 bt = 114 := gSg.typ xq817 sS815.1 t790 rfl
        have hl822 : hq817.2.2.2.1 bt = hq786.2.2.2.1 bt := gSg.len xq817 sS815.1 t790 rfl
        have t823 : tyq817 c27 = 75 := gSg.typ xq817 sS815.1 t792 rfl
        have t824 : tyq817 c31 = 91 := gSg.typ xq817 sS815.1 t793 rfl
        have t825 : tyq817 c46 = 92 := gSg.typ xq817 sS815.1 t794 rfl
        have t826 : tyq817 cq76_0 = 114 := gSg.typ xq817 sS815.1 t795 rfl
        have hl827 : hq817.2.2.2.1 cq76_0 = hq786.2.2.2.1 cq76_0 := gSg.len xq817 sS815.1 t795 rfl
        have t828 : tyq817 cq573_0 = 114 := gSg.typ xq817 sS815.1 t797 rfl
        have hl829 : hq817.2.2.2.1 cq573_0 = hq786.2.2.2.1 cq573_0 := gSg.len xq817 sS815.1 t797 rfl
        have t830 : tyq817 cq708_0 = 114 := gSg.typ xq817 sS815.1 t799 rfl
        have hl831 : hq817.2.2.2.1 cq708_0 = hq786.2.2.2.1 cq708_0 := gSg.len xq817 sS815.1 t799 rfl
        have t832 : tyq817 cq736_0 = 114 := gSg.typ xq817 sS815.1 t801 rfl
        have hl833 : hq817.2.2.2.1 cq736_0 = hq786.2.2.2.1 cq736_0 := gSg.len xq817 sS815.1 t801 rfl
        have t834 : tyq817 cq786_0 = 114 := gSg.typ xq817 sS815.1 tcq786_0 rfl
        have hl835 : hq817.2.2.2.1 cq786_0 = hq786.2.2.2.1 cq786_0 := gSg.len xq817 sS815.1 tcq786_0 rfl
        have s836 := gSg.at xq817 sS815.1 t788 rfl (by decide) s803
        have s837 := gSg.at xq817 sS815.1 t788 rfl (by decide) s804
        have s838 := gSg.at xq817 sS815.1 t788 rfl (by decide) s805
        have s839 := gSg.at xq817 sS815.1 t788 rfl (by decide) s806
        have s840 := gSg.at xq817 sS815.1 t788 rfl (by decide) s807
        have s841 := gSg.at xq817 sS815.1 t788 rfl (by decide) s808
        have s842 := gSg.at xq817 sS815.1 t792 rfl (by decide) s809
        have s843 := gSg.at xq817 sS815.1 t792 rfl (by decide) s810
        have s844 := gSg.at xq817 sS815.1 t788 rfl (by decide) s811
        have s845 := gSg.at xq817 sS815.1 t788 rfl (by decide) s812
        have s846 := gSg.at xq817 sS815.1 t788 rfl (by decide) s813
        have uq847 := gSg.uq xq817 uq814 (by decide)
        have sS848 : gSs rT 1027 tyq817 [56000, 56001, 56002, 56003, 71007, 71008, 71009, 71010, 71011, 71012, 71013, 71014, 76999, 77999, 78999, 79999, 80999, 81999, 85999, 91004, 91008, 92004, 92008, 93999, 94999, 95999, 96999, 97999, 98999, 99999, 114999] hq817 hq817 := gSs.rf xq817.1
        have G849 : gSg [114] [] [56000, 56001, 56002, 56003, 71007, 71008, 71009, 71010, 71011, 71012, 71013, 71014, 76999, 77999, 78999, 79999, 80999, 81999, 85999, 91004, 91008, 92004, 92008, 93999, 94999, 95999, 96999, 97999, 98999, 99999, 114999] ty h tyq817 hq817 := gSg.ss G818 sS848 (by decide)
        exact gz_end (I := .return_) (len := 1) rfl (Or.inl rfl) ⟨tyq817, G849, cq817_0, trivial, fq817_0, fq817_1, ecq817_0, tcq817_0, rfl, efq817_0, (by omega), (by omega), efq817_1, (by omega), (by omega), (by omega), (by omega), (by dsimp only; omega), (by dsimp only; omega), (by dsimp only; omega), (by dsimp only; omega)⟩
