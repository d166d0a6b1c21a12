/-! ===== methods of the landed text (by program) ===== -/
set_option maxRecDepth 20000 in
set_option maxHeartbeats 4000000 in
theorem cl_Picture_begin (d : Nat) {ty : Nat → Nat} {h : gH} (hJ : gJ rT 1027 ty h) (x : Nat) (tx : ty x = 54) (nw : Int) (rnw : 1 ≤ nw ∧ nw ≤ 64) (nh : Int) (rnh : 1 ≤ nh ∧ nh ≤ 64) (n : Int) (rn : 1 ≤ n ∧ n ≤ 3) (bn : Nat) (ebn : h.2.2.2.2 x 0 = .ref bn) (tbn : ty bn = 57) (b0 : Nat) (eb0 : h.2.2.2.2 bn 0 = .ref b0) (tb0 : ty b0 = 82) (b1 : Nat) (eb1 : h.2.2.2.2 bn 1 = .ref b1) (tb1 : ty b1 = 83) (b2 : Nat) (eb2 : h.2.2.2.2 bn 2 = .ref b2) (tb2 : ty b2 = 84) (co : Nat) (eco : h.2.2.2.2 x 2 = .ref co) (tco : ty co = 112) (dm : Nat) (edm : h.2.2.2.2 x 3 = .ref dm) (tdm : ty dm = 113) (hb0 : Int) (ehb0 : h.2.2.2.2 b0 1 = .int (zi hb0)) (rhb0 : (-1) ≤ hb0 ∧ hb0 ≤ 15) (vb0 : Int) (evb0 : h.2.2.2.2 b0 2 = .int (zi vb0)) (rvb0 : 0 ≤ vb0 ∧ vb0 ≤ 15) (tq0 : Int) (etq0 : h.2.2.2.2 b0 3 = .int (zi tq0)) (rtq0 : (-1) ≤ tq0 ∧ tq0 ≤ 255) (hb1 : Int) (ehb1 : h.2.2.2.2 b1 1 = .int (zi hb1)) (rhb1 : (-1) ≤ hb1 ∧ hb1 ≤ 15) (vb1 : Int) (evb1 : h.2.2.2.2 b1 2 = .int (zi vb1)) (rvb1 : 0 ≤ vb1 ∧ vb1 ≤ 15) (tq1 : Int) (etq1 : h.2.2.2.2 b1 3 = .int (zi tq1)) (rtq1 : (-1) ≤ tq1 ∧ tq1 ≤ 255) (hb2 : Int) (ehb2 : h.2.2.2.2 b2 1 = .int (zi hb2)) (rhb2 : (-1) ≤ hb2 ∧ hb2 ≤ 15) (vb2 : Int) (evb2 : h.2.2.2.2 b2 2 = .int (zi vb2)) (rvb2 : 0 ≤ vb2 ∧ vb2 ≤ 15) (tq2 : Int) (etq2 : h.2.2.2.2 b2 3 = .int (zi tq2)) (rtq2 : (-1) ≤ tq2 ∧ tq2 ≤ 255) (pp0 : 0 < n → (1 ≤ hb0 ∧ hb0 ≤ 2 ∧ 1 ≤ vb0 ∧ vb0 ≤ 2 ∧ 0 ≤ tq0 ∧ tq0 ≤ 3)) (pp1 : 1 < n → (1 ≤ hb1 ∧ hb1 ≤ 2 ∧ 1 ≤ vb1 ∧ vb1 ≤ 2 ∧ 0 ≤ tq1 ∧ tq1 ≤ 3)) (pp2 : 2 < n → (1 ≤ hb2 ∧ hb2 ≤ 2 ∧ 1 ≤ vb2 ∧ vb2 ≤ 2 ∧ 0 ≤ tq2 ∧ tq2 ≤ 3)) (pp3 : (h.2.2.2.1 co : Int) = 64 * (h.2.2.2.1 dm : Int)) (pp4 : n = 1 ∨ n = 3) (uq : gUq ty) : gz gPP gGG gcn (d + 2) gt31 0 (gent [.ref x, .int (zi nw), .int (zi nh), .int (zi n)] 5) [] h (fun q _ => ∃ ty9 : Nat → Nat, gSg [112, 113] [] [54002, 54003, 54005, 54006, 54007, 54008, 54010, 54011, 54012, 54013, 82004, 82005, 82006, 82007, 82008, 83004, 83005, 83006, 83007, 83008, 84004, 84005, 84006, 84007, 84008, 112999, 113999] ty h ty9 q.2.2 ∧ ∃ cn1 ld1 : Int, gfin gt31 q.1 q.2.1 = some none ∧ q.2.2.2.2.2.2 x 7 = .int (zi cn1) ∧ 0 ≤ cn1 ∧ cn1 ≤ 3 ∧ 0 ≤ ld1 ∧ ld1 ≤ 192 ∧ (cn1 = n) ∧ (((q.2.2.1 : Int) - h.1) ≤ 2 * (ld1 - h.2.2.2.1 dm)) ∧ (((q.2.2.2.1 : Int) - h.2.1) ≤ 12480 * (ld1 - h.2.2.2.1 dm)) ∧ ((h.2.2.2.1 dm : Int) ≤ ld1) ∧ (gPC ty9 x b0 b1 b2 ld1 q.2.2)) := by
  have hS : gSs rT 1027 ty [54002, 54003, 54005, 54006, 54007, 54008, 54010, 54011, 54012, 54013, 82004, 82005, 82006, 82007, 82008, 83004, 83005, 83006, 83007, 83008, 84004, 84005, 84006, 84007, 84008, 112999, 113999] h h := gSs.rf hJ
  have G0 : gSg [112, 113] [] [54002, 54003, 54005, 54006, 54007, 54008, 54010, 54011, 54012, 54013, 82004, 82005, 82006, 82007, 82008, 83004, 83005, 83006, 83007, 83008, 84004, 84005, 84006, 84007, 84008, 112999, 113999] ty h ty h := gSg.rf hJ (fun x hx => by cases hx)
  refine gz_s 2 (pc' := 2) (L' := [some (.ref x), some (.int (zi nw)), some (.int (zi nh)), some (.int (zi n)), none]) (S' := [.int (zi nw), .ref x]) rfl ?_
  refine gs_put rfl (by decide) rfl hS tx rfl rfl rfl rfl (Or.inl rfl) (by decide) (by omega) (by omega) (fun h1 sh1 eh1 fh1 => ?_)
  have s2 := (fh1 x 0 (fun q => absurd q.2 (by decide))).trans ebn
  have s3 := (fh1 bn 0 (fun q => absurd (((tbn).symm.trans (congrArg ty q.1)).trans tx) (by decide))).trans eb0
  have s4 := (fh1 bn 1 (fun q => absurd (((tbn).symm.trans (congrArg ty q.1)).trans tx) (by decide))).trans eb1
  have s5 := (fh1 bn 2 (fun q => absurd (((tbn).symm.trans (congrArg ty q.1)).trans tx) (by decide))).trans eb2
  have s6 := (fh1 x 2 (fun q => absurd q.2 (by decide))).trans eco
  have s7 := (fh1 x 3 (fun q => absurd q.2 (by decide))).trans edm
  have s8 := (fh1 b0 1 (fun q => absurd q.2 (by decide))).trans ehb0
  have s9 := (fh1 b0 2 (fun q => absurd q.2 (by decide))).trans evb0
  have s10 := (fh1 b0 3 (fun q => absurd q.2 (by decide))).trans etq0
  have s11 := (fh1 b1 1 (fun q => absurd q.2 (by decide))).trans ehb1
  have s12 := (fh1 b1 2 (fun q => absurd q.2 (by decide))).trans evb1
  have s13 := (fh1 b1 3 (fun q => absurd q.2 (by decide))).trans etq1
  have s14 := (fh1 b2 1 (fun q => absurd q.2 (by decide))).trans ehb2
  have s15 := (fh1 b2 2 (fun q => absurd q.2 (by decide))).trans evb2
  have s16 := (fh1 b2 3 (fun q => absurd q.2 (by decide))).trans etq2
  refine gz_s 2 (pc' := 7) (L' := [some (.ref x), some (.int (zi nw)), some (.int (zi nh)), some (.int (zi n)), none]) (S' := [.int (zi nh), .ref x]) rfl ?_
  refine gs_put rfl (by decide) rfl sh1 tx rfl rfl rfl rfl (Or.inl rfl) (by decide) (by omega) (by omega) (fun h17 sh17 eh17 fh17 => ?_)
  have s18 := (fh17 x 0 (fun q => absurd q.2 (by decide))).trans s2
  have s19 := (fh17 bn 0 (fun q => absurd (((tbn).symm.trans (congrArg ty q.1)).trans tx) (by decide))).trans s3
  have s20 := (fh17 bn 1 (fun q => absurd (((tbn).symm.trans (congrArg ty q.1)).trans tx) (by decide))).trans s4
  have s21 := (fh17 bn 2 (fun q => absurd (((tbn).symm.trans (congrArg ty q.1)).trans tx) (by decide))).trans s5
  have s22 := (fh17 x 2 (fun q => absurd q.2 (by decide))).trans s6
  have s23 := (fh17 x 3 (fun q => absurd q.2 (by decide))).trans s7
  have s24 := (fh17 b0 1 (fun q => absurd q.2 (by decide))).trans s8
  have s25 := (fh17 b0 2 (fun q => absurd q.2 (by decide))).trans s9
  have s26 := (fh17 b0 3 (fun q => absurd q.2 (by decide))).trans s10
  have s27 := (fh17 b1 1 (fun q => absurd q.2 (by decide))).trans s11
  have s28 := (fh17 b1 2 (fun q => absurd q.2 (by decide))).trans s12
  have s29 := (fh17 b1 3 (fun q => absurd q.2 (by decide))).trans s13
  have s30 := (fh17 b2 1 (fun q => absurd q.2 (by decide))).trans s14
  have s31 := (fh17 b2 2 (fun q => absurd q.2 (by decide))).trans s15
  have s32 := (fh17 b2 3 (fun q => absurd q.2 (by decide))).trans s16
  have s33 := (fh17 x 5 (fun q => absurd q.2 (by decide))).trans eh1
  refine gz_s 2 (pc' := 12) (L' := [some (.ref x), some (.int (zi nw)), some (.int (zi nh)), some (.int (zi n)), none]) (S' := [.int (zi n), .ref x]) rfl ?_
  refine gs_put rfl (by decide) rfl sh17 tx rfl rfl rfl rfl (Or.inl rfl) (by decide) (by omega) (by omega) (fun h34 sh34 eh34 fh34 => ?_)
  have s35 := (fh34 x 0 (fun q => absurd q.2 (by decide))).trans s18
  have s36 := (fh34 bn 0 (fun q => absurd (((tbn).symm.trans (congrArg ty q.1)).trans tx) (by decide))).trans s19
  have s37 := (fh34 bn 1 (fun q => absurd (((tbn).symm.trans (congrArg ty q.1)).trans tx) (by decide))).trans s20
  have s38 := (fh34 bn 2 (fun q => absurd (((tbn).symm.trans (congrArg ty q.1)).trans tx) (by decide))).trans s21
  have s39 := (fh34 x 2 (fun q => absurd q.2 (by decide))).trans s22
  have s40 := (fh34 x 3 (fun q => absurd q.2 (by decide))).trans s23
  have s41 := (fh34 b0 1 (fun q => absurd q.2 (by decide))).trans s24
  have s42 := (fh34 b0 2 (fun q => absurd q.2 (by decide))).trans s25
  have s43 := (fh34 b0 3 (fun q => absurd q.2 (by decide))).trans s26
  have s44 := (fh34 b1 1 (fun q => absurd q.2 (by decide))).trans s27
  have s45 := (fh34 b1 2 (fun q => absurd q.2 (by decide))).trans s28
  have s46 := (fh34 b1 3 (fun q => absurd q.2 (by decide))).trans s29
  have s47 := (fh34 b2 1 (fun q => absurd q.2 (by decide))).trans s30
  have s48 := (fh34 b2 2 (fun q => absurd q.2 (by decide))).trans s31
  have s49 := (fh34 b2 3 (fun q => absurd q.2 (by decide))).trans s32
  have s50 := (fh34 x 5 (fun q => absurd q.2 (by decide))).trans s33
  have s51 := (fh34 x 6 (fun q => absurd q.2 (by decide))).trans eh17
  refine gz_s 2 (pc' := 17) (L' := [some (.ref x), some (.int (zi nw)), some (.int (zi nh)), some (.int (zi n)), none]) (S' := [.int (zi 1), .ref x]) rfl ?_
  refine gs_put rfl (by decide) rfl sh34 tx rfl rfl rfl rfl (Or.inl rfl) (by decide) (by omega) (by omega) (fun h52 sh52 eh52 fh52 => ?_)
  have s53 := (fh52 x 0 (fun q => absurd q.2 (by decide))).trans s35
  have s54 := (fh52 bn 0 (fun q => absurd (((tbn).symm.trans (congrArg ty q.1)).trans tx) (by decide))).trans s36
  have s55 := (fh52 bn 1 (fun q => absurd (((tbn).symm.trans (congrArg ty q.1)).trans tx) (by decide))).trans s37
  have s56 := (fh52 bn 2 (fun q => absurd (((tbn).symm.trans (congrArg ty q.1)).trans tx) (by decide))).trans s38
  have s57 := (fh52 x 2 (fun q => absurd q.2 (by decide))).trans s39
  have s58 := (fh52 x 3 (fun q => absurd q.2 (by decide))).trans s40
  have s59 := (fh52 b0 1 (fun q => absurd q.2 (by decide))).trans s41
  have s60 := (fh52 b0 2 (fun q => absurd q.2 (by decide))).trans s42
  have s61 := (fh52 b0 3 (fun q => absurd q.2 (by decide))).trans s43
  have s62 := (fh52 b1 1 (fun q => absurd q.2 (by decide))).trans s44
  have s63 := (fh52 b1 2 (fun q => absurd q.2 (by decide))).trans s45
  have s64 := (fh52 b1 3 (fun q => absurd q.2 (by decide))).trans s46
  have s65 := (fh52 b2 1 (fun q => absurd q.2 (by decide))).trans s47
  have s66 := (fh52 b2 2 (fun q => absurd q.2 (by decide))).trans s48
  have s67 := (fh52 b2 3 (fun q => absurd q.2 (by decide))).trans s49
  have s68 := (fh52 x 5 (fun q => absurd q.2 (by decide))).trans s50
  have s69 := (fh52 x 6 (fun q => absurd q.2 (by decide))).trans s51
  have s70 := (fh52 x 7 (fun q => absurd q.2 (by decide))).trans eh34
  refine gz_s 2 (pc' := 22) (L' := [some (.ref x), some (.int (zi nw)), some (.int (zi nh)), some (.int (zi n)), none]) (S' := [.int (zi 1), .ref x]) rfl ?_
  refine gs_put rfl (by decide) rfl sh52 tx rfl rfl rfl rfl (Or.inl rfl) (by decide) (by omega) (by omega) (fun h71 sh71 eh71 fh71 => ?_)
  have s72 := (fh71 x 0 (fun q => absurd q.2 (by decide))).trans s53
  have s73 := (fh71 bn 0 (fun q => absurd (((tbn).symm.trans (congrArg ty q.1)).trans tx) (by decide))).trans s54
  have s74 := (fh71 bn 1 (fun q => absurd (((tbn).symm.trans (congrArg ty q.1)).trans tx) (by decide))).trans s55
  have s75 := (fh71 bn 2 (fun q => absurd (((tbn).symm.trans (congrArg ty q.1)).trans tx) (by decide))).trans s56
  have s76 := (fh71 x 2 (fun q => absurd q.2 (by decide))).trans s57
  have s77 := (fh71 x 3 (fun q => absurd q.2 (by decide))).trans s58
  have s78 := (fh71 b0 1 (fun q => absurd q.2 (by decide))).trans s59
  have s79 := (fh71 b0 2 (fun q => absurd q.2 (by decide))).trans s60
  have s80 := (fh71 b0 3 (fun q => absurd q.2 (by decide))).trans s61
  have s81 := (fh71 b1 1 (fun q => absurd q.2 (by decide))).trans s62
  have s82 := (fh71 b1 2 (fun q => absurd q.2 (by decide))).trans s63
  have s83 := (fh71 b1 3 (fun q => absurd q.2 (by decide))).trans s64
  have s84 := (fh71 b2 1 (fun q => absurd q.2 (by decide))).trans s65
  have s85 := (fh71 b2 2 (fun q => absurd q.2 (by decide))).trans s66
  have s86 := (fh71 b2 3 (fun q => absurd q.2 (by decide))).trans s67
  have s87 := (fh71 x 5 (fun q => absurd q.2 (by decide))).trans s68
  have s88 := (fh71 x 6 (fun q => absurd q.2 (by decide))).trans s69
  have s89 := (fh71 x 7 (fun q => absurd q.2 (by decide))).trans s70
  have s90 := (fh71 x 10 (fun q => absurd q.2 (by decide))).trans eh52
  refine gz_s 4 (pc' := 31) (L' := [some (.ref x), some (.int (zi nw)), some (.int (zi nh)), some (.int (zi n)), some (.int (zi 0))]) (S' := [.ref x, .int (zi 0)]) rfl ?_
  refine gs_gtk rfl (by decide) rfl sh71.1 tx rfl rfl s89 ?_
  refine gy_icF rfl (by decide) (by decide) (by omega) (by omega) (by first | (simp [zc]; done) | (simp only [zc]; omega)) ?_
  refine gz_s 2 (pc' := 39) (L' := [some (.ref x), some (.int (zi nw)), some (.int (zi nh)), some (.int (zi n)), some (.int (zi 0))]) (S' := [.ref x, .ref x]) rfl ?_
  refine gs_gtk rfl (by decide) rfl sh71.1 tx rfl rfl s90 ?_
  refine gz_s 1 (pc' := 43) (L' := [some (.ref x), some (.int (zi nw)), some (.int (zi nh)), some (.int (zi n)), some (.int (zi 0))]) (S' := [.ref x, .int (zi 1), .ref x]) rfl ?_
  refine gs_gtk rfl (by decide) rfl sh71.1 tx rfl rfl s72 ?_
  refine gz_s 1 (pc' := 48) (L' := [some (.ref x), some (.int (zi nw)), some (.int (zi nh)), some (.int (zi n)), some (.int (zi 0))]) (S' := [.int (zi 0), .ref bn, .int (zi 1), .ref x]) rfl ?_
  have he93 : (0 : Int) = 0 := by omega
  refine gs_aak (j := 0) rfl (by decide) sh71.1 tbn rfl rfl rfl (by decide) he93 (by decide) s73 ?_
  refine gs_gtk rfl (by decide) rfl sh71.1 tb0 rfl rfl s78 ?_
  refine gz_call rfl (by decide) rfl (by decide) (by decide) (gcal_of rfl rfl rfl (Nat.le_of_ble_eq_true rfl) rfl) (cl_Math_max _ sh71.1 1 (by omega) hb0 (by omega) ) (fun q94 _ wq94 => ?_)
  obtain ⟨pq94, oq94, hq94⟩ := q94
  obtain ⟨xq94, zq94, gq94, aq94, bq94, uq94_0, uq94_1, uq94_2⟩ := wq94
  refine ⟨_, gq94, ?_⟩
  show gz gPP gGG gcn _ _ 55 [some (.ref x), some (.int (zi nw)), some (.int (zi nh)), some (.int (zi n)), some (.int (zi 0))] [.int (zi zq94), .ref x] hq94 _
  have sq94 : gSs rT 1027 ty [54002, 54003, 54005, 54006, 54007, 54008, 54010, 54011, 54012, 54013, 82004, 82005, 82006, 82007, 82008, 83004, 83005, 83006, 83007, 83008, 84004, 84005, 84006, 84007, 84008, 112999, 113999] h hq94 := gSs.tr sh71 xq94 (by decide)
  have s95 := (xq94.2.2.2.2.2 x 0 (by rw [tx]; decide)).trans s72
  have s96 := (xq94.2.2.2.2.2 bn 0 (by rw [tbn]; decide)).trans s73
  have s97 := (xq94.2.2.2.2.2 bn 1 (by rw [tbn]; decide)).trans s74
  have s98 := (xq94.2.2.2.2.2 bn 2 (by rw [tbn]; decide)).trans s75
  have s99 := (xq94.2.2.2.2.2 x 2 (by rw [tx]; decide)).trans s76
  have s100 := (xq94.2.2.2.2.2 x 3 (by rw [tx]; decide)).trans s77
  have s101 := (xq94.2.2.2.2.2 b0 1 (by rw [tb0]; decide)).trans s78
  have s102 := (xq94.2.2.2.2.2 b0 2 (by rw [tb0]; decide)).trans s79
  have s103 := (xq94.2.2.2.2.2 b0 3 (by rw [tb0]; decide)).trans s80
  have s104 := (xq94.2.2.2.2.2 b1 1 (by rw [tb1]; decide)).trans s81
  have s105 := (xq94.2.2.2.2.2 b1 2 (by rw [tb1]; decide)).trans s82
  have s106 := (xq94.2.2.2.2.2 b1 3 (by rw [tb1]; decide)).trans s83
  have s107 := (xq94.2.2.2.2.2 b2 1 (by rw [tb2]; decide)).trans s84
  have s108 := (xq94.2.2.2.2.2 b2 2 (by rw [tb2]; decide)).trans s85
  have s109 := (xq94.2.2.2.2.2 b2 3 (by rw [tb2]; decide)).trans s86
  have s110 := (xq94.2.2.2.2.2 x 5 (by rw [tx]; decide)).trans s87
  have s111 := (xq94.2.2.2.2.2 x 6 (by rw [tx]; decide)).trans s88
  have s112 := (xq94.2.2.2.2.2 x 7 (by rw [tx]; decide)).trans s89
  have s113 := (xq94.2.2.2.2.2 x 10 (by rw [tx]; decide)).trans s90
  have s114 := (xq94.2.2.2.2.2 x 11 (by rw [tx]; decide)).trans eh71
  refine gs_put rfl (by decide) rfl sq94 tx rfl rfl rfl rfl (Or.inl rfl) (by decide) (by omega) (by omega) (fun h115 sh115 eh115 fh115 => ?_)
  have s116 := (fh115 x 0 (fun q => absurd q.2 (by decide))).trans s95
  have s117 := (fh115 bn 0 (fun q => absurd (((tbn).symm.trans (congrArg ty q.1)).trans tx) (by decide))).trans s96
  have s118 := (fh115 bn 1 (fun q => absurd (((tbn).symm.trans (congrArg ty q.1)).trans tx) (by decide))).trans s97
  have s119 := (fh115 bn 2 (fun q => absurd (((tbn).symm.trans (congrArg ty q.1)).trans tx) (by decide))).trans s98
  have s120 := (fh115 x 2 (fun q => absurd q.2 (by decide))).trans s99
  have s121 := (fh115 x 3 (fun q => absurd q.2 (by decide))).trans s100
  have s122 := (fh115 b0 1 (fun q => absurd q.2 (by decide))).trans s101
  have s123 := (fh115 b0 2 (fun q => absurd q.2 (by decide))).trans s102
  have s124 := (fh115 b0 3 (fun q => absurd q.2 (by decide))).trans s103
  have s125 := (fh115 b1 1 (fun q => absurd q.2 (by decide))).trans s104
  have s126 := (fh115 b1 2 (fun q => absurd q.2 (by decide))).trans s105
  have s127 := (fh115 b1 3 (fun q => absurd q.2 (by decide))).trans s106
  have s128 := (fh115 b2 1 (fun q => absurd q.2 (by decide))).trans s107
  have s129 := (fh115 b2 2 (fun q => absurd q.2 (by decide))).trans s108
  have s130 := (fh115 b2 3 (fun q => absurd q.2 (by decide))).trans s109
  have s131 := (fh115 x 5 (fun q => absurd q.2 (by decide))).trans s110
  have s132 := (fh115 x 6 (fun q => absurd q.2 (by decide))).trans s111
  have s133 := (fh115 x 7 (fun q => absurd q.2 (by decide))).trans s112
  have s134 := (fh115 x 11 (fun q => absurd q.2 (by decide))).trans s114
  refine gz_s 2 (pc' := 60) (L' := [some (.ref x), some (.int (zi nw)), some (.int (zi nh)), some (.int (zi n)), some (.int (zi 0))]) (S' := [.ref x, .ref x]) rfl ?_
  refine gs_gtk rfl (by decide) rfl sh115.1 tx rfl rfl s134 ?_
  refine gz_s 1 (pc' := 64) (L' := [some (.ref x), some (.int (zi nw)), some (.int (zi nh)), some (.int (zi n)), some (.int (zi 0))]) (S' := [.ref x, .int (zi 1), .ref x]) rfl ?_
  refine gs_gtk rfl (by decide) rfl sh115.1 tx rfl rfl s116 ?_
  refine gz_s 1 (pc' := 69) (L' := [some (.ref x), some (.int (zi nw)), some (.int (zi nh)), some (.int (zi n)), some (.int (zi 0))]) (S' := [.int (zi 0), .ref bn, .int (zi 1), .ref x]) rfl ?_
  have he137 : (0 : Int) = 0 := by omega
  refine gs_aak (j := 0) rfl (by decide) sh115.1 tbn rfl rfl rfl (by decide) he137 (by decide) s117 ?_
  refine gs_gtk rfl (by decide) rfl sh115.1 tb0 rfl rfl s123 ?_
  refine gz_call rfl (by decide) rfl (by decide) (by decide) (gcal_of rfl rfl rfl (Nat.le_of_ble_eq_true rfl) rfl) (cl_Math_max _ sh115.1 1 (by omega) vb0 (by omega) ) (fun q138 _ wq138 => ?_)
  obtain ⟨pq138, oq138, hq138⟩ := q138
  obtain ⟨xq138, zq138, gq138, aq138, bq138, uq138_0, uq138_1, uq138_2⟩ := wq138
  refine ⟨_, gq138, ?_⟩
  show gz gPP gGG gcn _ _ 76 [some (.ref x), some (.int (zi nw)), some (.int (zi nh)), some (.int (zi n)), some (.int (zi 0))] [.int (zi zq138), .ref x] hq138 _
  have sq138 : gSs rT 1027 ty [54002, 54003, 54005, 54006, 54007, 54008, 54010, 54011, 54012, 54013, 82004, 82005, 82006, 82007, 82008, 83004, 83005, 83006, 83007, 83008, 84004, 84005, 84006, 84007, 84008, 112999, 113999] h hq138 := gSs.tr sh115 xq138 (by decide)
  have s139 := (xq138.2.2.2.2.2 x 0 (by rw [tx]; decide)).trans s116
  have s140 := (xq138.2.2.2.2.2 bn 0 (by rw [tbn]; decide)).trans s117
  have s141 := (xq138.2.2.2.2.2 bn 1 (by rw [tbn]; decide)).trans s118
  have s142 := (xq138.2.2.2.2.2 bn 2 (by rw [tbn]; decide)).trans s119
  have s143 := (xq138.2.2.2.2.2 x 2 (by rw [tx]; decide)).trans s120
  have s144 := (xq138.2.2.2.2.2 x 3 (by rw [tx]; decide)).trans s121
  have s145 := (xq138.2.2.2.2.2 b0 1 (by rw [tb0]; decide)).trans s122
  have s146 := (xq138.2.2.2.2.2 b0 2 (by rw [tb0]; decide)).trans s123
  have s147 := (xq138.2.2.2.2.2 b0 3 (by rw [tb0]; decide)).trans s124
  have s148 := (xq138.2.2.2.2.2 b1 1 (by rw [tb1]; decide)).trans s125
  have s149 := (xq138.2.2.2.2.2 b1 2 (by rw [tb1]; decide)).trans s126
  have s150 := (xq138.2.2.2.2.2 b1 3 (by rw [tb1]; decide)).trans s127
  have s151 := (xq138.2.2.2.2.2 b2 1 (by rw [tb2]; decide)).trans s128
  have s152 := (xq138.2.2.2.2.2 b2 2 (by rw [tb2]; decide)).trans s129
  have s153 := (xq138.2.2.2.2.2 b2 3 (by rw [tb2]; decide)).trans s130
  have s154 := (xq138.2.2.2.2.2 x 5 (by rw [tx]; decide)).trans s131
  have s155 := (xq138.2.2.2.2.2 x 6 (by rw [tx]; decide)).trans s132
  have s156 := (xq138.2.2.2.2.2 x 7 (by rw [tx]; decide)).trans s133
  have s157 := (xq138.2.2.2.2.2 x 11 (by rw [tx]; decide)).trans s134
  have s158 := (xq138.2.2.2.2.2 x 10 (by rw [tx]; decide)).trans eh115
  refine gs_put rfl (by decide) rfl sq138 tx rfl rfl rfl rfl (Or.inl rfl) (by decide) (by omega) (by omega) (fun h159 sh159 eh159 fh159 => ?_)
  have s160 := (fh159 x 0 (fun q => absurd q.2 (by decide))).trans s139
  have s161 := (fh159 bn 0 (fun q => absurd (((tbn).symm.trans (congrArg ty q.1)).trans tx) (by decide))).trans s140
  have s162 := (fh159 bn 1 (fun q => absurd (((tbn).symm.trans (congrArg ty q.1)).trans tx) (by decide))).trans s141
  have s163 := (fh159 bn 2 (fun q => absurd (((tbn).symm.trans (congrArg ty q.1)).trans tx) (by decide))).trans s142
  have s164 := (fh159 x 2 (fun q => absurd q.2 (by decide))).trans s143
  have s165 := (fh159 x 3 (fun q => absurd q.2 (by decide))).trans s144
  have s166 := (fh159 b0 1 (fun q => absurd q.2 (by decide))).trans s145
  have s167 := (fh159 b0 2 (fun q => absurd q.2 (by decide))).trans s146
  have s168 := (fh159 b0 3 (fun q => absurd q.2 (by decide))).trans s147
  have s169 := (fh159 b1 1 (fun q => absurd q.2 (by decide))).trans s148
  have s170 := (fh159 b1 2 (fun q => absurd q.2 (by decide))).trans s149
  have s171 := (fh159 b1 3 (fun q => absurd q.2 (by decide))).trans s150
  have s172 := (fh159 b2 1 (fun q => absurd q.2 (by decide))).trans s151
  have s173 := (fh159 b2 2 (fun q => absurd q.2 (by decide))).trans s152
  have s174 := (fh159 b2 3 (fun q => absurd q.2 (by decide))).trans s153
  have s175 := (fh159 x 5 (fun q => absurd q.2 (by decide))).trans s154
  have s176 := (fh159 x 6 (fun q => absurd q.2 (by decide))).trans s155
  have s177 := (fh159 x 7 (fun q => absurd q.2 (by decide))).trans s156
  have s178 := (fh159 x 10 (fun q => absurd q.2 (by decide))).trans s158
  refine gy_s 4 (pc' := 31) (L' := [some (.ref x), some (.int (zi nw)), some (.int (zi nh)), some (.int (zi n)), some (.int ((zi 0) + zi 1))]) (S' := [.ref x, .int ((zi 0) + zi 1)]) (L2 := [some (.ref x), some (.int (zi nw)), some (.int (zi nh)), some (.int (zi n)), some (.int (zi 1))]) (S2 := [.ref x, .int (zi 1)]) rfl (by simp only [zi_add, zi_sub, zi_mul, zi_neg, zi_and1, zi_and7, zi_and15, zi_and31, zi_and255, Int.reduceAdd, Int.reduceMul, Int.reduceSub]) (by simp only [zi_add, zi_sub, zi_mul, zi_neg, zi_and1, zi_and7, zi_and15, zi_and31, zi_and255, Int.reduceAdd, Int.reduceMul, Int.reduceSub]) ?_
  refine gs_gtk rfl (by decide) rfl sh159.1 tx rfl rfl s177 ?_
  by_cases hc179 : (n : Int) ≤ 1
  · refine gy_icT (pc' := 85) rfl (by decide) (by decide) (by omega) (by omega) hc179 ?_
    have hz1 := zup8 (w := nw) (wd := zq94) (by omega) (by omega)
    refine gz_s 2 (pc' := 87) (L' := [some (.ref x), some (.int (zi nw)), some (.int (zi nh)), some (.int (zi n)), some (.int (zi 1))]) (S' := [.ref x, .ref x]) rfl ?_
    refine gs_gtk rfl (by decide) rfl sh159.1 tx rfl rfl s175 ?_
    refine gz_s 2 (pc' := 93) (L' := [some (.ref x), some (.int (zi nw)), some (.int (zi nh)), some (.int (zi n)), some (.int (zi 1))]) (S' := [.ref x, .int (zi 8), .int (zi nw), .ref x]) rfl ?_
    refine gs_gtk rfl (by decide) rfl sh159.1 tx rfl rfl s178 ?_
    refine gy_s 1 (pc' := 97) (L' := [some (.ref x), some (.int (zi nw)), some (.int (zi nh)), some (.int (zi n)), some (.int (zi 1))]) (S' := [.int ((zi 8) * (zi zq94)), .int (zi nw), .ref x]) (L2 := [some (.ref x), some (.int (zi nw)), some (.int (zi nh)), some (.int (zi n)), some (.int (zi 1))]) (S2 := [.int (zi (8 * zq94)), .int (zi nw), .ref x]) rfl (by simp only [zi_add, zi_sub, zi_mul, zi_neg, zi_and1, zi_and7, zi_and15, zi_and31, zi_and255, Int.reduceAdd, Int.reduceMul, Int.reduceSub]) (by simp only [zi_add, zi_sub, zi_mul, zi_neg, zi_and1, zi_and7, zi_and15, zi_and31, zi_and255, Int.reduceAdd, Int.reduceMul, Int.reduceSub]) ?_
    refine gz_call rfl (by decide) rfl (by decide) (by decide) (gcal_of rfl rfl rfl (Nat.le_of_ble_eq_true rfl) rfl) (cl_DctFilter_upward _ sh159.1 nw (by omega) (8 * zq94) (by omega) ) (fun q180 _ wq180 => ?_)
    obtain ⟨pq180, oq180, hq180⟩ := q180
    obtain ⟨xq180, zq180, gq180, aq180, bq180, uq180_0⟩ := wq180
    refine ⟨_, gq180, ?_⟩
    show gz gPP gGG gcn _ _ 100 [some (.ref x), some (.int (zi nw)), some (.int (zi nh)), some (.int (zi n)), some (.int (zi 1))] [.int (zi zq180), .ref x] hq180 _
    have sq180 : gSs rT 1027 ty [54002, 54003, 54005, 54006, 54007, 54008, 54010, 54011, 54012, 54013, 82004, 82005, 82006, 82007, 82008, 83004, 83005, 83006, 83007, 83008, 84004, 84005, 84006, 84007, 84008, 112999, 113999] h hq180 := gSs.tr sh159 xq180 (by decide)
    have s181 := (xq180.2.2.2.2.2 x 0 (by rw [tx]; decide)).trans s160
    have s182 := (xq180.2.2.2.2.2 bn 0 (by rw [tbn]; decide)).trans s161
    have s183 := (xq180.2.2.2.2.2 bn 1 (by rw [tbn]; decide)).trans s162
    have s184 := (xq180.2.2.2.2.2 bn 2 (by rw [tbn]; decide)).trans s163
    have s185 := (xq180.2.2.2.2.2 x 2 (by rw [tx]; decide)).trans s164
    have s186 := (xq180.2.2.2.2.2 x 3 (by rw [tx]; decide)).trans s165
    have s187 := (xq180.2.2.2.2.2 b0 1 (by rw [tb0]; decide)).trans s166
    have s188 := (xq180.2.2.2.2.2 b0 2 (by rw [tb0]; decide)).trans s167
    have s189 := (xq180.2.2.2.2.2 b0 3 (by rw [tb0]; decide)).trans s168
    have s190 := (xq180.2.2.2.2.2 b1 1 (by rw [tb1]; decide)).trans s169
    have s191 := (xq180.2.2.2.2.2 b1 2 (by rw [tb1]; decide)).trans s170
    have s192 := (xq180.2.2.2.2.2 b1 3 (by rw [tb1]; decide)).trans s171
    have s193 := (xq180.2.2.2.2.2 b2 1 (by rw [tb2]; decide)).trans s172
    have s194 := (xq180.2.2.2.2.2 b2 2 (by rw [tb2]; decide)).trans s173
    have s195 := (xq180.2.2.2.2.2 b2 3 (by rw [tb2]; decide)).trans s174
    have s196 := (xq180.2.2.2.2.2 x 5 (by rw [tx]; decide)).trans s175
    have s197 := (xq180.2.2.2.2.2 x 6 (by rw [tx]; decide)).trans s176
    have s198 := (xq180.2.2.2.2.2 x 7 (by rw [tx]; decide)).trans s177
    have s199 := (xq180.2.2.2.2.2 x 10 (by rw [tx]; decide)).trans s178
    have s200 := (xq180.2.2.2.2.2 x 11 (by rw [tx]; decide)).trans eh159
    refine gs_put rfl (by decide) rfl sq180 tx rfl rfl rfl rfl (Or.inl rfl) (by decide) (by omega) (by omega) (fun h201 sh201 eh201 fh201 => ?_)
    have s202 := (fh201 x 0 (fun q => absurd q.2 (by decide))).trans s181
    have s203 := (fh201 bn 0 (fun q => absurd (((tbn).symm.trans (congrArg ty q.1)).trans tx) (by decide))).trans s182
    have s204 := (fh201 bn 1 (fun q => absurd (((tbn).symm.trans (congrArg ty q.1)).trans tx) (by decide))).trans s183
    have s205 := (fh201 bn 2 (fun q => absurd (((tbn).symm.trans (congrArg ty q.1)).trans tx) (by decide))).trans s184
    have s206 := (fh201 x 2 (fun q => absurd q.2 (by decide))).trans s185
    have s207 := (fh201 x 3 (fun q => absurd q.2 (by decide))).trans s186
    have s208 := (fh201 b0 1 (fun q => absurd q.2 (by decide))).trans s187
    have s209 := (fh201 b0 2 (fun q => absurd q.2 (by decide))).trans s188
    have s210 := (fh201 b0 3 (fun q => absurd q.2 (by decide))).trans s189
    have s211 := (fh201 b1 1 (fun q => absurd q.2 (by decide))).trans s190
    have s212 := (fh201 b1 2 (fun q => absurd q.2 (by decide))).trans s191
    have s213 := (fh201 b1 3 (fun q => absurd q.2 (by decide))).trans s192
    have s214 := (fh201 b2 1 (fun q => absurd q.2 (by decide))).trans s193
    have s215 := (fh201 b2 2 (fun q => absurd q.2 (by decide))).trans s194
    have s216 := (fh201 b2 3 (fun q => absurd q.2 (by decide))).trans s195
    have s217 := (fh201 x 5 (fun q => absurd q.2 (by decide))).trans s196
    have s218 := (fh201 x 6 (fun q => absurd q.2 (by decide))).trans s197
    have s219 := (fh201 x 7 (fun q => absurd q.2 (by decide))).trans s198
    have s220 := (fh201 x 10 (fun q => absurd q.2 (by decide))).trans s199
    have s221 := (fh201 x 11 (fun q => absurd q.2 (by decide))).trans s200
    have hz2 := zup8 (w := nh) (wd := zq138) (by omega) (by omega)
    refine gz_s 2 (pc' := 105) (L' := [some (.ref x), some (.int (zi nw)), some (.int (zi nh)), some (.int (zi n)), some (.int (zi 1))]) (S' := [.ref x, .ref x]) rfl ?_
    refine gs_gtk rfl (by decide) rfl sh201.1 tx rfl rfl s218 ?_
    refine gz_s 2 (pc' := 111) (L' := [some (.ref x), some (.int (zi nw)), some (.int (zi nh)), some (.int (zi n)), some (.int (zi 1))]) (S' := [.ref x, .int (zi 8), .int (zi nh), .ref x]) rfl ?_
    refine gs_gtk rfl (by decide) rfl sh201.1 tx rfl rfl s221 ?_
    refine gy_s 1 (pc' := 115) (L' := [some (.ref x), some (.int (zi nw)), some (.int (zi nh)), some (.int (zi n)), some (.int (zi 1))]) (S' := [.int ((zi 8) * (zi zq138)), .int (zi nh), .ref x]) (L2 := [some (.ref x), some (.int (zi nw)), some (.int (zi nh)), some (.int (zi n)), some (.int (zi 1))]) (S2 := [.int (zi (8 * zq138)), .int (zi nh), .ref x]) rfl (by simp only [zi_add, zi_sub, zi_mul, zi_neg, zi_and1, zi_and7, zi_and15, zi_and31, zi_and255, Int.reduceAdd, Int.reduceMul, Int.reduceSub]) (by simp only [zi_add, zi_sub, zi_mul, zi_neg, zi_and1, zi_and7, zi_and15, zi_and31, zi_and255, Int.reduceAdd, Int.reduceMul, Int.reduceSub]) ?_
    refine gz_call rfl (by decide) rfl (by decide) (by decide) (gcal_of rfl rfl rfl (Nat.le_of_ble_eq_true rfl) rfl) (cl_DctFilter_upward _ sh201.1 nh (by omega) (8 * zq138) (by omega) ) (fun q222 _ wq222 => ?_)
    obtain ⟨pq222, oq222, hq222⟩ := q222
    obtain ⟨xq222, zq222, gq222, aq222, bq222, uq222_0⟩ := wq222
    refine ⟨_, gq222, ?_⟩
    show gz gPP gGG gcn _ _ 118 [some (.ref x), some (.int (zi nw)), some (.int (zi nh)), some (.int (zi n)), some (.int (zi 1))] [.int (zi zq222), .ref x] hq222 _
    have sq222 : gSs rT 1027 ty [54002, 54003, 54005, 54006, 54007, 54008, 54010, 54011, 54012, 54013, 82004, 82005, 82006, 82007, 82008, 83004, 83005, 83006, 83007, 83008, 84004, 84005, 84006, 84007, 84008, 112999, 113999] h hq222 := gSs.tr sh201 xq222 (by decide)
    have s223 := (xq222.2.2.2.2.2 x 0 (by rw [tx]; decide)).trans s202
    have s224 := (xq222.2.2.2.2.2 bn 0 (by rw [tbn]; decide)).trans s203
    have s225 := (xq222.2.2.2.2.2 bn 1 (by rw [tbn]; decide)).trans s204
    have s226 := (xq222.2.2.2.2.2 bn 2 (by rw [tbn]; decide)).trans s205
    have s227 := (xq222.2.2.2.2.2 x 2 (by rw [tx]; decide)).trans s206
    have s228 := (xq222.2.2.2.2.2 x 3 (by rw [tx]; decide)).trans s207
    have s229 := (xq222.2.2.2.2.2 b0 1 (by rw [tb0]; decide)).trans s208
    have s230 := (xq222.2.2.2.2.2 b0 2 (by rw [tb0]; decide)).trans s209
    have s231 := (xq222.2.2.2.2.2 b0 3 (by rw [tb0]; decide)).trans s210
    have s232 := (xq222.2.2.2.2.2 b1 1 (by rw [tb1]; decide)).trans s211
    have s233 := (xq222.2.2.2.2.2 b1 2 (by rw [tb1]; decide)).trans s212
    have s234 := (xq222.2.2.2.2.2 b1 3 (by rw [tb1]; decide)).trans s213
    have s235 := (xq222.2.2.2.2.2 b2 1 (by rw [tb2]; decide)).trans s214
    have s236 := (xq222.2.2.2.2.2 b2 2 (by rw [tb2]; decide)).trans s215
    have s237 := (xq222.2.2.2.2.2 b2 3 (by rw [tb2]; decide)).trans s216
    have s238 := (xq222.2.2.2.2.2 x 5 (by rw [tx]; decide)).trans s217
    have s239 := (xq222.2.2.2.2.2 x 6 (by rw [tx]; decide)).trans s218
    have s240 := (xq222.2.2.2.2.2 x 7 (by rw [tx]; decide)).trans s219
    have s241 := (xq222.2.2.2.2.2 x 10 (by rw [tx]; decide)).trans s220
    have s242 := (xq222.2.2.2.2.2 x 11 (by rw [tx]; decide)).trans s221
    have s243 := (xq222.2.2.2.2.2 x 12 (by rw [tx]; decide)).trans eh201
    refine gs_put rfl (by decide) rfl sq222 tx rfl rfl rfl rfl (Or.inl rfl) (by decide) (by omega) (by omega) (fun h244 sh244 eh244 fh244 => ?_)
    have s245 := (fh244 x 0 (fun q => absurd q.2 (by decide))).trans s223
    have s246 := (fh244 bn 0 (fun q => absurd (((tbn).symm.trans (congrArg ty q.1)).trans tx) (by decide))).trans s224
    have s247 := (fh244 bn 1 (fun q => absurd (((tbn).symm.trans (congrArg ty q.1)).trans tx) (by decide))).trans s225
    have s248 := (fh244 bn 2 (fun q => absurd (((tbn).symm.trans (congrArg ty q.1)).trans tx) (by decide))).trans s226
    have s249 := (fh244 x 2 (fun q => absurd q.2 (by decide))).trans s227
    have s250 := (fh244 x 3 (fun q => absurd q.2 (by decide))).trans s228
    have s251 := (fh244 b0 1 (fun q => absurd q.2 (by decide))).trans s229
    have s252 := (fh244 b0 2 (fun q => absurd q.2 (by decide))).trans s230
    have s253 := (fh244 b0 3 (fun q => absurd q.2 (by decide))).trans s231
    have s254 := (fh244 b1 1 (fun q => absurd q.2 (by decide))).trans s232
    have s255 := (fh244 b1 2 (fun q => absurd q.2 (by decide))).trans s233
    have s256 := (fh244 b1 3 (fun q => absurd q.2 (by decide))).trans s234
    have s257 := (fh244 b2 1 (fun q => absurd q.2 (by decide))).trans s235
    have s258 := (fh244 b2 2 (fun q => absurd q.2 (by decide))).trans s236
    have s259 := (fh244 b2 3 (fun q => absurd q.2 (by decide))).trans s237
    have s260 := (fh244 x 5 (fun q => absurd q.2 (by decide))).trans s238
    have s261 := (fh244 x 6 (fun q => absurd q.2 (by decide))).trans s239
    have s262 := (fh244 x 7 (fun q => absurd q.2 (by decide))).trans s240
    have s263 := (fh244 x 10 (fun q => absurd q.2 (by decide))).trans s241
    have s264 := (fh244 x 11 (fun q => absurd q.2 (by decide))).trans s242
    have s265 := (fh244 x 12 (fun q => absurd q.2 (by decide))).trans s243
    refine gz_s 2 (pc' := 123) (L' := [some (.ref x), some (.int (zi nw)), some (.int (zi nh)), some (.int (zi n)), some (.int (zi 1))]) (S' := [.int (zi 0), .ref x]) rfl ?_
    refine gs_put rfl (by decide) rfl sh244 tx rfl rfl rfl rfl (Or.inl rfl) (by decide) (by omega) (by omega) (fun h266 sh266 eh266 fh266 => ?_)
    have s267 := (fh266 x 0 (fun q => absurd q.2 (by decide))).trans s245
    have s268 := (fh266 bn 0 (fun q => absurd (((tbn).symm.trans (congrArg ty q.1)).trans tx) (by decide))).trans s246
    have s269 := (fh266 bn 1 (fun q => absurd (((tbn).symm.trans (congrArg ty q.1)).trans tx) (by decide))).trans s247
    have s270 := (fh266 bn 2 (fun q => absurd (((tbn).symm.trans (congrArg ty q.1)).trans tx) (by decide))).trans s248
    have s271 := (fh266 x 2 (fun q => absurd q.2 (by decide))).trans s249
    have s272 := (fh266 x 3 (fun q => absurd q.2 (by decide))).trans s250
    have s273 := (fh266 b0 1 (fun q => absurd q.2 (by decide))).trans s251
    have s274 := (fh266 b0 2 (fun q => absurd q.2 (by decide))).trans s252
    have s275 := (fh266 b0 3 (fun q => absurd q.2 (by decide))).trans s253
    have s276 := (fh266 b1 1 (fun q => absurd q.2 (by decide))).trans s254
    have s277 := (fh266 b1 2 (fun q => absurd q.2 (by decide))).trans s255
    have s278 := (fh266 b1 3 (fun q => absurd q.2 (by decide))).trans s256
    have s279 := (fh266 b2 1 (fun q => absurd q.2 (by decide))).trans s257
    have s280 := (fh266 b2 2 (fun q => absurd q.2 (by decide))).trans s258
    have s281 := (fh266 b2 3 (fun q => absurd q.2 (by decide))).trans s259
    have s282 := (fh266 x 5 (fun q => absurd q.2 (by decide))).trans s260
    have s283 := (fh266 x 6 (fun q => absurd q.2 (by decide))).trans s261
    have s284 := (fh266 x 7 (fun q => absurd q.2 (by decide))).trans s262
    have s285 := (fh266 x 10 (fun q => absurd q.2 (by decide))).trans s263
    have s286 := (fh266 x 11 (fun q => absurd q.2 (by decide))).trans s264
    have s287 := (fh266 x 12 (fun q => absurd q.2 (by decide))).trans s265
    have s288 := (fh266 x 13 (fun q => absurd q.2 (by decide))).trans eh244
    refine gz_s 4 (pc' := 132) (L' := [some (.ref x), some (.int (zi nw)), some (.int (zi nh)), some (.int (zi n)), some (.int (zi 0))]) (S' := [.ref x, .int (zi 0)]) rfl ?_
    refine gs_gtk rfl (by decide) rfl sh266.1 tx rfl rfl s284 ?_
    refine gy_icF rfl (by decide) (by decide) (by omega) (by omega) (by first | (simp [zc]; done) | (simp only [zc]; omega)) ?_
    refine gz_s 2 (pc' := 140) (L' := [some (.ref x), some (.int (zi nw)), some (.int (zi nh)), some (.int (zi n)), some (.int (zi 0))]) (S' := [.ref x, .ref x]) rfl ?_
    refine gs_gtk rfl (by decide) rfl sh266.1 tx rfl rfl s267 ?_
    refine gz_s 1 (pc' := 145) (L' := [some (.ref x), some (.int (zi nw)), some (.int (zi nh)), some (.int (zi n)), some (.int (zi 0))]) (S' := [.int (zi 0), .ref bn, .ref x]) rfl ?_
    have he291 : (0 : Int) = 0 := by omega
    refine gs_aak (j := 0) rfl (by decide) sh266.1 tbn rfl rfl rfl (by decide) he291 (by decide) s268 ?_
    refine gz_call rfl (by decide) rfl (by decide) (by decide) (gcal_of rfl rfl rfl (Nat.le_of_ble_eq_true rfl) (gJ.recv (G := gGG) sh266.1 tx rfl rfl)) (cl_placeBand0 _ sh266.1 x tx b0 tb0 zq180 s287 (by omega) zq222 s288 (by omega) 0 eh266 (by omega) nw s282 (by omega) nh s283 (by omega) zq94 s285 (by omega) zq138 s286 (by omega) hb0 s273 (by omega) vb0 s274 (by omega) (by omega) (by omega) (by omega) (by omega) uq) (fun q292 _ wq292 => ?_)
    obtain ⟨pq292, oq292, hq292⟩ := q292
    obtain ⟨xq292, fq292_0, fq292_1, fq292_2, fq292_3, fq292_4, fq292_5, gq292, efq292_0, afq292_0, bfq292_0, efq292_1, afq292_1, bfq292_1, efq292_2, afq292_2, bfq292_2, efq292_3, afq292_3, bfq292_3, efq292_4, afq292_4, bfq292_4, efq292_5, afq292_5, bfq292_5, uq292_0, uq292_1, uq292_2, uq292_3, uq292_4, uq292_5, uq292_6, uq292_7, uq292_8, uq292_9, uq292_10, uq292_11⟩ := wq292
    refine ⟨_, gq292, ?_⟩
    show gz gPP gGG gcn _ _ 149 [some (.ref x), some (.int (zi nw)), some (.int (zi nh)), some (.int (zi n)), some (.int (zi 0))] [] hq292 _
    have sq292 : gSs rT 1027 ty [54002, 54003, 54005, 54006, 54007, 54008, 54010, 54011, 54012, 54013, 82004, 82005, 82006, 82007, 82008, 83004, 83005, 83006, 83007, 83008, 84004, 84005, 84006, 84007, 84008, 112999, 113999] h hq292 := gSs.tr sh266 xq292 (by decide)
    have s293 := (xq292.2.2.2.2.2 x 0 (by rw [tx]; decide)).trans s267
    have s294 := (xq292.2.2.2.2.2 bn 0 (by rw [tbn]; decide)).trans s268
    have s295 := (xq292.2.2.2.2.2 bn 1 (by rw [tbn]; decide)).trans s269
    have s296 := (xq292.2.2.2.2.2 bn 2 (by rw [tbn]; decide)).trans s270
    have s297 := (xq292.2.2.2.2.2 x 2 (by rw [tx]; decide)).trans s271
    have s298 := (xq292.2.2.2.2.2 x 3 (by rw [tx]; decide)).trans s272
    have s299 := (xq292.2.2.2.2.2 b0 1 (by rw [tb0]; decide)).trans s273
    have s300 := (xq292.2.2.2.2.2 b0 2 (by rw [tb0]; decide)).trans s274
    have s301 := (xq292.2.2.2.2.2 b0 3 (by rw [tb0]; decide)).trans s275
    have s302 := (xq292.2.2.2.2.2 b1 1 (by rw [tb1]; decide)).trans s276
    have s303 := (xq292.2.2.2.2.2 b1 2 (by rw [tb1]; decide)).trans s277
    have s304 := (xq292.2.2.2.2.2 b1 3 (by rw [tb1]; decide)).trans s278
    have s305 := (xq292.2.2.2.2.2 b2 1 (by rw [tb2]; decide)).trans s279
    have s306 := (xq292.2.2.2.2.2 b2 2 (by rw [tb2]; decide)).trans s280
    have s307 := (xq292.2.2.2.2.2 b2 3 (by rw [tb2]; decide)).trans s281
    have s308 := (xq292.2.2.2.2.2 x 5 (by rw [tx]; decide)).trans s282
    have s309 := (xq292.2.2.2.2.2 x 6 (by rw [tx]; decide)).trans s283
    have s310 := (xq292.2.2.2.2.2 x 7 (by rw [tx]; decide)).trans s284
    have s311 := (xq292.2.2.2.2.2 x 10 (by rw [tx]; decide)).trans s285
    have s312 := (xq292.2.2.2.2.2 x 11 (by rw [tx]; decide)).trans s286
    have s313 := (xq292.2.2.2.2.2 x 12 (by rw [tx]; decide)).trans s287
    have s314 := (xq292.2.2.2.2.2 x 13 (by rw [tx]; decide)).trans s288
    refine gy_s 4 (pc' := 132) (L' := [some (.ref x), some (.int (zi nw)), some (.int (zi nh)), some (.int (zi n)), some (.int ((zi 0) + zi 1))]) (S' := [.ref x, .int ((zi 0) + zi 1)]) (L2 := [some (.ref x), some (.int (zi nw)), some (.int (zi nh)), some (.int (zi n)), some (.int (zi 1))]) (S2 := [.ref x, .int (zi 1)]) rfl (by simp only [zi_add, zi_sub, zi_mul, zi_neg, zi_and1, zi_and7, zi_and15, zi_and31, zi_and255, Int.reduceAdd, Int.reduceMul, Int.reduceSub]) (by simp only [zi_add, zi_sub, zi_mul, zi_neg, zi_and1, zi_and7, zi_and15, zi_and31, zi_and255, Int.reduceAdd, Int.reduceMul, Int.reduceSub]) ?_
    refine gs_gtk rfl (by decide) rfl sq292.1 tx rfl rfl s310 ?_
    refine gy_icT (pc' := 155) rfl (by decide) (by decide) (by omega) (by omega) (by first | (simp [zc]; done) | (simp only [zc]; omega)) ?_
    refine gz_s 1 (pc' := 156) (L' := [some (.ref x), some (.int (zi nw)), some (.int (zi nh)), some (.int (zi n)), some (.int (zi 1))]) (S' := [.ref x]) rfl ?_
    have k315 := sq292.2.1
    have k315b := sq292.2.2.1
    have hl316 : hq292.2.2.2.1 co = h.2.2.2.1 co := congrFun sq292.2.2.2.2.1 co
    have hl317 : hq292.2.2.2.1 dm = h.2.2.2.1 dm := congrFun sq292.2.2.2.2.1 dm
    have hl318 : hq292.2.2.2.1 co = h.2.2.2.1 co := congrFun sq292.2.2.2.2.1 co
    have hl319 : hq292.2.2.2.1 dm = h.2.2.2.1 dm := congrFun sq292.2.2.2.2.1 dm
    refine gz_call rfl (by decide) rfl (by decide) (by decide) (gcal_of rfl rfl rfl (Nat.le_of_ble_eq_true rfl) (gJ.recv (G := gGG) sq292.1 tx rfl rfl)) (cl_Picture_clearBlocks _ sq292.1 x tx co s297 tco dm s298 tdm fq292_5 efq292_5 (by omega) (by omega) uq) (fun q320 _ wq320 => ?_)
    obtain ⟨pq320, oq320, hq320⟩ := q320
    obtain ⟨tyq320, xq320, cq320_0, cq320_1, ttq320, ecq320_0, tcq320_0, ecq320_1, tcq320_1, gq320, uq320_0, uq320_1, uq320_2, uq320_3, uq320_4⟩ := wq320
    dsimp only at uq320_0 uq320_1 uq320_2 uq320_3 uq320_4
    refine ⟨_, gq320, ?_⟩
    show gz gPP gGG gcn _ _ 159 [some (.ref x), some (.int (zi nw)), some (.int (zi nh)), some (.int (zi n)), some (.int (zi 1))] [] hq320 _
    have G321 : gSg [112, 113] [] [54002, 54003, 54005, 54006, 54007, 54008, 54010, 54011, 54012, 54013, 82004, 82005, 82006, 82007, 82008, 83004, 83005, 83006, 83007, 83008, 84004, 84005, 84006, 84007, 84008, 112999, 113999] ty h tyq320 hq320 := gSg.tr (gSg.ss G0 sq292 (by decide)) xq320 (by decide) (by decide) (fun x hx => by cases hx)
    have t322 : tyq320 x = 54 := gSg.typ xq320 sq292.1 tx rfl
    have t323 : tyq320 bn = 57 := gSg.typ xq320 sq292.1 tbn rfl
    have t324 : tyq320 b0 = 82 := gSg.typ xq320 sq292.1 tb0 rfl
    have t325 : tyq320 b1 = 83 := gSg.typ xq320 sq292.1 tb1 rfl
    have t326 : tyq320 b2 = 84 := gSg.typ xq320 sq292.1 tb2 rfl
    have t327 : tyq320 co = 112 := gSg.typ xq320 sq292.1 tco rfl
    have hl328 : hq320.2.2.2.1 co = hq292.2.2.2.1 co := gSg.len xq320 sq292.1 tco rfl
    have t329 : tyq320 dm = 113 := gSg.typ xq320 sq292.1 tdm rfl
    have hl330 : hq320.2.2.2.1 dm = hq292.2.2.2.1 dm := gSg.len xq320 sq292.1 tdm rfl
    have s331 := gSg.at xq320 sq292.1 tx rfl (by decide) s293
    have s332 := gSg.at xq320 sq292.1 tbn rfl (by decide) s294
    have s333 := gSg.at xq320 sq292.1 tbn rfl (by decide) s295
    have s334 := gSg.at xq320 sq292.1 tbn rfl (by decide) s296
    have s335 := gSg.at xq320 sq292.1 tb0 rfl (by decide) s299
    have s336 := gSg.at xq320 sq292.1 tb0 rfl (by decide) s300
    have s337 := gSg.at xq320 sq292.1 tb0 rfl (by decide) s301
    have s338 := gSg.at xq320 sq292.1 tb1 rfl (by decide) s302
    have s339 := gSg.at xq320 sq292.1 tb1 rfl (by decide) s303
    have s340 := gSg.at xq320 sq292.1 tb1 rfl (by decide) s304
    have s341 := gSg.at xq320 sq292.1 tb2 rfl (by decide) s305
    have s342 := gSg.at xq320 sq292.1 tb2 rfl (by decide) s306
    have s343 := gSg.at xq320 sq292.1 tb2 rfl (by decide) s307
    have s344 := gSg.at xq320 sq292.1 tx rfl (by decide) s308
    have s345 := gSg.at xq320 sq292.1 tx rfl (by decide) s309
    have s346 := gSg.at xq320 sq292.1 tx rfl (by decide) s310
    have s347 := gSg.at xq320 sq292.1 tx rfl (by decide) s311
    have s348 := gSg.at xq320 sq292.1 tx rfl (by decide) s312
    have s349 := gSg.at xq320 sq292.1 tx rfl (by decide) s313
    have s350 := gSg.at xq320 sq292.1 tx rfl (by decide) s314
    have s351 := gSg.at xq320 sq292.1 tb0 rfl (by decide) efq292_0
    have s352 := gSg.at xq320 sq292.1 tb0 rfl (by decide) efq292_1
    have s353 := gSg.at xq320 sq292.1 tb0 rfl (by decide) efq292_2
    have s354 := gSg.at xq320 sq292.1 tb0 rfl (by decide) efq292_3
    have s355 := gSg.at xq320 sq292.1 tb0 rfl (by decide) efq292_4
    have s356 := gSg.at xq320 sq292.1 tx rfl (by decide) efq292_5
    have uq357 := gSg.uq xq320 uq (by decide)
    have sS358 : gSs rT 1027 tyq320 [54002, 54003, 54005, 54006, 54007, 54008, 54010, 54011, 54012, 54013, 82004, 82005, 82006, 82007, 82008, 83004, 83005, 83006, 83007, 83008, 84004, 84005, 84006, 84007, 84008, 112999, 113999] hq320 hq320 := gSs.rf xq320.1
    obtain ⟨z359, ez359, az359, bz359⟩ := gJ.int (k := 4) (G := gGG) sS358.1 t325 rfl rfl rfl
    obtain ⟨z360, ez360, az360, bz360⟩ := gJ.int (k := 5) (G := gGG) sS358.1 t325 rfl rfl rfl
    obtain ⟨z361, ez361, az361, bz361⟩ := gJ.int (k := 6) (G := gGG) sS358.1 t325 rfl rfl rfl
    obtain ⟨z362, ez362, az362, bz362⟩ := gJ.int (k := 7) (G := gGG) sS358.1 t325 rfl rfl rfl
    obtain ⟨z363, ez363, az363, bz363⟩ := gJ.int (k := 8) (G := gGG) sS358.1 t325 rfl rfl rfl
    obtain ⟨z364, ez364, az364, bz364⟩ := gJ.int (k := 4) (G := gGG) sS358.1 t326 rfl rfl rfl
    obtain ⟨z365, ez365, az365, bz365⟩ := gJ.int (k := 5) (G := gGG) sS358.1 t326 rfl rfl rfl
    obtain ⟨z366, ez366, az366, bz366⟩ := gJ.int (k := 6) (G := gGG) sS358.1 t326 rfl rfl rfl
    obtain ⟨z367, ez367, az367, bz367⟩ := gJ.int (k := 7) (G := gGG) sS358.1 t326 rfl rfl rfl
    obtain ⟨z368, ez368, az368, bz368⟩ := gJ.int (k := 8) (G := gGG) sS358.1 t326 rfl rfl rfl
    have hpc369 : gPC tyq320 x b0 b1 b2 (hq320.2.2.2.1 cq320_1 : Int) hq320 := gPC.mk ⟨t322, t324, t325, t326⟩ ⟨t323, tcq320_0, tcq320_1⟩ ⟨s331, s332, s333, s334, ecq320_0, ecq320_1⟩ s346 s349 s350 s356 s344 s345 s347 s348 s335 s336 s337 s351 s352 s353 s354 s355 s338 s339 s340 ez359 ez360 ez361 ez362 ez363 s341 s342 s343 ez364 ez365 ez366 ez367 ez368 ⟨by omega, by omega⟩ ⟨by omega, by omega⟩ ⟨by omega, by omega⟩ ⟨by omega, by omega⟩ ⟨by omega, by omega⟩ ⟨by omega, by omega⟩ ⟨by omega, by omega⟩ ⟨by omega, by omega⟩ ⟨by omega, by omega⟩ ⟨by omega, by omega⟩ ⟨by omega, by omega⟩ ⟨by omega, by omega⟩ ⟨by omega, by omega⟩ ⟨by omega, by omega⟩ ⟨by omega, by omega⟩ ⟨by omega, by omega⟩ ⟨by omega, by omega⟩ ⟨by omega, by omega⟩ ⟨by omega, by omega⟩ ⟨by omega, by omega⟩ ⟨by omega, by omega⟩ ⟨by omega, by omega⟩ ⟨by omega, by omega⟩ ⟨by omega, by omega⟩ ⟨by omega, by omega⟩ ⟨by omega, by omega⟩ ⟨by omega, by omega⟩ ⟨by omega, by omega⟩ ⟨by omega, by omega⟩ ⟨by omega, by omega⟩ ⟨by omega, by omega⟩ ⟨by omega, by omega⟩ (fun w => by unfold gPq; (repeat' apply And.intro) <;> omega) (fun w => by unfold gPq; (repeat' apply And.intro) <;> omega) (fun w => by unfold gPq; (repeat' apply And.intro) <;> omega) (fun w => by (repeat' apply And.intro) <;> omega) (fun w => by (repeat' apply And.intro) <;> omega) (fun w => by (repeat' apply And.intro) <;> omega) (fun w => by (repeat' apply And.intro) <;> omega) (fun w => by (repeat' apply And.intro) <;> omega) (by omega) (by omega) (by omega) (by omega)
    have G370 : gSg [112, 113] [] [54002, 54003, 54005, 54006, 54007, 54008, 54010, 54011, 54012, 54013, 82004, 82005, 82006, 82007, 82008, 83004, 83005, 83006, 83007, 83008, 84004, 84005, 84006, 84007, 84008, 112999, 113999] ty h tyq320 hq320 := gSg.ss G321 sS358 (by decide)
    exact gz_end (I := .return_) (len := 1) rfl (Or.inl rfl) ⟨tyq320, G370, n, (hq320.2.2.2.1 cq320_1 : Int), rfl, s346, (by omega), (by omega), (by omega), (by omega), (by omega), (by dsimp only; omega), (by dsimp only; omega), (by omega), hpc369⟩
  · refine gy_icF rfl (by decide) (by decide) (by omega) (by omega) hc179 ?_
    refine gz_s 2 (pc' := 39) (L' := [some (.ref x), some (.int (zi nw)), some (.int (zi nh)), some (.int (zi n)), some (.int (zi 1))]) (S' := [.ref x, .ref x]) rfl ?_
    refine gs_gtk rfl (by decide) rfl sh159.1 tx rfl rfl s178 ?_
    refine gz_s 1 (pc' := 43) (L' := [some (.ref x), some (.int (zi nw)), some (.int (zi nh)), some (.int (zi n)), some (.int (zi 1))]) (S' := [.ref x, .int (zi zq94), .ref x]) rfl ?_
    refine gs_gtk rfl (by decide) rfl sh159.1 tx rfl rfl s160 ?_
    refine gz_s 1 (pc' := 48) (L' := [some (.ref x), some (.int (zi nw)), some (.int (zi nh)), some (.int (zi n)), some (.int (zi 1))]) (S' := [.int (zi 1), .ref bn, .int (zi zq94), .ref x]) rfl ?_
    have he373 : (1 : Int) = 1 := by omega
    refine gs_aak (j := 1) rfl (by decide) sh159.1 tbn rfl rfl rfl (by decide) he373 (by decide) s162 ?_
    refine gs_gtk rfl (by decide) rfl sh159.1 tb1 rfl rfl s169 ?_
    refine gz_call rfl (by decide) rfl (by decide) (by decide) (gcal_of rfl rfl rfl (Nat.le_of_ble_eq_true rfl) rfl) (cl_Math_max _ sh159.1 zq94 (by omega) hb1 (by omega) ) (fun q374 _ wq374 => ?_)
    obtain ⟨pq374, oq374, hq374⟩ := q374
    obtain ⟨xq374, zq374, gq374, aq374, bq374, uq374_0, uq374_1, uq374_2⟩ := wq374
    refine ⟨_, gq374, ?_⟩
    show gz gPP gGG gcn _ _ 55 [some (.ref x), some (.int (zi nw)), some (.int (zi nh)), some (.int (zi n)), some (.int (zi 1))] [.int (zi zq374), .ref x] hq374 _
    have sq374 : gSs rT 1027 ty [54002, 54003, 54005, 54006, 54007, 54008, 54010, 54011, 54012, 54013, 82004, 82005, 82006, 82007, 82008, 83004, 83005, 83006, 83007, 83008, 84004, 84005, 84006, 84007, 84008, 112999, 113999] h hq374 := gSs.tr sh159 xq374 (by decide)
    have s375 := (xq374.2.2.2.2.2 x 0 (by rw [tx]; decide)).trans s160
    have s376 := (xq374.2.2.2.2.2 bn 0 (by rw [tbn]; decide)).trans s161
    have s377 := (xq374.2.2.2.2.2 bn 1 (by rw [tbn]; decide)).trans s162
    have s378 := (xq374.2.2.2.2.2 bn 2 (by rw [tbn]; decide)).trans s163
    have s379 := (xq374.2.2.2.2.2 x 2 (by rw [tx]; decide)).trans s164
    have s380 := (xq374.2.2.2.2.2 x 3 (by rw [tx]; decide)).trans s165
    have s381 := (xq374.2.2.2.2.2 b0 1 (by rw [tb0]; decide)).trans s166
    have s382 := (xq374.2.2.2.2.2 b0 2 (by rw [tb0]; decide)).trans s167
    have s383 := (xq374.2.2.2.2.2 b0 3 (by rw [tb0]; decide)).trans s168
    have s384 := (xq374.2.2.2.2.2 b1 1 (by rw [tb1]; decide)).trans s169
    have s385 := (xq374.2.2.2.2.2 b1 2 (by rw [tb1]; decide)).trans s170
    have s386 := (xq374.2.2.2.2.2 b1 3 (by rw [tb1]; decide)).trans s171
    have s387 := (xq374.2.2.2.2.2 b2 1 (by rw [tb2]; decide)).trans s172
    have s388 := (xq374.2.2.2.2.2 b2 2 (by rw [tb2]; decide)).trans s173
    have s389 := (xq374.2.2.2.2.2 b2 3 (by rw [tb2]; decide)).trans s174
    have s390 := (xq374.2.2.2.2.2 x 5 (by rw [tx]; decide)).trans s175
    have s391 := (xq374.2.2.2.2.2 x 6 (by rw [tx]; decide)).trans s176
    have s392 := (xq374.2.2.2.2.2 x 7 (by rw [tx]; decide)).trans s177
    have s393 := (xq374.2.2.2.2.2 x 10 (by rw [tx]; decide)).trans s178
    have s394 := (xq374.2.2.2.2.2 x 11 (by rw [tx]; decide)).trans eh159
    refine gs_put rfl (by decide) rfl sq374 tx rfl rfl rfl rfl (Or.inl rfl) (by decide) (by omega) (by omega) (fun h395 sh395 eh395 fh395 => ?_)
    have s396 := (fh395 x 0 (fun q => absurd q.2 (by decide))).trans s375
    have s397 := (fh395 bn 0 (fun q => absurd (((tbn).symm.trans (congrArg ty q.1)).trans tx) (by decide))).trans s376
    have s398 := (fh395 bn 1 (fun q => absurd (((tbn).symm.trans (congrArg ty q.1)).trans tx) (by decide))).trans s377
    have s399 := (fh395 bn 2 (fun q => absurd (((tbn).symm.trans (congrArg ty q.1)).trans tx) (by decide))).trans s378
    have s400 := (fh395 x 2 (fun q => absurd q.2 (by decide))).trans s379
    have s401 := (fh395 x 3 (fun q => absurd q.2 (by decide))).trans s380
    have s402 := (fh395 b0 1 (fun q => absurd q.2 (by decide))).trans s381
    have s403 := (fh395 b0 2 (fun q => absurd q.2 (by decide))).trans s382
    have s404 := (fh395 b0 3 (fun q => absurd q.2 (by decide))).trans s383
    have s405 := (fh395 b1 1 (fun q => absurd q.2 (by decide))).trans s384
    have s406 := (fh395 b1 2 (fun q => absurd q.2 (by decide))).trans s385
    have s407 := (fh395 b1 3 (fun q => absurd q.2 (by decide))).trans s386
    have s408 := (fh395 b2 1 (fun q => absurd q.2 (by decide))).trans s387
    have s409 := (fh395 b2 2 (fun q => absurd q.2 (by decide))).trans s388
    have s410 := (fh395 b2 3 (fun q => absurd q.2 (by decide))).trans s389
    have s411 := (fh395 x 5 (fun q => absurd q.2 (by decide))).trans s390
    have s412 := (fh395 x 6 (fun q => absurd q.2 (by decide))).trans s391
    have s413 := (fh395 x 7 (fun q => absurd q.2 (by decide))).trans s392
    have s414 := (fh395 x 11 (fun q => absurd q.2 (by decide))).trans s394
    refine gz_s 2 (pc' := 60) (L' := [some (.ref x), some (.int (zi nw)), some (.int (zi nh)), some (.int (zi n)), some (.int (zi 1))]) (S' := [.ref x, .ref x]) rfl ?_
    refine gs_gtk rfl (by decide) rfl sh395.1 tx rfl rfl s414 ?_
    refine gz_s 1 (pc' := 64) (L' := [some (.ref x), some (.int (zi nw)), some (.int (zi nh)), some (.int (zi n)), some (.int (zi 1))]) (S' := [.ref x, .int (zi zq138), .ref x]) rfl ?_
    refine gs_gtk rfl (by decide) rfl sh395.1 tx rfl rfl s396 ?_
    refine gz_s 1 (pc' := 69) (L' := [some (.ref x), some (.int (zi nw)), some (.int (zi nh)), some (.int (zi n)), some (.int (zi 1))]) (S' := [.int (zi 1), .ref bn, .int (zi zq138), .ref x]) rfl ?_
    have he417 : (1 : Int) = 1 := by omega
    refine gs_aak (j := 1) rfl (by decide) sh395.1 tbn rfl rfl rfl (by decide) he417 (by decide) s398 ?_
    refine gs_gtk rfl (by decide) rfl sh395.1 tb1 rfl rfl s406 ?_
    refine gz_call rfl (by decide) rfl (by decide) (by decide) (gcal_of rfl rfl rfl (Nat.le_of_ble_eq_true rfl) rfl) (cl_Math_max _ sh395.1 zq138 (by omega) vb1 (by omega) ) (fun q418 _ wq418 => ?_)
    obtain ⟨pq418, oq418, hq418⟩ := q418
    obtain ⟨xq418, zq418, gq418, aq418, bq418, uq418_0, uq418_1, uq418_2⟩ := wq418
    refine ⟨_, gq418, ?_⟩
    show gz gPP gGG gcn _ _ 76 [some (.ref x), some (.int (zi nw)), some (.int (zi nh)), some (.int (zi n)), some (.int (zi 1))] [.int (zi zq418), .ref x] hq418 _
    have sq418 : gSs rT 1027 ty [54002, 54003, 54005, 54006, 54007, 54008, 54010, 54011, 54012, 54013, 82004, 82005, 82006, 82007, 82008, 83004, 83005, 83006, 83007, 83008, 84004, 84005, 84006, 84007, 84008, 112999, 113999] h hq418 := gSs.tr sh395 xq418 (by decide)
    have s419 := (xq418.2.2.2.2.2 x 0 (by rw [tx]; decide)).trans s396
    have s420 := (xq418.2.2.2.2.2 bn 0 (by rw [tbn]; decide)).trans s397
    have s421 := (xq418.2.2.2.2.2 bn 1 (by rw [tbn]; decide)).trans s398
    have s422 := (xq418.2.2.2.2.2 bn 2 (by rw [tbn]; decide)).trans s399
    have s423 := (xq418.2.2.2.2.2 x 2 (by rw [tx]; decide)).trans s400
    have s424 := (xq418.2.2.2.2.2 x 3 (by rw [tx]; decide)).trans s401
    have s425 := (xq418.2.2.2.2.2 b0 1 (by rw [tb0]; decide)).trans s402
    have s426 := (xq418.2.2.2.2.2 b0 2 (by rw [tb0]; decide)).trans s403
    have s427 := (xq418.2.2.2.2.2 b0 3 (by rw [tb0]; decide)).trans s404
    have s428 := (xq418.2.2.2.2.2 b1 1 (by rw [tb1]; decide)).trans s405
    have s429 := (xq418.2.2.2.2.2 b1 2 (by rw [tb1]; decide)).trans s406
    have s430 := (xq418.2.2.2.2.2 b1 3 (by rw [tb1]; decide)).trans s407
    have s431 := (xq418.2.2.2.2.2 b2 1 (by rw [tb2]; decide)).trans s408
    have s432 := (xq418.2.2.2.2.2 b2 2 (by rw [tb2]; decide)).trans s409
    have s433 := (xq418.2.2.2.2.2 b2 3 (by rw [tb2]; decide)).trans s410
    have s434 := (xq418.2.2.2.2.2 x 5 (by rw [tx]; decide)).trans s411
    have s435 := (xq418.2.2.2.2.2 x 6 (by rw [tx]; decide)).trans s412
    have s436 := (xq418.2.2.2.2.2 x 7 (by rw [tx]; decide)).trans s413
    have s437 := (xq418.2.2.2.2.2 x 11 (by rw [tx]; decide)).trans s414
    have s438 := (xq418.2.2.2.2.2 x 10 (by rw [tx]; decide)).trans eh395
    refine gs_put rfl (by decide) rfl sq418 tx rfl rfl rfl rfl (Or.inl rfl) (by decide) (by omega) (by omega) (fun h439 sh439 eh439 fh439 => ?_)
    have s440 := (fh439 x 0 (fun q => absurd q.2 (by decide))).trans s419
    have s441 := (fh439 bn 0 (fun q => absurd (((tbn).symm.trans (congrArg ty q.1)).trans tx) (by decide))).trans s420
    have s442 := (fh439 bn 1 (fun q => absurd (((tbn).symm.trans (congrArg ty q.1)).trans tx) (by decide))).trans s421
    have s443 := (fh439 bn 2 (fun q => absurd (((tbn).symm.trans (congrArg ty q.1)).trans tx) (by decide))).trans s422
    have s444 := (fh439 x 2 (fun q => absurd q.2 (by decide))).trans s423
    have s445 := (fh439 x 3 (fun q => absurd q.2 (by decide))).trans s424
    have s446 := (fh439 b0 1 (fun q => absurd q.2 (by decide))).trans s425
    have s447 := (fh439 b0 2 (fun q => absurd q.2 (by decide))).trans s426
    have s448 := (fh439 b0 3 (fun q => absurd q.2 (by decide))).trans s427
    have s449 := (fh439 b1 1 (fun q => absurd q.2 (by decide))).trans s428
    have s450 := (fh439 b1 2 (fun q => absurd q.2 (by decide))).trans s429
    have s451 := (fh439 b1 3 (fun q => absurd q.2 (by decide))).trans s430
    have s452 := (fh439 b2 1 (fun q => absurd q.2 (by decide))).trans s431
    have s453 := (fh439 b2 2 (fun q => absurd q.2 (by decide))).trans s432
    have s454 := (fh439 b2 3 (fun q => absurd q.2 (by decide))).trans s433
    have s455 := (fh439 x 5 (fun q => absurd q.2 (by decide))).trans s434
    have s456 := (fh439 x 6 (fun q => absurd q.2 (by decide))).trans s435
    have s457 := (fh439 x 7 (fun q => absurd q.2 (by decide))).trans s436
    have s458 := (fh439 x 10 (fun q => absurd q.2 (by decide))).trans s438
    refine gy_s 4 (pc' := 31) (L' := [some (.ref x), some (.int (zi nw)), some (.int (zi nh)), some (.int (zi n)), some (.int ((zi 1) + zi 1))]) (S' := [.ref x, .int ((zi 1) + zi 1)]) (L2 := [some (.ref x), some (.int (zi nw)), some (.int (zi nh)), some (.int (zi n)), some (.int (zi 2))]) (S2 := [.ref x, .int (zi 2)]) rfl (by simp only [zi_add, zi_sub, zi_mul, zi_neg, zi_and1, zi_and7, zi_and15, zi_and31, zi_and255, Int.reduceAdd, Int.reduceMul, Int.reduceSub]) (by simp only [zi_add, zi_sub, zi_mul, zi_neg, zi_and1, zi_and7, zi_and15, zi_and31, zi_and255, Int.reduceAdd, Int.reduceMul, Int.reduceSub]) ?_
    refine gs_gtk rfl (by decide) rfl sh439.1 tx rfl rfl s457 ?_
    by_cases hc459 : (n : Int) ≤ 2
    · refine gy_icT (pc' := 85) rfl (by decide) (by decide) (by omega) (by omega) hc459 ?_
      have hz1 := zup8 (w := nw) (wd := zq374) (by omega) (by omega)
      refine gz_s 2 (pc' := 87) (L' := [some (.ref x), some (.int (zi nw)), some (.int (zi nh)), some (.int (zi n)), some (.int (zi 2))]) (S' := [.ref x, .ref x]) rfl ?_
      refine gs_gtk rfl (by decide) rfl sh439.1 tx rfl rfl s455 ?_
      refine gz_s 2 (pc' := 93) (L' := [some (.ref x), some (.int (zi nw)), some (.int (zi nh)), some (.int (zi n)), some (.int (zi 2))]) (S' := [.ref x, .int (zi 8), .int (zi nw), .ref x]) rfl ?_
      refine gs_gtk rfl (by decide) rfl sh439.1 tx rfl rfl s458 ?_
      refine gy_s 1 (pc' := 97) (L' := [some (.ref x), some (.int (zi nw)), some (.int (zi nh)), some (.int (zi n)), some (.int (zi 2))]) (S' := [.int ((zi 8) * (zi zq374)), .int (zi nw), .ref x]) (L2 := [some (.ref x), some (.int (zi nw)), some (.int (zi nh)), some (.int (zi n)), some (.int (zi 2))]) (S2 := [.int (zi (8 * zq374)), .int (zi nw), .ref x]) rfl (by simp only [zi_add, zi_sub, zi_mul, zi_neg, zi_and1, zi_and7, zi_and15, zi_and31, zi_and255, Int.reduceAdd, Int.reduceMul, Int.reduceSub]) (by simp only [zi_add, zi_sub, zi_mul, zi_neg, zi_and1, zi_and7, zi_and15, zi_and31, zi_and255, Int.reduceAdd, Int.reduceMul, Int.reduceSub]) ?_
      refine gz_call rfl (by decide) rfl (by decide) (by decide) (gcal_of rfl rfl rfl (Nat.le_of_ble_eq_true rfl) rfl) (cl_DctFilter_upward _ sh439.1 nw (by omega) (8 * zq374) (by omega) ) (fun q460 _ wq460 => ?_)
      obtain ⟨pq460, oq460, hq460⟩ := q460
      obtain ⟨xq460, zq460, gq460, aq460, bq460, uq460_0⟩ := wq460
      refine ⟨_, gq460, ?_⟩
      show gz gPP gGG gcn _ _ 100 [some (.ref x), some (.int (zi nw)), some (.int (zi nh)), some (.int (zi n)), some (.int (zi 2))] [.int (zi zq460), .ref x] hq460 _
      have sq460 : gSs rT 1027 ty [54002, 54003, 54005, 54006, 54007, 54008, 54010, 54011, 54012, 54013, 82004, 82005, 82006, 82007, 82008, 83004, 83005, 83006, 83007, 83008, 84004, 84005, 84006, 84007, 84008, 112999, 113999] h hq460 := gSs.tr sh439 xq460 (by decide)
      have s461 := (xq460.2.2.2.2.2 x 0 (by rw [tx]; decide)).trans s440
      have s462 := (xq460.2.2.2.2.2 bn 0 (by rw [tbn]; decide)).trans s441
      have s463 := (xq460.2.2.2.2.2 bn 1 (by rw [tbn]; decide)).trans s442
      have s464 := (xq460.2.2.2.2.2 bn 2 (by rw [tbn]; decide)).trans s443
      have s465 := (xq460.2.2.2.2.2 x 2 (by rw [tx]; decide)).trans s444
      have s466 := (xq460.2.2.2.2.2 x 3 (by rw [tx]; decide)).trans s445
      have s467 := (xq460.2.2.2.2.2 b0 1 (by rw [tb0]; decide)).trans s446
      have s468 := (xq460.2.2.2.2.2 b0 2 (by rw [tb0]; decide)).trans s447
      have s469 := (xq460.2.2.2.2.2 b0 3 (by rw [tb0]; decide)).trans s448
      have s470 := (xq460.2.2.2.2.2 b1 1 (by rw [tb1]; decide)).trans s449
      have s471 := (xq460.2.2.2.2.2 b1 2 (by rw [tb1]; decide)).trans s450
      have s472 := (xq460.2.2.2.2.2 b1 3 (by rw [tb1]; decide)).trans s451
      have s473 := (xq460.2.2.2.2.2 b2 1 (by rw [tb2]; decide)).trans s452
      have s474 := (xq460.2.2.2.2.2 b2 2 (by rw [tb2]; decide)).trans s453
      have s475 := (xq460.2.2.2.2.2 b2 3 (by rw [tb2]; decide)).trans s454
      have s476 := (xq460.2.2.2.2.2 x 5 (by rw [tx]; decide)).trans s455
      have s477 := (xq460.2.2.2.2.2 x 6 (by rw [tx]; decide)).trans s456
      have s478 := (xq460.2.2.2.2.2 x 7 (by rw [tx]; decide)).trans s457
      have s479 := (xq460.2.2.2.2.2 x 10 (by rw [tx]; decide)).trans s458
      have s480 := (xq460.2.2.2.2.2 x 11 (by rw [tx]; decide)).trans eh439
      refine gs_put rfl (by decide) rfl sq460 tx rfl rfl rfl rfl (Or.inl rfl) (by decide) (by omega) (by omega) (fun h481 sh481 eh481 fh481 => ?_)
      have s482 := (fh481 x 0 (fun q => absurd q.2 (by decide))).trans s461
      have s483 := (fh481 bn 0 (fun q => absurd (((tbn).symm.trans (congrArg ty q.1)).trans tx) (by decide))).trans s462
      have s484 := (fh481 bn 1 (fun q => absurd (((tbn).symm.trans (congrArg ty q.1)).trans tx) (by decide))).trans s463
      have s485 := (fh481 bn 2 (fun q => absurd (((tbn).symm.trans (congrArg ty q.1)).trans tx) (by decide))).trans s464
      have s486 := (fh481 x 2 (fun q => absurd q.2 (by decide))).trans s465
      have s487 := (fh481 x 3 (fun q => absurd q.2 (by decide))).trans s466
      have s488 := (fh481 b0 1 (fun q => absurd q.2 (by decide))).trans s467
      have s489 := (fh481 b0 2 (fun q => absurd q.2 (by decide))).trans s468
      have s490 := (fh481 b0 3 (fun q => absurd q.2 (by decide))).trans s469
      have s491 := (fh481 b1 1 (fun q => absurd q.2 (by decide))).trans s470
      have s492 := (fh481 b1 2 (fun q => absurd q.2 (by decide))).trans s471
      have s493 := (fh481 b1 3 (fun q => absurd q.2 (by decide))).trans s472
      have s494 := (fh481 b2 1 (fun q => absurd q.2 (by decide))).trans s473
      have s495 := (fh481 b2 2 (fun q => absurd q.2 (by decide))).trans s474
      have s496 := (fh481 b2 3 (fun q => absurd q.2 (by decide))).trans s475
      have s497 := (fh481 x 5 (fun q => absurd q.2 (by decide))).trans s476
      have s498 := (fh481 x 6 (fun q => absurd q.2 (by decide))).trans s477
      have s499 := (fh481 x 7 (fun q => absurd q.2 (by decide))).trans s478
      have s500 := (fh481 x 10 (fun q => absurd q.2 (by decide))).trans s479
      have s501 := (fh481 x 11 (fun q => absurd q.2 (by decide))).trans s480
      have hz2 := zup8 (w := nh) (wd := zq418) (by omega) (by omega)
      refine gz_s 2 (pc' := 105) (L' := [some (.ref x), some (.int (zi nw)), some (.int (zi nh)), some (.int (zi n)), some (.int (zi 2))]) (S' := [.ref x, .ref x]) rfl ?_
      refine gs_gtk rfl (by decide) rfl sh481.1 tx rfl rfl s498 ?_
      refine gz_s 2 (pc' := 111) (L' := [some (.ref x), some (.int (zi nw)), some (.int (zi nh)), some (.int (zi n)), some (.int (zi 2))]) (S' := [.ref x, .int (zi 8), .int (zi nh), .ref x]) rfl ?_
      refine gs_gtk rfl (by decide) rfl sh481.1 tx rfl rfl s501 ?_
      refine gy_s 1 (pc' := 115) (L' := [some (.ref x), some (.int (zi nw)), some (.int (zi nh)), some (.int (zi n)), some (.int (zi 2))]) (S' := [.int ((zi 8) * (zi zq418)), .int (zi nh), .ref x]) (L2 := [some (.ref x), some (.int (zi nw)), some (.int (zi nh)), some (.int (zi n)), some (.int (zi 2))]) (S2 := [.int (zi (8 * zq418)), .int (zi nh), .ref x]) rfl (by simp only [zi_add, zi_sub, zi_mul, zi_neg, zi_and1, zi_and7, zi_and15, zi_and31, zi_and255, Int.reduceAdd, Int.reduceMul, Int.reduceSub]) (by simp only [zi_add, zi_sub, zi_mul, zi_neg, zi_and1, zi_and7, zi_and15, zi_and31, zi_and255, Int.reduceAdd, Int.reduceMul, Int.reduceSub]) ?_
      refine gz_call rfl (by decide) rfl (by decide) (by decide) (gcal_of rfl rfl rfl (Nat.le_of_ble_eq_true rfl) rfl) (cl_DctFilter_upward _ sh481.1 nh (by omega) (8 * zq418) (by omega) ) (fun q502 _ wq502 => ?_)
      obtain ⟨pq502, oq502, hq502⟩ := q502
      obtain ⟨xq502, zq502, gq502, aq502, bq502, uq502_0⟩ := wq502
      refine ⟨_, gq502, ?_⟩
      show gz gPP gGG gcn _ _ 118 [some (.ref x), some (.int (zi nw)), some (.int (zi nh)), some (.int (zi n)), some (.int (zi 2))] [.int (zi zq502), .ref x] hq502 _
      have sq502 : gSs rT 1027 ty [54002, 54003, 54005, 54006, 54007, 54008, 54010, 54011, 54012, 54013, 82004, 82005, 82006, 82007, 82008, 83004, 83005, 83006, 83007, 83008, 84004, 84005, 84006, 84007, 84008, 112999, 113999] h hq502 := gSs.tr sh481 xq502 (by decide)
      have s503 := (xq502.2.2.2.2.2 x 0 (by rw [tx]; decide)).trans s482
      have s504 := (xq502.2.2.2.2.2 bn 0 (by rw [tbn]; decide)).trans s483
      have s505 := (xq502.2.2.2.2.2 bn 1 (by rw [tbn]; decide)).trans s484
      have s506 := (xq502.2.2.2.2.2 bn 2 (by rw [tbn]; decide)).trans s485
      have s507 := (xq502.2.2.2.2.2 x 2 (by rw [tx]; decide)).trans s486
      have s508 := (xq502.2.2.2.2.2 x 3 (by rw [tx]; decide)).trans s487
      have s509 := (xq502.2.2.2.2.2 b0 1 (by rw [tb0]; decide)).trans s488
      have s510 := (xq502.2.2.2.2.2 b0 2 (by rw [tb0]; decide)).trans s489
      have s511 := (xq502.2.2.2.2.2 b0 3 (by rw [tb0]; decide)).trans s490
      have s512 := (xq502.2.2.2.2.2 b1 1 (by rw [tb1]; decide)).trans s491
      have s513 := (xq502.2.2.2.2.2 b1 2 (by rw [tb1]; decide)).trans s492
      have s514 := (xq502.2.2.2.2.2 b1 3 (by rw [tb1]; decide)).trans s493
      have s515 := (xq502.2.2.2.2.2 b2 1 (by rw [tb2]; decide)).trans s494
      have s516 := (xq502.2.2.2.2.2 b2 2 (by rw [tb2]; decide)).trans s495
      have s517 := (xq502.2.2.2.2.2 b2 3 (by rw [tb2]; decide)).trans s496
      have s518 := (xq502.2.2.2.2.2 x 5 (by rw [tx]; decide)).trans s497
      have s519 := (xq502.2.2.2.2.2 x 6 (by rw [tx]; decide)).trans s498
      have s520 := (xq502.2.2.2.2.2 x 7 (by rw [tx]; decide)).trans s499
      have s521 := (xq502.2.2.2.2.2 x 10 (by rw [tx]; decide)).trans s500
      have s522 := (xq502.2.2.2.2.2 x 11 (by rw [tx]; decide)).trans s501
      have s523 := (xq502.2.2.2.2.2 x 12 (by rw [tx]; decide)).trans eh481
      refine gs_put rfl (by decide) rfl sq502 tx rfl rfl rfl rfl (Or.inl rfl) (by decide) (by omega) (by omega) (fun h524 sh524 eh524 fh524 => ?_)
      have s525 := (fh524 x 0 (fun q => absurd q.2 (by decide))).trans s503
      have s526 := (fh524 bn 0 (fun q => absurd (((tbn).symm.trans (congrArg ty q.1)).trans tx) (by decide))).trans s504
      have s527 := (fh524 bn 1 (fun q => absurd (((tbn).symm.trans (congrArg ty q.1)).trans tx) (by decide))).trans s505
      have s528 := (fh524 bn 2 (fun q => absurd (((tbn).symm.trans (congrArg ty q.1)).trans tx) (by decide))).trans s506
      have s529 := (fh524 x 2 (fun q => absurd q.2 (by decide))).trans s507
      have s530 := (fh524 x 3 (fun q => absurd q.2 (by decide))).trans s508
      have s531 := (fh524 b0 1 (fun q => absurd q.2 (by decide))).trans s509
      have s532 := (fh524 b0 2 (fun q => absurd q.2 (by decide))).trans s510
      have s533 := (fh524 b0 3 (fun q => absurd q.2 (by decide))).trans s511
      have s534 := (fh524 b1 1 (fun q => absurd q.2 (by decide))).trans s512
      have s535 := (fh524 b1 2 (fun q => absurd q.2 (by decide))).trans s513
      have s536 := (fh524 b1 3 (fun q => absurd q.2 (by decide))).trans s514
      have s537 := (fh524 b2 1 (fun q => absurd q.2 (by decide))).trans s515
      have s538 := (fh524 b2 2 (fun q => absurd q.2 (by decide))).trans s516
      have s539 := (fh524 b2 3 (fun q => absurd q.2 (by decide))).trans s517
      have s540 := (fh524 x 5 (fun q => absurd q.2 (by decide))).trans s518
      have s541 := (fh524 x 6 (fun q => absurd q.2 (by decide))).trans s519
      have s542 := (fh524 x 7 (fun q => absurd q.2 (by decide))).trans s520
      have s543 := (fh524 x 10 (fun q => absurd q.2 (by decide))).trans s521
      have s544 := (fh524 x 11 (fun q => absurd q.2 (by decide))).trans s522
      have s545 := (fh524 x 12 (fun q => absurd q.2 (by decide))).trans s523
      refine gz_s 2 (pc' := 123) (L' := [some (.ref x), some (.int (zi nw)), some (.int (zi nh)), some (.int (zi n)), some (.int (zi 2))]) (S' := [.int (zi 0), .ref x]) rfl ?_
      refine gs_put rfl (by decide) rfl sh524 tx rfl rfl rfl rfl (Or.inl rfl) (by decide) (by omega) (by omega) (fun h546 sh546 eh546 fh546 => ?_)
      have s547 := (fh546 x 0 (fun q => absurd q.2 (by decide))).trans s525
      have s548 := (fh546 bn 0 (fun q => absurd (((tbn).symm.trans (congrArg ty q.1)).trans tx) (by decide))).trans s526
      have s549 := (fh546 bn 1 (fun q => absurd (((tbn).symm.trans (congrArg ty q.1)).trans tx) (by decide))).trans s527
      have s550 := (fh546 bn 2 (fun q => absurd (((tbn).symm.trans (congrArg ty q.1)).trans tx) (by decide))).trans s528
      have s551 := (fh546 x 2 (fun q => absurd q.2 (by decide))).trans s529
      have s552 := (fh546 x 3 (fun q => absurd q.2 (by decide))).trans s530
      have s553 := (fh546 b0 1 (fun q => absurd q.2 (by decide))).trans s531
      have s554 := (fh546 b0 2 (fun q => absurd q.2 (by decide))).trans s532
      have s555 := (fh546 b0 3 (fun q => absurd q.2 (by decide))).trans s533
      have s556 := (fh546 b1 1 (fun q => absurd q.2 (by decide))).trans s534
      have s557 := (fh546 b1 2 (fun q => absurd q.2 (by decide))).trans s535
      have s558 := (fh546 b1 3 (fun q => absurd q.2 (by decide))).trans s536
      have s559 := (fh546 b2 1 (fun q => absurd q.2 (by decide))).trans s537
      have s560 := (fh546 b2 2 (fun q => absurd q.2 (by decide))).trans s538
      have s561 := (fh546 b2 3 (fun q => absurd q.2 (by decide))).trans s539
      have s562 := (fh546 x 5 (fun q => absurd q.2 (by decide))).trans s540
      have s563 := (fh546 x 6 (fun q => absurd q.2 (by decide))).trans s541
      have s564 := (fh546 x 7 (fun q => absurd q.2 (by decide))).trans s542
      have s565 := (fh546 x 10 (fun q => absurd q.2 (by decide))).trans s543
      have s566 := (fh546 x 11 (fun q => absurd q.2 (by decide))).trans s544
      have s567 := (fh546 x 12 (fun q => absurd q.2 (by decide))).trans s545
      have s568 := (fh546 x 13 (fun q => absurd q.2 (by decide))).trans eh524
      refine gz_s 4 (pc' := 132) (L' := [some (.ref x), some (.int (zi nw)), some (.int (zi nh)), some (.int (zi n)), some (.int (zi 0))]) (S' := [.ref x, .int (zi 0)]) rfl ?_
      refine gs_gtk rfl (by decide) rfl sh546.1 tx rfl rfl s564 ?_
      refine gy_icF rfl (by decide) (by decide) (by omega) (by omega) (by first | (simp [zc]; done) | (simp only [zc]; omega)) ?_
      refine gz_s 2 (pc' := 140) (L' := [some (.ref x), some (.int (zi nw)), some (.int (zi nh)), some (.int (zi n)), some (.int (zi 0))]) (S' := [.ref x, .ref x]) rfl ?_
      refine gs_gtk rfl (by decide) rfl sh546.1 tx rfl rfl s547 ?_
      refine gz_s 1 (pc' := 145) (L' := [some (.ref x), some (.int (zi nw)), some (.int (zi nh)), some (.int (zi n)), some (.int (zi 0))]) (S' := [.int (zi 0), .ref bn, .ref x]) rfl ?_
      have he571 : (0 : Int) = 0 := by omega
      refine gs_aak (j := 0) rfl (by decide) sh546.1 tbn rfl rfl rfl (by decide) he571 (by decide) s548 ?_
      refine gz_call rfl (by decide) rfl (by decide) (by decide) (gcal_of rfl rfl rfl (Nat.le_of_ble_eq_true rfl) (gJ.recv (G := gGG) sh546.1 tx rfl rfl)) (cl_placeBand0 _ sh546.1 x tx b0 tb0 zq460 s567 (by omega) zq502 s568 (by omega) 0 eh546 (by omega) nw s562 (by omega) nh s563 (by omega) zq374 s565 (by omega) zq418 s566 (by omega) hb0 s553 (by omega) vb0 s554 (by omega) (by omega) (by omega) (by omega) (by omega) uq) (fun q572 _ wq572 => ?_)
      obtain ⟨pq572, oq572, hq572⟩ := q572
      obtain ⟨xq572, fq572_0, fq572_1, fq572_2, fq572_3, fq572_4, fq572_5, gq572, efq572_0, afq572_0, bfq572_0, efq572_1, afq572_1, bfq572_1, efq572_2, afq572_2, bfq572_2, efq572_3, afq572_3, bfq572_3, efq572_4, afq572_4, bfq572_4, efq572_5, afq572_5, bfq572_5, uq572_0, uq572_1, uq572_2, uq572_3, uq572_4, uq572_5, uq572_6, uq572_7, uq572_8, uq572_9, uq572_10, uq572_11⟩ := wq572
      refine ⟨_, gq572, ?_⟩
      show gz gPP gGG gcn _ _ 149 [some (.ref x), some (.int (zi nw)), some (.int (zi nh)), some (.int (zi n)), some (.int (zi 0))] [] hq572 _
      have sq572 : gSs rT 1027 ty [54002, 54003, 54005, 54006, 54007, 54008, 54010, 54011, 54012, 54013, 82004, 82005, 82006, 82007, 82008, 83004, 83005, 83006, 83007, 83008, 84004, 84005, 84006, 84007, 84008, 112999, 113999] h hq572 := gSs.tr sh546 xq572 (by decide)
      have s573 := (xq572.2.2.2.2.2 x 0 (by rw [tx]; decide)).trans s547
      have s574 := (xq572.2.2.2.2.2 bn 0 (by rw [tbn]; decide)).trans s548
      have s575 := (xq572.2.2.2.2.2 bn 1 (by rw [tbn]; decide)).trans s549
      have s576 := (xq572.2.2.2.2.2 bn 2 (by rw [tbn]; decide)).trans s550
      have s577 := (xq572.2.2.2.2.2 x 2 (by rw [tx]; decide)).trans s551
      have s578 := (xq572.2.2.2.2.2 x 3 (by rw [tx]; decide)).trans s552
      have s579 := (xq572.2.2.2.2.2 b0 1 (by rw [tb0]; decide)).trans s553
      have s580 := (xq572.2.2.2.2.2 b0 2 (by rw [tb0]; decide)).trans s554
      have s581 := (xq572.2.2.2.2.2 b0 3 (by rw [tb0]; decide)).trans s555
      have s582 := (xq572.2.2.2.2.2 b1 1 (by rw [tb1]; decide)).trans s556
      have s583 := (xq572.2.2.2.2.2 b1 2 (by rw [tb1]; decide)).trans s557
      have s584 := (xq572.2.2.2.2.2 b1 3 (by rw [tb1]; decide)).trans s558
      have s585 := (xq572.2.2.2.2.2 b2 1 (by rw [tb2]; decide)).trans s559
      have s586 := (xq572.2.2.2.2.2 b2 2 (by rw [tb2]; decide)).trans s560
      have s587 := (xq572.2.2.2.2.2 b2 3 (by rw [tb2]; decide)).trans s561
      have s588 := (xq572.2.2.2.2.2 x 5 (by rw [tx]; decide)).trans s562
      have s589 := (xq572.2.2.2.2.2 x 6 (by rw [tx]; decide)).trans s563
      have s590 := (xq572.2.2.2.2.2 x 7 (by rw [tx]; decide)).trans s564
      have s591 := (xq572.2.2.2.2.2 x 10 (by rw [tx]; decide)).trans s565
      have s592 := (xq572.2.2.2.2.2 x 11 (by rw [tx]; decide)).trans s566
      have s593 := (xq572.2.2.2.2.2 x 12 (by rw [tx]; decide)).trans s567
      have s594 := (xq572.2.2.2.2.2 x 13 (by rw [tx]; decide)).trans s568
      refine gy_s 4 (pc' := 132) (L' := [some (.ref x), some (.int (zi nw)), some (.int (zi nh)), some (.int (zi n)), some (.int ((zi 0) + zi 1))]) (S' := [.ref x, .int ((zi 0) + zi 1)]) (L2 := [some (.ref x), some (.int (zi nw)), some (.int (zi nh)), some (.int (zi n)), some (.int (zi 1))]) (S2 := [.ref x, .int (zi 1)]) rfl (by simp only [zi_add, zi_sub, zi_mul, zi_neg, zi_and1, zi_and7, zi_and15, zi_and31, zi_and255, Int.reduceAdd, Int.reduceMul, Int.reduceSub]) (by simp only [zi_add, zi_sub, zi_mul, zi_neg, zi_and1, zi_and7, zi_and15, zi_and31, zi_and255, Int.reduceAdd, Int.reduceMul, Int.reduceSub]) ?_
      refine gs_gtk rfl (by decide) rfl sq572.1 tx rfl rfl s590 ?_
      refine gy_icF rfl (by decide) (by decide) (by omega) (by omega) (by first | (simp [zc]; done) | (simp only [zc]; omega)) ?_
      refine gz_s 2 (pc' := 140) (L' := [some (.ref x), some (.int (zi nw)), some (.int (zi nh)), some (.int (zi n)), some (.int (zi 1))]) (S' := [.ref x, .ref x]) rfl ?_
      refine gs_gtk rfl (by decide) rfl sq572.1 tx rfl rfl s573 ?_
      refine gz_s 1 (pc' := 145) (L' := [some (.ref x), some (.int (zi nw)), some (.int (zi nh)), some (.int (zi n)), some (.int (zi 1))]) (S' := [.int (zi 1), .ref bn, .ref x]) rfl ?_
      have he597 : (1 : Int) = 1 := by omega
      refine gs_aak (j := 1) rfl (by decide) sq572.1 tbn rfl rfl rfl (by decide) he597 (by decide) s575 ?_
      refine gz_call rfl (by decide) rfl (by decide) (by decide) (gcal_of rfl rfl rfl (Nat.le_of_ble_eq_true rfl) (gJ.recv (G := gGG) sq572.1 tx rfl rfl)) (cl_placeBand1 _ sq572.1 x tx b1 tb1 zq460 s593 (by omega) zq502 s594 (by omega) fq572_5 efq572_5 (by omega) nw s588 (by omega) nh s589 (by omega) zq374 s591 (by omega) zq418 s592 (by omega) hb1 s582 (by omega) vb1 s583 (by omega) (by omega) (by omega) (by omega) (by omega) uq) (fun q598 _ wq598 => ?_)
      obtain ⟨pq598, oq598, hq598⟩ := q598
      obtain ⟨xq598, fq598_0, fq598_1, fq598_2, fq598_3, fq598_4, fq598_5, gq598, efq598_0, afq598_0, bfq598_0, efq598_1, afq598_1, bfq598_1, efq598_2, afq598_2, bfq598_2, efq598_3, afq598_3, bfq598_3, efq598_4, afq598_4, bfq598_4, efq598_5, afq598_5, bfq598_5, uq598_0, uq598_1, uq598_2, uq598_3, uq598_4, uq598_5, uq598_6, uq598_7, uq598_8, uq598_9, uq598_10, uq598_11⟩ := wq598
      refine ⟨_, gq598, ?_⟩
      show gz gPP gGG gcn _ _ 149 [some (.ref x), some (.int (zi nw)), some (.int (zi nh)), some (.int (zi n)), some (.int (zi 1))] [] hq598 _
      have sq598 : gSs rT 1027 ty [54002, 54003, 54005, 54006, 54007, 54008, 54010, 54011, 54012, 54013, 82004, 82005, 82006, 82007, 82008, 83004, 83005, 83006, 83007, 83008, 84004, 84005, 84006, 84007, 84008, 112999, 113999] h hq598 := gSs.tr sq572 xq598 (by decide)
      have s599 := (xq598.2.2.2.2.2 x 0 (by rw [tx]; decide)).trans s573
      have s600 := (xq598.2.2.2.2.2 bn 0 (by rw [tbn]; decide)).trans s574
      have s601 := (xq598.2.2.2.2.2 bn 1 (by rw [tbn]; decide)).trans s575
      have s602 := (xq598.2.2.2.2.2 bn 2 (by rw [tbn]; decide)).trans s576
      have s603 := (xq598.2.2.2.2.2 x 2 (by rw [tx]; decide)).trans s577
      have s604 := (xq598.2.2.2.2.2 x 3 (by rw [tx]; decide)).trans s578
      have s605 := (xq598.2.2.2.2.2 b0 1 (by rw [tb0]; decide)).trans s579
      have s606 := (xq598.2.2.2.2.2 b0 2 (by rw [tb0]; decide)).trans s580
      have s607 := (xq598.2.2.2.2.2 b0 3 (by rw [tb0]; decide)).trans s581
      have s608 := (xq598.2.2.2.2.2 b1 1 (by rw [tb1]; decide)).trans s582
      have s609 := (xq598.2.2.2.2.2 b1 2 (by rw [tb1]; decide)).trans s583
      have s610 := (xq598.2.2.2.2.2 b1 3 (by rw [tb1]; decide)).trans s584
      have s611 := (xq598.2.2.2.2.2 b2 1 (by rw [tb2]; decide)).trans s585
      have s612 := (xq598.2.2.2.2.2 b2 2 (by rw [tb2]; decide)).trans s586
      have s613 := (xq598.2.2.2.2.2 b2 3 (by rw [tb2]; decide)).trans s587
      have s614 := (xq598.2.2.2.2.2 x 5 (by rw [tx]; decide)).trans s588
      have s615 := (xq598.2.2.2.2.2 x 6 (by rw [tx]; decide)).trans s589
      have s616 := (xq598.2.2.2.2.2 x 7 (by rw [tx]; decide)).trans s590
      have s617 := (xq598.2.2.2.2.2 x 10 (by rw [tx]; decide)).trans s591
      have s618 := (xq598.2.2.2.2.2 x 11 (by rw [tx]; decide)).trans s592
      have s619 := (xq598.2.2.2.2.2 x 12 (by rw [tx]; decide)).trans s593
      have s620 := (xq598.2.2.2.2.2 x 13 (by rw [tx]; decide)).trans s594
      have s621 := (xq598.2.2.2.2.2 b0 4 (by rw [tb0]; decide)).trans efq572_0
      have s622 := (xq598.2.2.2.2.2 b0 5 (by rw [tb0]; decide)).trans efq572_1
      have s623 := (xq598.2.2.2.2.2 b0 6 (by rw [tb0]; decide)).trans efq572_2
      have s624 := (xq598.2.2.2.2.2 b0 7 (by rw [tb0]; decide)).trans efq572_3
      have s625 := (xq598.2.2.2.2.2 b0 8 (by rw [tb0]; decide)).trans efq572_4
      refine gy_s 4 (pc' := 132) (L' := [some (.ref x), some (.int (zi nw)), some (.int (zi nh)), some (.int (zi n)), some (.int ((zi 1) + zi 1))]) (S' := [.ref x, .int ((zi 1) + zi 1)]) (L2 := [some (.ref x), some (.int (zi nw)), some (.int (zi nh)), some (.int (zi n)), some (.int (zi 2))]) (S2 := [.ref x, .int (zi 2)]) rfl (by simp only [zi_add, zi_sub, zi_mul, zi_neg, zi_and1, zi_and7, zi_and15, zi_and31, zi_and255, Int.reduceAdd, Int.reduceMul, Int.reduceSub]) (by simp only [zi_add, zi_sub, zi_mul, zi_neg, zi_and1, zi_and7, zi_and15, zi_and31, zi_and255, Int.reduceAdd, Int.reduceMul, Int.reduceSub]) ?_
      refine gs_gtk rfl (by decide) rfl sq598.1 tx rfl rfl s616 ?_
      refine gy_icT (pc' := 155) rfl (by decide) (by decide) (by omega) (by omega) (by first | (simp [zc]; done) | (simp only [zc]; omega)) ?_
      refine gz_s 1 (pc' := 156) (L' := [some (.ref x), some (.int (zi nw)), some (.int (zi nh)), some (.int (zi n)), some (.int (zi 2))]) (S' := [.ref x]) rfl ?_
      have k626 := sq598.2.1
      have k626b := sq598.2.2.1
      have hl627 : hq598.2.2.2.1 co = h.2.2.2.1 co := congrFun sq598.2.2.2.2.1 co
      have hl628 : hq598.2.2.2.1 dm = h.2.2.2.1 dm := congrFun sq598.2.2.2.2.1 dm
      have hl629 : hq598.2.2.2.1 co = h.2.2.2.1 co := congrFun sq598.2.2.2.2.1 co
      have hl630 : hq598.2.2.2.1 dm = h.2.2.2.1 dm := congrFun sq598.2.2.2.2.1 dm
      refine gz_call rfl (by decide) rfl (by decide) (by decide) (gcal_of rfl rfl rfl (Nat.le_of_ble_eq_true rfl) (gJ.recv (G := gGG) sq598.1 tx rfl rfl)) (cl_Picture_clearBlocks _ sq598.1 x tx co s603 tco dm s604 tdm fq598_5 efq598_5 (by omega) (by omega) uq) (fun q631 _ wq631 => ?_)
      obtain ⟨pq631, oq631, hq631⟩ := q631
      obtain ⟨tyq631, xq631, cq631_0, cq631_1, ttq631, ecq631_0, tcq631_0, ecq631_1, tcq631_1, gq631, uq631_0, uq631_1, uq631_2, uq631_3, uq631_4⟩ := wq631
      dsimp only at uq631_0 uq631_1 uq631_2 uq631_3 uq631_4
      refine ⟨_, gq631, ?_⟩
      show gz gPP gGG gcn _ _ 159 [some (.ref x), some (.int (zi nw)), some (.int (zi nh)), some (.int (zi n)), some (.int (zi 2))] [] hq631 _
      have G632 : gSg [112, 113] [] [54002, 54003, 54005, 54006, 54007, 54008, 54010, 54011, 54012, 54013, 82004, 82005, 82006, 82007, 82008, 83004, 83005, 83006, 83007, 83008, 84004, 84005, 84006, 84007, 84008, 112999, 113999] ty h tyq631 hq631 := gSg.tr (gSg.ss G0 sq598 (by decide)) xq631 (by decide) (by decide) (fun x hx => by cases hx)
      have t633 : tyq631 x = 54 := gSg.typ xq631 sq598.1 tx rfl
      have t634 : tyq631 bn = 57 := gSg.typ xq631 sq598.1 tbn rfl
      have t635 : tyq631 b0 = 82 := gSg.typ xq631 sq598.1 tb0 rfl
      have t636 : tyq631 b1 = 83 := gSg.typ xq631 sq598.1 tb1 rfl
      have t637 : tyq631 b2 = 84 := gSg.typ xq631 sq598.1 tb2 rfl
      have t638 : tyq631 co = 112 := gSg.typ xq631 sq598.1 tco rfl
      have hl639 : hq631.2.2.2.1 co = hq598.2.2.2.1 co := gSg.len xq631 sq598.1 tco rfl
      have t640 : tyq631 dm = 113 := gSg.typ xq631 sq598.1 tdm rfl
      have hl641 : hq631.2.2.2.1 dm = hq598.2.2.2.1 dm := gSg.len xq631 sq598.1 tdm rfl
      have s642 := gSg.at xq631 sq598.1 tx rfl (by decide) s599
      have s643 := gSg.at xq631 sq598.1 tbn rfl (by decide) s600
      have s644 := gSg.at xq631 sq598.1 tbn rfl (by decide) s601
      have s645 := gSg.at xq631 sq598.1 tbn rfl (by decide) s602
      have s646 := gSg.at xq631 sq598.1 tb0 rfl (by decide) s605
      have s647 := gSg.at xq631 sq598.1 tb0 rfl (by decide) s606
      have s648 := gSg.at xq631 sq598.1 tb0 rfl (by decide) s607
      have s649 := gSg.at xq631 sq598.1 tb1 rfl (by decide) s608
      have s650 := gSg.at xq631 sq598.1 tb1 rfl (by decide) s609
      have s651 := gSg.at xq631 sq598.1 tb1 rfl (by decide) s610
      have s652 := gSg.at xq631 sq598.1 tb2 rfl (by decide) s611
      have s653 := gSg.at xq631 sq598.1 tb2 rfl (by decide) s612
      have s654 := gSg.at xq631 sq598.1 tb2 rfl (by decide) s613
      have s655 := gSg.at xq631 sq598.1 tx rfl (by decide) s614
      have s656 := gSg.at xq631 sq598.1 tx rfl (by decide) s615
      have s657 := gSg.at xq631 sq598.1 tx rfl (by decide) s616
      have s658 := gSg.at xq631 sq598.1 tx rfl (by decide) s617
      have s659 := gSg.at xq631 sq598.1 tx rfl (by decide) s618
      have s660 := gSg.at xq631 sq598.1 tx rfl (by decide) s619
      have s661 := gSg.at xq631 sq598.1 tx rfl (by decide) s620
      have s662 := gSg.at xq631 sq598.1 tb0 rfl (by decide) s621
      have s663 := gSg.at xq631 sq598.1 tb0 rfl (by decide) s622
      have s664 := gSg.at xq631 sq598.1 tb0 rfl (by decide) s623
      have s665 := gSg.at xq631 sq598.1 tb0 rfl (by decide) s624
      have s666 := gSg.at xq631 sq598.1 tb0 rfl (by decide) s625
      have s667 := gSg.at xq631 sq598.1 tb1 rfl (by decide) efq598_0
      have s668 := gSg.at xq631 sq598.1 tb1 rfl (by decide) efq598_1
      have s669 := gSg.at xq631 sq598.1 tb1 rfl (by decide) efq598_2
      have s670 := gSg.at xq631 sq598.1 tb1 rfl (by decide) efq598_3
      have s671 := gSg.at xq631 sq598.1 tb1 rfl (by decide) efq598_4
      have s672 := gSg.at xq631 sq598.1 tx rfl (by decide) efq598_5
      have uq673 := gSg.uq xq631 uq (by decide)
      have sS674 : gSs rT 1027 tyq631 [54002, 54003, 54005, 54006, 54007, 54008, 54010, 54011, 54012, 54013, 82004, 82005, 82006, 82007, 82008, 83004, 83005, 83006, 83007, 83008, 84004, 84005, 84006, 84007, 84008, 112999, 113999] hq631 hq631 := gSs.rf xq631.1
      obtain ⟨z675, ez675, az675, bz675⟩ := gJ.int (k := 4) (G := gGG) sS674.1 t637 rfl rfl rfl
      obtain ⟨z676, ez676, az676, bz676⟩ := gJ.int (k := 5) (G := gGG) sS674.1 t637 rfl rfl rfl
      obtain ⟨z677, ez677, az677, bz677⟩ := gJ.int (k := 6) (G := gGG) sS674.1 t637 rfl rfl rfl
      obtain ⟨z678, ez678, az678, bz678⟩ := gJ.int (k := 7) (G := gGG) sS674.1 t637 rfl rfl rfl
      obtain ⟨z679, ez679, az679, bz679⟩ := gJ.int (k := 8) (G := gGG) sS674.1 t637 rfl rfl rfl
      have hpc680 : gPC tyq631 x b0 b1 b2 (hq631.2.2.2.1 cq631_1 : Int) hq631 := gPC.mk ⟨t633, t635, t636, t637⟩ ⟨t634, tcq631_0, tcq631_1⟩ ⟨s642, s643, s644, s645, ecq631_0, ecq631_1⟩ s657 s660 s661 s672 s655 s656 s658 s659 s646 s647 s648 s662 s663 s664 s665 s666 s649 s650 s651 s667 s668 s669 s670 s671 s652 s653 s654 ez675 ez676 ez677 ez678 ez679 ⟨by omega, by omega⟩ ⟨by omega, by omega⟩ ⟨by omega, by omega⟩ ⟨by omega, by omega⟩ ⟨by omega, by omega⟩ ⟨by omega, by omega⟩ ⟨by omega, by omega⟩ ⟨by omega, by omega⟩ ⟨by omega, by omega⟩ ⟨by omega, by omega⟩ ⟨by omega, by omega⟩ ⟨by omega, by omega⟩ ⟨by omega, by omega⟩ ⟨by omega, by omega⟩ ⟨by omega, by omega⟩ ⟨by omega, by omega⟩ ⟨by omega, by omega⟩ ⟨by omega, by omega⟩ ⟨by omega, by omega⟩ ⟨by omega, by omega⟩ ⟨by omega, by omega⟩ ⟨by omega, by omega⟩ ⟨by omega, by omega⟩ ⟨by omega, by omega⟩ ⟨by omega, by omega⟩ ⟨by omega, by omega⟩ ⟨by omega, by omega⟩ ⟨by omega, by omega⟩ ⟨by omega, by omega⟩ ⟨by omega, by omega⟩ ⟨by omega, by omega⟩ ⟨by omega, by omega⟩ (fun w => by unfold gPq; (repeat' apply And.intro) <;> omega) (fun w => by unfold gPq; (repeat' apply And.intro) <;> omega) (fun w => by unfold gPq; (repeat' apply And.intro) <;> omega) (fun w => by (repeat' apply And.intro) <;> omega) (fun w => by (repeat' apply And.intro) <;> omega) (fun w => by (repeat' apply And.intro) <;> omega) (fun w => by (repeat' apply And.intro) <;> omega) (fun w => by (repeat' apply And.intro) <;> omega) (by omega) (by omega) (by omega) (by omega)
      have G681 : gSg [112, 113] [] [54002, 54003, 54005, 54006, 54007, 54008, 54010, 54011, 54012, 54013, 82004, 82005, 82006, 82007, 82008, 83004, 83005, 83006, 83007, 83008, 84004, 84005, 84006, 84007, 84008, 112999, 113999] ty h tyq631 hq631 := gSg.ss G632 sS674 (by decide)
      exact gz_end (I := .return_) (len := 1) rfl (Or.inl rfl) ⟨tyq631, G681, n, (hq631.2.2.2.1 cq631_1 : Int), rfl, s657, (by omega), (by omega), (by omega), (by omega), (by omega), (by dsimp only; omega), (by dsimp only; omega), (by omega), hpc680⟩
    · refine gy_icF rfl (by decide) (by decide) (by omega) (by omega) hc459 ?_
      refine gz_s 2 (pc' := 39) (L' := [some (.ref x), some (.int (zi nw)), some (.int (zi nh)), some (.int (zi n)), some (.int (zi 2))]) (S' := [.ref x, .ref x]) rfl ?_
      refine gs_gtk rfl (by decide) rfl sh439.1 tx rfl rfl s458 ?_
      refine gz_s 1 (pc' := 43) (L' := [some (.ref x), some (.int (zi nw)), some (.int (zi nh)), some (.int (zi n)), some (.int (zi 2))]) (S' := [.ref x, .int (zi zq374), .ref x]) rfl ?_
      refine gs_gtk rfl (by decide) rfl sh439.1 tx rfl rfl s440 ?_
      refine gz_s 1 (pc' := 48) (L' := [some (.ref x), some (.int (zi nw)), some (.int (zi nh)), some (.int (zi n)), some (.int (zi 2))]) (S' := [.int (zi 2), .ref bn, .int (zi zq374), .ref x]) rfl ?_
      have he684 : (2 : Int) = 2 := by omega
      refine gs_aak (j := 2) rfl (by decide) sh439.1 tbn rfl rfl rfl (by decide) he684 (by decide) s443 ?_
      refine gs_gtk rfl (by decide) rfl sh439.1 tb2 rfl rfl s452 ?_
      refine gz_call rfl (by decide) rfl (by decide) (by decide) (gcal_of rfl rfl rfl (Nat.le_of_ble_eq_true rfl) rfl) (cl_Math_max _ sh439.1 zq374 (by omega) hb2 (by omega) ) (fun q685 _ wq685 => ?_)
      obtain ⟨pq685, oq685, hq685⟩ := q685
      obtain ⟨xq685, zq685, gq685, aq685, bq685, uq685_0, uq685_1, uq685_2⟩ := wq685
      refine ⟨_, gq685, ?_⟩
      show gz gPP gGG gcn _ _ 55 [some (.ref x), some (.int (zi nw)), some (.int (zi nh)), some (.int (zi n)), some (.int (zi 2))] [.int (zi zq685), .ref x] hq685 _
      have sq685 : gSs rT 1027 ty [54002, 54003, 54005, 54006, 54007, 54008, 54010, 54011, 54012, 54013, 82004, 82005, 82006, 82007, 82008, 83004, 83005, 83006, 83007, 83008, 84004, 84005, 84006, 84007, 84008, 112999, 113999] h hq685 := gSs.tr sh439 xq685 (by decide)
      have s686 := (xq685.2.2.2.2.2 x 0 (by rw [tx]; decide)).trans s440
      have s687 := (xq685.2.2.2.2.2 bn 0 (by rw [tbn]; decide)).trans s441
      have s688 := (xq685.2.2.2.2.2 bn 1 (by rw [tbn]; decide)).trans s442
      have s689 := (xq685.2.2.2.2.2 bn 2 (by rw [tbn]; decide)).trans s443
      have s690 := (xq685.2.2.2.2.2 x 2 (by rw [tx]; decide)).trans s444
      have s691 := (xq685.2.2.2.2.2 x 3 (by rw [tx]; decide)).trans s445
      have s692 := (xq685.2.2.2.2.2 b0 1 (by rw [tb0]; decide)).trans s446
      have s693 := (xq685.2.2.2.2.2 b0 2 (by rw [tb0]; decide)).trans s447
      have s694 := (xq685.2.2.2.2.2 b0 3 (by rw [tb0]; decide)).trans s448
      have s695 := (xq685.2.2.2.2.2 b1 1 (by rw [tb1]; decide)).trans s449
      have s696 := (xq685.2.2.2.2.2 b1 2 (by rw [tb1]; decide)).trans s450
      have s697 := (xq685.2.2.2.2.2 b1 3 (by rw [tb1]; decide)).trans s451
      have s698 := (xq685.2.2.2.2.2 b2 1 (by rw [tb2]; decide)).trans s452
      have s699 := (xq685.2.2.2.2.2 b2 2 (by rw [tb2]; decide)).trans s453
      have s700 := (xq685.2.2.2.2.2 b2 3 (by rw [tb2]; decide)).trans s454
      have s701 := (xq685.2.2.2.2.2 x 5 (by rw [tx]; decide)).trans s455
      have s702 := (xq685.2.2.2.2.2 x 6 (by rw [tx]; decide)).trans s456
      have s703 := (xq685.2.2.2.2.2 x 7 (by rw [tx]; decide)).trans s457
      have s704 := (xq685.2.2.2.2.2 x 10 (by rw [tx]; decide)).trans s458
      have s705 := (xq685.2.2.2.2.2 x 11 (by rw [tx]; decide)).trans eh439
      refine gs_put rfl (by decide) rfl sq685 tx rfl rfl rfl rfl (Or.inl rfl) (by decide) (by omega) (by omega) (fun h706 sh706 eh706 fh706 => ?_)
      have s707 := (fh706 x 0 (fun q => absurd q.2 (by decide))).trans s686
      have s708 := (fh706 bn 0 (fun q => absurd (((tbn).symm.trans (congrArg ty q.1)).trans tx) (by decide))).trans s687
      have s709 := (fh706 bn 1 (fun q => absurd (((tbn).symm.trans (congrArg ty q.1)).trans tx) (by decide))).trans s688
      have s710 := (fh706 bn 2 (fun q => absurd (((tbn).symm.trans (congrArg ty q.1)).trans tx) (by decide))).trans s689
      have s711 := (fh706 x 2 (fun q => absurd q.2 (by decide))).trans s690
      have s712 := (fh706 x 3 (fun q => absurd q.2 (by decide))).trans s691
      have s713 := (fh706 b0 1 (fun q => absurd q.2 (by decide))).trans s692
      have s714 := (fh706 b0 2 (fun q => absurd q.2 (by decide))).trans s693
      have s715 := (fh706 b0 3 (fun q => absurd q.2 (by decide))).trans s694
      have s716 := (fh706 b1 1 (fun q => absurd q.2 (by decide))).trans s695
      have s717 := (fh706 b1 2 (fun q => absurd q.2 (by decide))).trans s696
      have s718 := (fh706 b1 3 (fun q => absurd q.2 (by decide))).trans s697
      have s719 := (fh706 b2 1 (fun q => absurd q.2 (by decide))).trans s698
      have s720 := (fh706 b2 2 (fun q => absurd q.2 (by decide))).trans s699
      have s721 := (fh706 b2 3 (fun q => absurd q.2 (by decide))).trans s700
      have s722 := (fh706 x 5 (fun q => absurd q.2 (by decide))).trans s701
      have s723 := (fh706 x 6 (fun q => absurd q.2 (by decide))).trans s702
      have s724 := (fh706 x 7 (fun q => absurd q.2 (by decide))).trans s703
      have s725 := (fh706 x 11 (fun q => absurd q.2 (by decide))).trans s705
      refine gz_s 2 (pc' := 60) (L' := [some (.ref x), some (.int (zi nw)), some (.int (zi nh)), some (.int (zi n)), some (.int (zi 2))]) (S' := [.ref x, .ref x]) rfl ?_
      refine gs_gtk rfl (by decide) rfl sh706.1 tx rfl rfl s725 ?_
      refine gz_s 1 (pc' := 64) (L' := [some (.ref x), some (.int (zi nw)), some (.int (zi nh)), some (.int (zi n)), some (.int (zi 2))]) (S' := [.ref x, .int (zi zq418), .ref x]) rfl ?_
      refine gs_gtk rfl (by decide) rfl sh706.1 tx rfl rfl s707 ?_
      refine gz_s 1 (pc' := 69) (L' := [some (.ref x), some (.int (zi nw)), some (.int (zi nh)), some (.int (zi n)), some (.int (zi 2))]) (S' := [.int (zi 2), .ref bn, .int (zi zq418), .ref x]) rfl ?_
      have he728 : (2 : Int) = 2 := by omega
      refine gs_aak (j := 2) rfl (by decide) sh706.1 tbn rfl rfl rfl (by decide) he728 (by decide) s710 ?_
      refine gs_gtk rfl (by decide) rfl sh706.1 tb2 rfl rfl s720 ?_
      refine gz_call rfl (by decide) rfl (by decide) (by decide) (gcal_of rfl rfl rfl (Nat.le_of_ble_eq_true rfl) rfl) (cl_Math_max _ sh706.1 zq418 (by omega) vb2 (by omega) ) (fun q729 _ wq729 => ?_)
      obtain ⟨pq729, oq729, hq729⟩ := q729
      obtain ⟨xq729, zq729, gq729, aq729, bq729, uq729_0, uq729_1, uq729_2⟩ := wq729
      refine ⟨_, gq729, ?_⟩
      show gz gPP gGG gcn _ _ 76 [some (.ref x), some (.int (zi nw)), some (.int (zi nh)), some (.int (zi n)), some (.int (zi 2))] [.int (zi zq729), .ref x] hq729 _
      have sq729 : gSs rT 1027 ty [54002, 54003, 54005, 54006, 54007, 54008, 54010, 54011, 54012, 54013, 82004, 82005, 82006, 82007, 82008, 83004, 83005, 83006, 83007, 83008, 84004, 84005, 84006, 84007, 84008, 112999, 113999] h hq729 := gSs.tr sh706 xq729 (by decide)
      have s730 := (xq729.2.2.2.2.2 x 0 (by rw [tx]; decide)).trans s707
      have s731 := (xq729.2.2.2.2.2 bn 0 (by rw [tbn]; decide)).trans s708
      have s732 := (xq729.2.2.2.2.2 bn 1 (by rw [tbn]; decide)).trans s709
      have s733 := (xq729.2.2.2.2.2 bn 2 (by rw [tbn]; decide)).trans s710
      have s734 := (xq729.2.2.2.2.2 x 2 (by rw [tx]; decide)).trans s711
      have s735 := (xq729.2.2.2.2.2 x 3 (by rw [tx]; decide)).trans s712
      have s736 := (xq729.2.2.2.2.2 b0 1 (by rw [tb0]; decide)).trans s713
      have s737 := (xq729.2.2.2.2.2 b0 2 (by rw [tb0]; decide)).trans s714
      have s738 := (xq729.2.2.2.2.2 b0 3 (by rw [tb0]; decide)).trans s715
      have s739 := (xq729.2.2.2.2.2 b1 1 (by rw [tb1]; decide)).trans s716
      have s740 := (xq729.2.2.2.2.2 b1 2 (by rw [tb1]; decide)).trans s717
      have s741 := (xq729.2.2.2.2.2 b1 3 (by rw [tb1]; decide)).trans s718
      have s742 := (xq729.2.2.2.2.2 b2 1 (by rw [tb2]; decide)).trans s719
      have s743 := (xq729.2.2.2.2.2 b2 2 (by rw [tb2]; decide)).trans s720
      have s744 := (xq729.2.2.2.2.2 b2 3 (by rw [tb2]; decide)).trans s721
      have s745 := (xq729.2.2.2.2.2 x 5 (by rw [tx]; decide)).trans s722
      have s746 := (xq729.2.2.2.2.2 x 6 (by rw [tx]; decide)).trans s723
      have s747 := (xq729.2.2.2.2.2 x 7 (by rw [tx]; decide)).trans s724
      have s748 := (xq729.2.2.2.2.2 x 11 (by rw [tx]; decide)).trans s725
      have s749 := (xq729.2.2.2.2.2 x 10 (by rw [tx]; decide)).trans eh706
      refine gs_put rfl (by decide) rfl sq729 tx rfl rfl rfl rfl (Or.inl rfl) (by decide) (by omega) (by omega) (fun h750 sh750 eh750 fh750 => ?_)
      have s751 := (fh750 x 0 (fun q => absurd q.2 (by decide))).trans s730
      have s752 := (fh750 bn 0 (fun q => absurd (((tbn).symm.trans (congrArg ty q.1)).trans tx) (by decide))).trans s731
      have s753 := (fh750 bn 1 (fun q => absurd (((tbn).symm.trans (congrArg ty q.1)).trans tx) (by decide))).trans s732
      have s754 := (fh750 bn 2 (fun q => absurd (((tbn).symm.trans (congrArg ty q.1)).trans tx) (by decide))).trans s733
      have s755 := (fh750 x 2 (fun q => absurd q.2 (by decide))).trans s734
      have s756 := (fh750 x 3 (fun q => absurd q.2 (by decide))).trans s735
      have s757 := (fh750 b0 1 (fun q => absurd q.2 (by decide))).trans s736
      have s758 := (fh750 b0 2 (fun q => absurd q.2 (by decide))).trans s737
      have s759 := (fh750 b0 3 (fun q => absurd q.2 (by decide))).trans s738
      have s760 := (fh750 b1 1 (fun q => absurd q.2 (by decide))).trans s739
      have s761 := (fh750 b1 2 (fun q => absurd q.2 (by decide))).trans s740
      have s762 := (fh750 b1 3 (fun q => absurd q.2 (by decide))).trans s741
      have s763 := (fh750 b2 1 (fun q => absurd q.2 (by decide))).trans s742
      have s764 := (fh750 b2 2 (fun q => absurd q.2 (by decide))).trans s743
      have s765 := (fh750 b2 3 (fun q => absurd q.2 (by decide))).trans s744
      have s766 := (fh750 x 5 (fun q => absurd q.2 (by decide))).trans s745
      have s767 := (fh750 x 6 (fun q => absurd q.2 (by decide))).trans s746
      have s768 := (fh750 x 7 (fun q => absurd q.2 (by decide))).trans s747
      have s769 := (fh750 x 10 (fun q => absurd q.2 (by decide))).trans s749
      refine gy_s 4 (pc' := 31) (L' := [some (.ref x), some (.int (zi nw)), some (.int (zi nh)), some (.int (zi n)), some (.int ((zi 2) + zi 1))]) (S' := [.ref x, .int ((zi 2) + zi 1)]) (L2 := [some (.ref x), some (.int (zi nw)), some (.int (zi nh)), some (.int (zi n)), some (.int (zi 3))]) (S2 := [.ref x, .int (zi 3)]) rfl (by simp only [zi_add, zi_sub, zi_mul, zi_neg, zi_and1, zi_and7, zi_and15, zi_and31, zi_and255, Int.reduceAdd, Int.reduceMul, Int.reduceSub]) (by simp only [zi_add, zi_sub, zi_mul, zi_neg, zi_and1, zi_and7, zi_and15, zi_and31, zi_and255, Int.reduceAdd, Int.reduceMul, Int.reduceSub]) ?_
      refine gs_gtk rfl (by decide) rfl sh750.1 tx rfl rfl s768 ?_
      refine gy_icT (pc' := 85) rfl (by decide) (by decide) (by omega) (by omega) (by first | (simp [zc]; done) | (simp only [zc]; omega)) ?_
      have hz1 := zup8 (w := nw) (wd := zq685) (by omega) (by omega)
      refine gz_s 2 (pc' := 87) (L' := [some (.ref x), some (.int (zi nw)), some (.int (zi nh)), some (.int (zi n)), some (.int (zi 3))]) (S' := [.ref x, .ref x]) rfl ?_
      refine gs_gtk rfl (by decide) rfl sh750.1 tx rfl rfl s766 ?_
      refine gz_s 2 (pc' := 93) (L' := [some (.ref x), some (.int (zi nw)), some (.int (zi nh)), some (.int (zi n)), some (.int (zi 3))]) (S' := [.ref x, .int (zi 8), .int (zi nw), .ref x]) rfl ?_
      refine gs_gtk rfl (by decide) rfl sh750.1 tx rfl rfl s769 ?_
      refine gy_s 1 (pc' := 97) (L' := [some (.ref x), some (.int (zi nw)), some (.int (zi nh)), some (.int (zi n)), some (.int (zi 3))]) (S' := [.int ((zi 8) * (zi zq685)), .int (zi nw), .ref x]) (L2 := [some (.ref x), some (.int (zi nw)), some (.int (zi nh)), some (.int (zi n)), some (.int (zi 3))]) (S2 := [.int (zi (8 * zq685)), .int (zi nw), .ref x]) rfl (by simp only [zi_add, zi_sub, zi_mul, zi_neg, zi_and1, zi_and7, zi_and15, zi_and31, zi_and255, Int.reduceAdd, Int.reduceMul, Int.reduceSub]) (by simp only [zi_add, zi_sub, zi_mul, zi_neg, zi_and1, zi_and7, zi_and15, zi_and31, zi_and255, Int.reduceAdd, Int.reduceMul, Int.reduceSub]) ?_
      refine gz_call rfl (by decide) rfl (by decide) (by decide) (gcal_of rfl rfl rfl (Nat.le_of_ble_eq_true rfl) rfl) (cl_DctFilter_upward _ sh750.1 nw (by omega) (8 * zq685) (by omega) ) (fun q770 _ wq770 => ?_)
      obtain ⟨pq770, oq770, hq770⟩ := q770
      obtain ⟨xq770, zq770, gq770, aq770, bq770, uq770_0⟩ := wq770
      refine ⟨_, gq770, ?_⟩
      show gz gPP gGG gcn _ _ 100 [some (.ref x), some (.int (zi nw)), some (.int (zi nh)), some (.int (zi n)), some (.int (zi 3))] [.int (zi zq770), .ref x] hq770 _
      have sq770 : gSs rT 1027 ty [54002, 54003, 54005, 54006, 54007, 54008, 54010, 54011, 54012, 54013, 82004, 82005, 82006, 82007, 82008, 83004, 83005, 83006, 83007, 83008, 84004, 84005, 84006, 84007, 84008, 112999, 113999] h hq770 := gSs.tr sh750 xq770 (by decide)
      have s771 := (xq770.2.2.2.2.2 x 0 (by rw [tx]; decide)).trans s751
      have s772 := (xq770.2.2.2.2.2 bn 0 (by rw [tbn]; decide)).trans s752
      have s773 := (xq770.2.2.2.2.2 bn 1 (by rw [tbn]; decide)).trans s753
      have s774 := (xq770.2.2.2.2.2 bn 2 (by rw [tbn]; decide)).trans s754
      have s775 := (xq770.2.2.2.2.2 x 2 (by rw [tx]; decide)).trans s755
      have s776 := (xq770.2.2.2.2.2 x 3 (by rw [tx]; decide)).trans s756
      have s777 := (xq770.2.2.2.2.2 b0 1 (by rw [tb0]; decide)).trans s757
      have s778 := (xq770.2.2.2.2.2 b0 2 (by rw [tb0]; decide)).trans s758
      have s779 := (xq770.2.2.2.2.2 b0 3 (by rw [tb0]; decide)).trans s759
      have s780 := (xq770.2.2.2.2.2 b1 1 (by rw [tb1]; decide)).trans s760
      have s781 := (xq770.2.2.2.2.2 b1 2 (by rw [tb1]; decide)).trans s761
      have s782 := (xq770.2.2.2.2.2 b1 3 (by rw [tb1]; decide)).trans s762
      have s783 := (xq770.2.2.2.2.2 b2 1 (by rw [tb2]; decide)).trans s763
      have s784 := (xq770.2.2.2.2.2 b2 2 (by rw [tb2]; decide)).trans s764
      have s785 := (xq770.2.2.2.2.2 b2 3 (by rw [tb2]; decide)).trans s765
      have s786 := (xq770.2.2.2.2.2 x 5 (by rw [tx]; decide)).trans s766
      have s787 := (xq770.2.2.2.2.2 x 6 (by rw [tx]; decide)).trans s767
      have s788 := (xq770.2.2.2.2.2 x 7 (by rw [tx]; decide)).trans s768
      have s789 := (xq770.2.2.2.2.2 x 10 (by rw [tx]; decide)).trans s769
      have s790 := (xq770.2.2.2.2.2 x 11 (by rw [tx]; decide)).trans eh750
      refine gs_put rfl (by decide) rfl sq770 tx rfl rfl rfl rfl (Or.inl rfl) (by decide) (by omega) (by omega) (fun h791 sh791 eh791 fh791 => ?_)
      have s792 := (fh791 x 0 (fun q => absurd q.2 (by decide))).trans s771
      have s793 := (fh791 bn 0 (fun q => absurd (((tbn).symm.trans (congrArg ty q.1)).trans tx) (by decide))).trans s772
      have s794 := (fh791 bn 1 (fun q => absurd (((tbn).symm.trans (congrArg ty q.1)).trans tx) (by decide))).trans s773
      have s795 := (fh791 bn 2 (fun q => absurd (((tbn).symm.trans (congrArg ty q.1)).trans tx) (by decide))).trans s774
      have s796 := (fh791 x 2 (fun q => absurd q.2 (by decide))).trans s775
      have s797 := (fh791 x 3 (fun q => absurd q.2 (by decide))).trans s776
      have s798 := (fh791 b0 1 (fun q => absurd q.2 (by decide))).trans s777
      have s799 := (fh791 b0 2 (fun q => absurd q.2 (by decide))).trans s778
      have s800 := (fh791 b0 3 (fun q => absurd q.2 (by decide))).trans s779
      have s801 := (fh791 b1 1 (fun q => absurd q.2 (by decide))).trans s780
      have s802 := (fh791 b1 2 (fun q => absurd q.2 (by decide))).trans s781
      have s803 := (fh791 b1 3 (fun q => absurd q.2 (by decide))).trans s782
      have s804 := (fh791 b2 1 (fun q => absurd q.2 (by decide))).trans s783
      have s805 := (fh791 b2 2 (fun q => absurd q.2 (by decide))).trans s784
      have s806 := (fh791 b2 3 (fun q => absurd q.2 (by decide))).trans s785
      have s807 := (fh791 x 5 (fun q => absurd q.2 (by decide))).trans s786
      have s808 := (fh791 x 6 (fun q => absurd q.2 (by decide))).trans s787
      have s809 := (fh791 x 7 (fun q => absurd q.2 (by decide))).trans s788
      have s810 := (fh791 x 10 (fun q => absurd q.2 (by decide))).trans s789
      have s811 := (fh791 x 11 (fun q => absurd q.2 (by decide))).trans s790
      have hz2 := zup8 (w := nh) (wd := zq729) (by omega) (by omega)
      refine gz_s 2 (pc' := 105) (L' := [some (.ref x), some (.int (zi nw)), some (.int (zi nh)), some (.int (zi n)), some (.int (zi 3))]) (S' := [.ref x, .ref x]) rfl ?_
      refine gs_gtk rfl (by decide) rfl sh791.1 tx rfl rfl s808 ?_
      refine gz_s 2 (pc' := 111) (L' := [some (.ref x), some (.int (zi nw)), some (.int (zi nh)), some (.int (zi n)), some (.int (zi 3))]) (S' := [.ref x, .int (zi 8), .int (zi nh), .ref x]) rfl ?_
      refine gs_gtk rfl (by decide) rfl sh791.1 tx rfl rfl s811 ?_
      refine gy_s 1 (pc' := 115) (L' := [some (.ref x), some (.int (zi nw)), some (.int (zi nh)), some (.int (zi n)), some (.int (zi 3))]) (S' := [.int ((zi 8) * (zi zq729)), .int (zi nh), .ref x]) (L2 := [some (.ref x), some (.int (zi nw)), some (.int (zi nh)), some (.int (zi n)), some (.int (zi 3))]) (S2 := [.int (zi (8 * zq729)), .int (zi nh), .ref x]) rfl (by simp only [zi_add, zi_sub, zi_mul, zi_neg, zi_and1, zi_and7, zi_and15, zi_and31, zi_and255, Int.reduceAdd, Int.reduceMul, Int.reduceSub]) (by simp only [zi_add, zi_sub, zi_mul, zi_neg, zi_and1, zi_and7, zi_and15, zi_and31, zi_and255, Int.reduceAdd, Int.reduceMul, Int.reduceSub]) ?_
      refine gz_call rfl (by decide) rfl (by decide) (by decide) (gcal_of rfl rfl rfl (Nat.le_of_ble_eq_true rfl) rfl) (cl_DctFilter_upward _ sh791.1 nh (by omega) (8 * zq729) (by omega) ) (fun q812 _ wq812 => ?_)
      obtain ⟨pq812, oq812, hq812⟩ := q812
      obtain ⟨xq812, zq812, gq812, aq812, bq812, uq812_0⟩ := wq812
      refine ⟨_, gq812, ?_⟩
      show gz gPP gGG gcn _ _ 118 [some (.ref x), some (.int (zi nw)), some (.int (zi nh)), some (.int (zi n)), some (.int (zi 3))] [.int (zi zq812), .ref x] hq812 _
      have sq812 : gSs rT 1027 ty [54002, 54003, 54005, 54006, 54007, 54008, 54010, 54011, 54012, 54013, 82004, 82005, 82006, 82007, 82008, 83004, 83005, 83006, 83007, 83008, 84004, 84005, 84006, 84007, 84008, 112999, 113999] h hq812 := gSs.tr sh791 xq812 (by decide)
      have s813 := (xq812.2.2.2.2.2 x 0 (by rw [tx]; decide)).trans s792
      have s814 := (xq812.2.2.2.2.2 bn 0 (by rw [tbn]; decide)).trans s793
      have s815 := (xq812.2.2.2.2.2 bn 1 (by rw [tbn]; decide)).trans s794
      have s816 := (xq812.2.2.2.2.2 bn 2 (by rw [tbn]; decide)).trans s795
      have s817 := (xq812.2.2.2.2.2 x 2 (by rw [tx]; decide)).trans s796
      have s818 := (xq812.2.2.2.2.2 x 3 (by rw [tx]; decide)).trans s797
      have s819 := (xq812.2.2.2.2.2 b0 1 (by rw [tb0]; decide)).trans s798
      have s820 := (xq812.2.2.2.2.2 b0 2 (by rw [tb0]; decide)).trans s799
      have s821 := (xq812.2.2.2.2.2 b0 3 (by rw [tb0]; decide)).trans s800
      have s822 := (xq812.2.2.2.2.2 b1 1 (by rw [tb1]; decide)).trans s801
      have s823 := (xq812.2.2.2.2.2 b1 2 (by rw [tb1]; decide)).trans s802
      have s824 := (xq812.2.2.2.2.2 b1 3 (by rw [tb1]; decide)).trans s803
      have s825 := (xq812.2.2.2.2.2 b2 1 (by rw [tb2]; decide)).trans s804
      have s826 := (xq812.2.2.2.2.2 b2 2 (by rw [tb2]; decide)).trans s805
      have s827 := (xq812.2.2.2.2.2 b2 3 (by rw [tb2]; decide)).trans s806
      have s828 := (xq812.2.2.2.2.2 x 5 (by rw [tx]; decide)).trans s807
      have s829 := (xq812.2.2.2.2.2 x 6 (by rw [tx]; decide)).trans s808
      have s830 := (xq812.2.2.2.2.2 x 7 (by rw [tx]; decide)).trans s809
      have s831 := (xq812.2.2.2.2.2 x 10 (by rw [tx]; decide)).trans s810
      have s832 := (xq812.2.2.2.2.2 x 11 (by rw [tx]; decide)).trans s811
      have s833 := (xq812.2.2.2.2.2 x 12 (by rw [tx]; decide)).trans eh791
      refine gs_put rfl (by decide) rfl sq812 tx rfl rfl rfl rfl (Or.inl rfl) (by decide) (by omega) (by omega) (fun h834 sh834 eh834 fh834 => ?_)
      have s835 := (fh834 x 0 (fun q => absurd q.2 (by decide))).trans s813
      have s836 := (fh834 bn 0 (fun q => absurd (((tbn).symm.trans (congrArg ty q.1)).trans tx) (by decide))).trans s814
      have s837 := (fh834 bn 1 (fun q => absurd (((tbn).symm.trans (congrArg ty q.1)).trans tx) (by decide))).trans s815
      have s838 := (fh834 bn 2 (fun q => absurd (((tbn).symm.trans (congrArg ty q.1)).trans tx) (by decide))).trans s816
      have s839 := (fh834 x 2 (fun q => absurd q.2 (by decide))).trans s817
      have s840 := (fh834 x 3 (fun q => absurd q.2 (by decide))).trans s818
      have s841 := (fh834 b0 1 (fun q => absurd q.2 (by decide))).trans s819
      have s842 := (fh834 b0 2 (fun q => absurd q.2 (by decide))).trans s820
      have s843 := (fh834 b0 3 (fun q => absurd q.2 (by decide))).trans s821
      have s844 := (fh834 b1 1 (fun q => absurd q.2 (by decide))).trans s822
      have s845 := (fh834 b1 2 (fun q => absurd q.2 (by decide))).trans s823
      have s846 := (fh834 b1 3 (fun q => absurd q.2 (by decide))).trans s824
      have s847 := (fh834 b2 1 (fun q => absurd q.2 (by decide))).trans s825
      have s848 := (fh834 b2 2 (fun q => absurd q.2 (by decide))).trans s826
      have s849 := (fh834 b2 3 (fun q => absurd q.2 (by decide))).trans s827
      have s850 := (fh834 x 5 (fun q => absurd q.2 (by decide))).trans s828
      have s851 := (fh834 x 6 (fun q => absurd q.2 (by decide))).trans s829
      have s852 := (fh834 x 7 (fun q => absurd q.2 (by decide))).trans s830
      have s853 := (fh834 x 10 (fun q => absurd q.2 (by decide))).trans s831
      have s854 := (fh834 x 11 (fun q => absurd q.2 (by decide))).trans s832
      have s855 := (fh834 x 12 (fun q => absurd q.2 (by decide))).trans s833
      refine gz_s 2 (pc' := 123) (L' := [some (.ref x), some (.int (zi nw)), some (.int (zi nh)), some (.int (zi n)), some (.int (zi 3))]) (S' := [.int (zi 0), .ref x]) rfl ?_
      refine gs_put rfl (by decide) rfl sh834 tx rfl rfl rfl rfl (Or.inl rfl) (by decide) (by omega) (by omega) (fun h856 sh856 eh856 fh856 => ?_)
      have s857 := (fh856 x 0 (fun q => absurd q.2 (by decide))).trans s835
      have s858 := (fh856 bn 0 (fun q => absurd (((tbn).symm.trans (congrArg ty q.1)).trans tx) (by decide))).trans s836
      have s859 := (fh856 bn 1 (fun q => absurd (((tbn).symm.trans (congrArg ty q.1)).trans tx) (by decide))).trans s837
      have s860 := (fh856 bn 2 (fun q => absurd (((tbn).symm.trans (congrArg ty q.1)).trans tx) (by decide))).trans s838
      have s861 := (fh856 x 2 (fun q => absurd q.2 (by decide))).trans s839
      have s862 := (fh856 x 3 (fun q => absurd q.2 (by decide))).trans s840
      have s863 := (fh856 b0 1 (fun q => absurd q.2 (by decide))).trans s841
      have s864 := (fh856 b0 2 (fun q => absurd q.2 (by decide))).trans s842
      have s865 := (fh856 b0 3 (fun q => absurd q.2 (by decide))).trans s843
      have s866 := (fh856 b1 1 (fun q => absurd q.2 (by decide))).trans s844
      have s867 := (fh856 b1 2 (fun q => absurd q.2 (by decide))).trans s845
      have s868 := (fh856 b1 3 (fun q => absurd q.2 (by decide))).trans s846
      have s869 := (fh856 b2 1 (fun q => absurd q.2 (by decide))).trans s847
      have s870 := (fh856 b2 2 (fun q => absurd q.2 (by decide))).trans s848
      have s871 := (fh856 b2 3 (fun q => absurd q.2 (by decide))).trans s849
      have s872 := (fh856 x 5 (fun q => absurd q.2 (by decide))).trans s850
      have s873 := (fh856 x 6 (fun q => absurd q.2 (by decide))).trans s851
      have s874 := (fh856 x 7 (fun q => absurd q.2 (by decide))).trans s852
      have s875 := (fh856 x 10 (fun q => absurd q.2 (by decide))).trans s853
      have s876 := (fh856 x 11 (fun q => absurd q.2 (by decide))).trans s854
      have s877 := (fh856 x 12 (fun q => absurd q.2 (by decide))).trans s855
      have s878 := (fh856 x 13 (fun q => absurd q.2 (by decide))).trans eh834
      refine gz_s 4 (pc' := 132) (L' := [some (.ref x), some (.int (zi nw)), some (.int (zi nh)), some (.int (zi n)), some (.int (zi 0))]) (S' := [.ref x, .int (zi 0)]) rfl ?_
      refine gs_gtk rfl (by decide) rfl sh856.1 tx rfl rfl s874 ?_
      refine gy_icF rfl (by decide) (by decide) (by omega) (by omega) (by first | (simp [zc]; done) | (simp only [zc]; omega)) ?_
      refine gz_s 2 (pc' := 140) (L' := [some (.ref x), some (.int (zi nw)), some (.int (zi nh)), some (.int (zi n)), some (.int (zi 0))]) (S' := [.ref x, .ref x]) rfl ?_
      refine gs_gtk rfl (by decide) rfl sh856.1 tx rfl rfl s857 ?_
      refine gz_s 1 (pc' := 145) (L' := [some (.ref x), some (.int (zi nw)), some (.int (zi nh)), some (.int (zi n)), some (.int (zi 0))]) (S' := [.int (zi 0), .ref bn, .ref x]) rfl ?_
      have he881 : (0 : Int) = 0 := by omega
      refine gs_aak (j := 0) rfl (by decide) sh856.1 tbn rfl rfl rfl (by decide) he881 (by decide) s858 ?_
      refine gz_call rfl (by decide) rfl (by decide) (by decide) (gcal_of rfl rfl rfl (Nat.le_of_ble_eq_true rfl) (gJ.recv (G := gGG) sh856.1 tx rfl rfl)) (cl_placeBand0 _ sh856.1 x tx b0 tb0 zq770 s877 (by omega) zq812 s878 (by omega) 0 eh856 (by omega) nw s872 (by omega) nh s873 (by omega) zq685 s875 (by omega) zq729 s876 (by omega) hb0 s863 (by omega) vb0 s864 (by omega) (by omega) (by omega) (by omega) (by omega) uq) (fun q882 _ wq882 => ?_)
      obtain ⟨pq882, oq882, hq882⟩ := q882
      obtain ⟨xq882, fq882_0, fq882_1, fq882_2, fq882_3, fq882_4, fq882_5, gq882, efq882_0, afq882_0, bfq882_0, efq882_1, afq882_1, bfq882_1, efq882_2, afq882_2, bfq882_2, efq882_3, afq882_3, bfq882_3, efq882_4, afq882_4, bfq882_4, efq882_5, afq882_5, bfq882_5, uq882_0, uq882_1, uq882_2, uq882_3, uq882_4, uq882_5, uq882_6, uq882_7, uq882_8, uq882_9, uq882_10, uq882_11⟩ := wq882
      refine ⟨_, gq882, ?_⟩
      show gz gPP gGG gcn _ _ 149 [some (.ref x), some (.int (zi nw)), some (.int (zi nh)), some (.int (zi n)), some (.int (zi 0))] [] hq882 _
      have sq882 : gSs rT 1027 ty [54002, 54003, 54005, 54006, 54007, 54008, 54010, 54011, 54012, 54013, 82004, 82005, 82006, 82007, 82008, 83004, 83005, 83006, 83007, 83008, 84004, 84005, 84006, 84007, 84008, 112999, 113999] h hq882 := gSs.tr sh856 xq882 (by decide)
      have s883 := (xq882.2.2.2.2.2 x 0 (by rw [tx]; decide)).trans s857
      have s884 := (xq882.2.2.2.2.2 bn 0 (by rw [tbn]; decide)).trans s858
      have s885 := (xq882.2.2.2.2.2 bn 1 (by rw [tbn]; decide)).trans s859
      have s886 := (xq882.2.2.2.2.2 bn 2 (by rw [tbn]; decide)).trans s860
      have s887 := (xq882.2.2.2.2.2 x 2 (by rw [tx]; decide)).trans s861
      have s888 := (xq882.2.2.2.2.2 x 3 (by rw [tx]; decide)).trans s862
      have s889 := (xq882.2.2.2.2.2 b0 1 (by rw [tb0]; decide)).trans s863
      have s890 := (xq882.2.2.2.2.2 b0 2 (by rw [tb0]; decide)).trans s864
      have s891 := (xq882.2.2.2.2.2 b0 3 (by rw [tb0]; decide)).trans s865
      have s892 := (xq882.2.2.2.2.2 b1 1 (by rw [tb1]; decide)).trans s866
      have s893 := (xq882.2.2.2.2.2 b1 2 (by rw [tb1]; decide)).trans s867
      have s894 := (xq882.2.2.2.2.2 b1 3 (by rw [tb1]; decide)).trans s868
      have s895 := (xq882.2.2.2.2.2 b2 1 (by rw [tb2]; decide)).trans s869
      have s896 := (xq882.2.2.2.2.2 b2 2 (by rw [tb2]; decide)).trans s870
      have s897 := (xq882.2.2.2.2.2 b2 3 (by rw [tb2]; decide)).trans s871
      have s898 := (xq882.2.2.2.2.2 x 5 (by rw [tx]; decide)).trans s872
      have s899 := (xq882.2.2.2.2.2 x 6 (by rw [tx]; decide)).trans s873
      have s900 := (xq882.2.2.2.2.2 x 7 (by rw [tx]; decide)).trans s874
      have s901 := (xq882.2.2.2.2.2 x 10 (by rw [tx]; decide)).trans s875
      have s902 := (xq882.2.2.2.2.2 x 11 (by rw [tx]; decide)).trans s876
      have s903 := (xq882.2.2.2.2.2 x 12 (by rw [tx]; decide)).trans s877
      have s904 := (xq882.2.2.2.2.2 x 13 (by rw [tx]; decide)).trans s878
      refine gy_s 4 (pc' := 132) (L' := [some (.ref x), some (.int (zi nw)), some (.int (zi nh)), some (.int (zi n)), some (.int ((zi 0) + zi 1))]) (S' := [.ref x, .int ((zi 0) + zi 1)]) (L2 := [some (.ref x), some (.int (zi nw)), some (.int (zi nh)), some (.int (zi n)), some (.int (zi 1))]) (S2 := [.ref x, .int (zi 1)]) rfl (by simp only [zi_add, zi_sub, zi_mul, zi_neg, zi_and1, zi_and7, zi_and15, zi_and31, zi_and255, Int.reduceAdd, Int.reduceMul, Int.reduceSub]) (by simp only [zi_add, zi_sub, zi_mul, zi_neg, zi_and1, zi_and7, zi_and15, zi_and31, zi_and255, Int.reduceAdd, Int.reduceMul, Int.reduceSub]) ?_
      refine gs_gtk rfl (by decide) rfl sq882.1 tx rfl rfl s900 ?_
      refine gy_icF rfl (by decide) (by decide) (by omega) (by omega) (by first | (simp [zc]; done) | (simp only [zc]; omega)) ?_
      refine gz_s 2 (pc' := 140) (L' := [some (.ref x), some (.int (zi nw)), some (.int (zi nh)), some (.int (zi n)), some (.int (zi 1))]) (S' := [.ref x, .ref x]) rfl ?_
      refine gs_gtk rfl (by decide) rfl sq882.1 tx rfl rfl s883 ?_
      refine gz_s 1 (pc' := 145) (L' := [some (.ref x), some (.int (zi nw)), some (.int (zi nh)), some (.int (zi n)), some (.int (zi 1))]) (S' := [.int (zi 1), .ref bn, .ref x]) rfl ?_
      have he907 : (1 : Int) = 1 := by omega
      refine gs_aak (j := 1) rfl (by decide) sq882.1 tbn rfl rfl rfl (by decide) he907 (by decide) s885 ?_
      refine gz_call rfl (by decide) rfl (by decide) (by decide) (gcal_of rfl rfl rfl (Nat.le_of_ble_eq_true rfl) (gJ.recv (G := gGG) sq882.1 tx rfl rfl)) (cl_placeBand1 _ sq882.1 x tx b1 tb1 zq770 s903 (by omega) zq812 s904 (by omega) fq882_5 efq882_5 (by omega) nw s898 (by omega) nh s899 (by omega) zq685 s901 (by omega) zq729 s902 (by omega) hb1 s892 (by omega) vb1 s893 (by omega) (by omega) (by omega) (by omega) (by omega) uq) (fun q908 _ wq908 => ?_)
      obtain ⟨pq908, oq908, hq908⟩ := q908
      obtain ⟨xq908, fq908_0, fq908_1, fq908_2, fq908_3, fq908_4, fq908_5, gq908, efq908_0, afq908_0, bfq908_0, efq908_1, afq908_1, bfq908_1, efq908_2, afq908_2, bfq908_2, efq908_3, afq908_3, bfq908_3, efq908_4, afq908_4, bfq908_4, efq908_5, afq908_5, bfq908_5, uq908_0, uq908_1, uq908_2, uq908_3, uq908_4, uq908_5, uq908_6, uq908_7, uq908_8, uq908_9, uq908_10, uq908_11⟩ := wq908
      refine ⟨_, gq908, ?_⟩
      show gz gPP gGG gcn _ _ 149 [some (.ref x), some (.int (zi nw)), some (.int (zi nh)), some (.int (zi n)), some (.int (zi 1))] [] hq908 _
      have sq908 : gSs rT 1027 ty [54002, 54003, 54005, 54006, 54007, 54008, 54010, 54011, 54012, 54013, 82004, 82005, 82006, 82007, 82008, 83004, 83005, 83006, 83007, 83008, 84004, 84005, 84006, 84007, 84008, 112999, 113999] h hq908 := gSs.tr sq882 xq908 (by decide)
      have s909 := (xq908.2.2.2.2.2 x 0 (by rw [tx]; decide)).trans s883
      have s910 := (xq908.2.2.2.2.2 bn 0 (by rw [tbn]; decide)).trans s884
      have s911 := (xq908.2.2.2.2.2 bn 1 (by rw [tbn]; decide)).trans s885
      have s912 := (xq908.2.2.2.2.2 bn 2 (by rw [tbn]; decide)).trans s886
      have s913 := (xq908.2.2.2.2.2 x 2 (by rw [tx]; decide)).trans s887
      have s914 := (xq908.2.2.2.2.2 x 3 (by rw [tx]; decide)).trans s888
      have s915 := (xq908.2.2.2.2.2 b0 1 (by rw [tb0]; decide)).trans s889
      have s916 := (xq908.2.2.2.2.2 b0 2 (by rw [tb0]; decide)).trans s890
      have s917 := (xq908.2.2.2.2.2 b0 3 (by rw [tb0]; decide)).trans s891
      have s918 := (xq908.2.2.2.2.2 b1 1 (by rw [tb1]; decide)).trans s892
      have s919 := (xq908.2.2.2.2.2 b1 2 (by rw [tb1]; decide)).trans s893
      have s920 := (xq908.2.2.2.2.2 b1 3 (by rw [tb1]; decide)).trans s894
      have s921 := (xq908.2.2.2.2.2 b2 1 (by rw [tb2]; decide)).trans s895
      have s922 := (xq908.2.2.2.2.2 b2 2 (by rw [tb2]; decide)).trans s896
      have s923 := (xq908.2.2.2.2.2 b2 3 (by rw [tb2]; decide)).trans s897
      have s924 := (xq908.2.2.2.2.2 x 5 (by rw [tx]; decide)).trans s898
      have s925 := (xq908.2.2.2.2.2 x 6 (by rw [tx]; decide)).trans s899
      have s926 := (xq908.2.2.2.2.2 x 7 (by rw [tx]; decide)).trans s900
      have s927 := (xq908.2.2.2.2.2 x 10 (by rw [tx]; decide)).trans s901
      have s928 := (xq908.2.2.2.2.2 x 11 (by rw [tx]; decide)).trans s902
      have s929 := (xq908.2.2.2.2.2 x 12 (by rw [tx]; decide)).trans s903
      have s930 := (xq908.2.2.2.2.2 x 13 (by rw [tx]; decide)).trans s904
      have s931 := (xq908.2.2.2.2.2 b0 4 (by rw [tb0]; decide)).trans efq882_0
      have s932 := (xq908.2.2.2.2.2 b0 5 (by rw [tb0]; decide)).trans efq882_1
      have s933 := (xq908.2.2.2.2.2 b0 6 (by rw [tb0]; decide)).trans efq882_2
      have s934 := (xq908.2.2.2.2.2 b0 7 (by rw [tb0]; decide)).trans efq882_3
      have s935 := (xq908.2.2.2.2.2 b0 8 (by rw [tb0]; decide)).trans efq882_4
      refine gy_s 4 (pc' := 132) (L' := [some (.ref x), some (.int (zi nw)), some (.int (zi nh)), some (.int (zi n)), some (.int ((zi 1) + zi 1))]) (S' := [.ref x, .int ((zi 1) + zi 1)]) (L2 := [some (.ref x), some (.int (zi nw)), some (.int (zi nh)), some (.int (zi n)), some (.int (zi 2))]) (S2 := [.ref x, .int (zi 2)]) rfl (by simp only [zi_add, zi_sub, zi_mul, zi_neg, zi_and1, zi_and7, zi_and15, zi_and31, zi_and255, Int.reduceAdd, Int.reduceMul, Int.reduceSub]) (by simp only [zi_add, zi_sub, zi_mul, zi_neg, zi_and1, zi_and7, zi_and15, zi_and31, zi_and255, Int.reduceAdd, Int.reduceMul, Int.reduceSub]) ?_
      refine gs_gtk rfl (by decide) rfl sq908.1 tx rfl rfl s926 ?_
      refine gy_icF rfl (by decide) (by decide) (by omega) (by omega) (by first | (simp [zc]; done) | (simp only [zc]; omega)) ?_
      refine gz_s 2 (pc' := 140) (L' := [some (.ref x), some (.int (zi nw)), some (.int (zi nh)), some (.int (zi n)), some (.int (zi 2))]) (S' := [.ref x, .ref x]) rfl ?_
      refine gs_gtk rfl (by decide) rfl sq908.1 tx rfl rfl s909 ?_
      refine gz_s 1 (pc' := 145) (L' := [some (.ref x), some (.int (zi nw)), some (.int (zi nh)), some (.int (zi n)), some (.int (zi 2))]) (S' := [.int (zi 2), .ref bn, .ref x]) rfl ?_
      have he938 : (2 : Int) = 2 := by omega
      refine gs_aak (j := 2) rfl (by decide) sq908.1 tbn rfl rfl rfl (by decide) he938 (by decide) s912 ?_
      refine gz_call rfl (by decide) rfl (by decide) (by decide) (gcal_of rfl rfl rfl (Nat.le_of_ble_eq_true rfl) (gJ.recv (G := gGG) sq908.1 tx rfl rfl)) (cl_placeBand2 _ sq908.1 x tx b2 tb2 zq770 s929 (by omega) zq812 s930 (by omega) fq908_5 efq908_5 (by omega) nw s924 (by omega) nh s925 (by omega) zq685 s927 (by omega) zq729 s928 (by omega) hb2 s921 (by omega) vb2 s922 (by omega) (by omega) (by omega) (by omega) (by omega) uq) (fun q939 _ wq939 => ?_)
      obtain ⟨pq939, oq939, hq939⟩ := q939
      obtain ⟨xq939, fq939_0, fq939_1, fq939_2, fq939_3, fq939_4, fq939_5, gq939, efq939_0, afq939_0, bfq939_0, efq939_1, afq939_1, bfq939_1, efq939_2, afq939_2, bfq939_2, efq939_3, afq939_3, bfq939_3, efq939_4, afq939_4, bfq939_4, efq939_5, afq939_5, bfq939_5, uq939_0, uq939_1, uq939_2, uq939_3, uq939_4, uq939_5, uq939_6, uq939_7, uq939_8, uq939_9, uq939_10, uq939_11⟩ := wq939
      refine ⟨_, gq939, ?_⟩
      show gz gPP gGG gcn _ _ 149 [some (.ref x), some (.int (zi nw)), some (.int (zi nh)), some (.int (zi n)), some (.int (zi 2))] [] hq939 _
      have sq939 : gSs rT 1027 ty [54002, 54003, 54005, 54006, 54007, 54008, 54010, 54011, 54012, 54013, 82004, 82005, 82006, 82007, 82008, 83004, 83005, 83006, 83007, 83008, 84004, 84005, 84006, 84007, 84008, 112999, 113999] h hq939 := gSs.tr sq908 xq939 (by decide)
      have s940 := (xq939.2.2.2.2.2 x 0 (by rw [tx]; decide)).trans s909
      have s941 := (xq939.2.2.2.2.2 bn 0 (by rw [tbn]; decide)).trans s910
      have s942 := (xq939.2.2.2.2.2 bn 1 (by rw [tbn]; decide)).trans s911
      have s943 := (xq939.2.2.2.2.2 bn 2 (by rw [tbn]; decide)).trans s912
      have s944 := (xq939.2.2.2.2.2 x 2 (by rw [tx]; decide)).trans s913
      have s945 := (xq939.2.2.2.2.2 x 3 (by rw [tx]; decide)).trans s914
      have s946 := (xq939.2.2.2.2.2 b0 1 (by rw [tb0]; decide)).trans s915
      have s947 := (xq939.2.2.2.2.2 b0 2 (by rw [tb0]; decide)).trans s916
      have s948 := (xq939.2.2.2.2.2 b0 3 (by rw [tb0]; decide)).trans s917
      have s949 := (xq939.2.2.2.2.2 b1 1 (by rw [tb1]; decide)).trans s918
      have s950 := (xq939.2.2.2.2.2 b1 2 (by rw [tb1]; decide)).trans s919
      have s951 := (xq939.2.2.2.2.2 b1 3 (by rw [tb1]; decide)).trans s920
      have s952 := (xq939.2.2.2.2.2 b2 1 (by rw [tb2]; decide)).trans s921
      have s953 := (xq939.2.2.2.2.2 b2 2 (by rw [tb2]; decide)).trans s922
      have s954 := (xq939.2.2.2.2.2 b2 3 (by rw [tb2]; decide)).trans s923
      have s955 := (xq939.2.2.2.2.2 x 5 (by rw [tx]; decide)).trans s924
      have s956 := (xq939.2.2.2.2.2 x 6 (by rw [tx]; decide)).trans s925
      have s957 := (xq939.2.2.2.2.2 x 7 (by rw [tx]; decide)).trans s926
      have s958 := (xq939.2.2.2.2.2 x 10 (by rw [tx]; decide)).trans s927
      have s959 := (xq939.2.2.2.2.2 x 11 (by rw [tx]; decide)).trans s928
      have s960 := (xq939.2.2.2.2.2 x 12 (by rw [tx]; decide)).trans s929
      have s961 := (xq939.2.2.2.2.2 x 13 (by rw [tx]; decide)).trans s930
      have s962 := (xq939.2.2.2.2.2 b0 4 (by rw [tb0]; decide)).trans s931
      have s963 := (xq939.2.2.2.2.2 b0 5 (by rw [tb0]; decide)).trans s932
      have s964 := (xq939.2.2.2.2.2 b0 6 (by rw [tb0]; decide)).trans s933
      have s965 := (xq939.2.2.2.2.2 b0 7 (by rw [tb0]; decide)).trans s934
      have s966 := (xq939.2.2.2.2.2 b0 8 (by rw [tb0]; decide)).trans s935
      have s967 := (xq939.2.2.2.2.2 b1 4 (by rw [tb1]; decide)).trans efq908_0
      have s968 := (xq939.2.2.2.2.2 b1 5 (by rw [tb1]; decide)).trans efq908_1
      have s969 := (xq939.2.2.2.2.2 b1 6 (by rw [tb1]; decide)).trans efq908_2
      have s970 := (xq939.2.2.2.2.2 b1 7 (by rw [tb1]; decide)).trans efq908_3
      have s971 := (xq939.2.2.2.2.2 b1 8 (by rw [tb1]; decide)).trans efq908_4
      refine gy_s 4 (pc' := 132) (L' := [some (.ref x), some (.int (zi nw)), some (.int (zi nh)), some (.int (zi n)), some (.int ((zi 2) + zi 1))]) (S' := [.ref x, .int ((zi 2) + zi 1)]) (L2 := [some (.ref x), some (.int (zi nw)), some (.int (zi nh)), some (.int (zi n)), some (.int (zi 3))]) (S2 := [.ref x, .int (zi 3)]) rfl (by simp only [zi_add, zi_sub, zi_mul, zi_neg, zi_and1, zi_and7, zi_and15, zi_and31, zi_and255, Int.reduceAdd, Int.reduceMul, Int.reduceSub]) (by simp only [zi_add, zi_sub, zi_mul, zi_neg, zi_and1, zi_and7, zi_and15, zi_and31, zi_and255, Int.reduceAdd, Int.reduceMul, Int.reduceSub]) ?_
      refine gs_gtk rfl (by decide) rfl sq939.1 tx rfl rfl s957 ?_
      refine gy_icT (pc' := 155) rfl (by decide) (by decide) (by omega) (by omega) (by first | (simp [zc]; done) | (simp only [zc]; omega)) ?_
      refine gz_s 1 (pc' := 156) (L' := [some (.ref x), some (.int (zi nw)), some (.int (zi nh)), some (.int (zi n)), some (.int (zi 3))]) (S' := [.ref x]) rfl ?_
      have k972 := sq939.2.1
      have k972b := sq939.2.2.1
      have hl973 : hq939.2.2.2.1 co = h.2.2.2.1 co := congrFun sq939.2.2.2.2.1 co
      have hl974 : hq939.2.2.2.1 dm = h.2.2.2.1 dm := congrFun sq939.2.2.2.2.1 dm
      have hl975 : hq939.2.2.2.1 co = h.2.2.2.1 co := congrFun sq939.2.2.2.2.1 co
      have hl976 : hq939.2.2.2.1 dm = h.2.2.2.1 dm := congrFun sq939.2.2.2.2.1 dm
      refine gz_call rfl (by decide) rfl (by decide) (by decide) (gcal_of rfl rfl rfl (Nat.le_of_ble_eq_true rfl) (gJ.recv (G := gGG) sq939.1 tx rfl rfl)) (cl_Picture_clearBlocks _ sq939.1 x tx co s944 tco dm s945 tdm fq939_5 efq939_5 (by omega) (by omega) uq) (fun q977 _ wq977 => ?_)
      obtain ⟨pq977, oq977, hq977⟩ := q977
      obtain ⟨tyq977, xq977, cq977_0, cq977_1, ttq977, ecq977_0, tcq977_0, ecq977_1, tcq977_1, gq977, uq977_0, uq977_1, uq977_2, uq977_3, uq977_4⟩ := wq977
      dsimp only at uq977_0 uq977_1 uq977_2 uq977_3 uq977_4
      refine ⟨_, gq977, ?_⟩
      show gz gPP gGG gcn _ _ 159 [some (.ref x), some (.int (zi nw)), some (.int (zi nh)), some (.int (zi n)), some (.int (zi 3))] [] hq977 _
      have G978 : gSg [112, 113] [] [54002, 54003, 54005, 54006, 54007, 54008, 54010, 54011, 54012, 54013, 82004, 82005, 82006, 82007, 82008, 83004, 83005, 83006, 83007, 83008, 84004, 84005, 84006, 84007, 84008, 112999, 113999] ty h tyq977 hq977 := gSg.tr (gSg.ss G0 sq939 (by decide)) xq977 (by decide) (by decide) (fun x hx => by cases hx)
      have t979 : tyq977 x = 54 := gSg.typ xq977 sq939.1 tx rfl
      have t980 : tyq977 bn = 57 := gSg.typ xq977 sq939.1 tbn rfl
      have t981 : tyq977 b0 = 82 := gSg.typ xq977 sq939.1 tb0 rfl
      have t982 : tyq977 b1 = 83 := gSg.typ xq977 sq939.1 tb1 rfl
      have t983 : tyq977 b2 = 84 := gSg.typ xq977 sq939.1 tb2 rfl
      have t984 : tyq977 co = 112 := gSg.typ xq977 sq939.1 tco rfl
      have hl985 : hq977.2.2.2.1 co = hq939.2.2.2.1 co := gSg.len xq977 sq939.1 tco rfl
      have t986 : tyq977 dm = 113 := gSg.typ xq977 sq939.1 tdm rfl
      have hl987 : hq977.2.2.2.1 dm = hq939.2.2.2.1 dm := gSg.len xq977 sq939.1 tdm rfl
      have s988 := gSg.at xq977 sq939.1 tx rfl (by decide) s940
      have s989 := gSg.at xq977 sq939.1 tbn rfl (by decide) s941
      have s990 := gSg.at xq977 sq939.1 tbn rfl (by decide) s942
      have s991 := gSg.at xq977 sq939.1 tbn rfl (by decide) s943
      have s992 := gSg.at xq977 sq939.1 tb0 rfl (by decide) s946
      have s993 := gSg.at xq977 sq939.1 tb0 rfl (by decide) s947
      have s994 := gSg.at xq977 sq939.1 tb0 rfl (by decide) s948
      have s995 := gSg.at xq977 sq939.1 tb1 rfl (by decide) s949
      have s996 := gSg.at xq977 sq939.1 tb1 rfl (by decide) s950
      have s997 := gSg.at xq977 sq939.1 tb1 rfl (by decide) s951
      have s998 := gSg.at xq977 sq939.1 tb2 rfl (by decide) s952
      have s999 := gSg.at xq977 sq939.1 tb2 rfl (by decide) s953
      have s1000 := gSg.at xq977 sq939.1 tb2 rfl (by decide) s954
      have s1001 := gSg.at xq977 sq939.1 tx rfl (by decide) s955
      have s1002 := gSg.at xq977 sq939.1 tx rfl (by decide) s956
      have s1003 := gSg.at xq977 sq939.1 tx rfl (by decide) s957
      have s1004 := gSg.at xq977 sq939.1 tx rfl (by decide) s958
      have s1005 := gSg.at xq977 sq939.1 tx rfl (by decide) s959
      have s1006 := gSg.at xq977 sq939.1 tx rfl (by decide) s960
      have s1007 := gSg.at xq977 sq939.1 tx rfl (by decide) s961
      have s1008 := gSg.at xq977 sq939.1 tb0 rfl (by decide) s962
      have s1009 := gSg.at xq977 sq939.1 tb0 rfl (by decide) s963
      have s1010 := gSg.at xq977 sq939.1 tb0 rfl (by decide) s964
      have s1011 := gSg.at xq977 sq939.1 tb0 rfl (by decide) s965
      have s1012 := gSg.at xq977 sq939.1 tb0 rfl (by decide) s966
      have s1013 := gSg.at xq977 sq939.1 tb1 rfl (by decide) s967
      have s1014 := gSg.at xq977 sq939.1 tb1 rfl (by decide) s968
      have s1015 := gSg.at xq977 sq939.1 tb1 rfl (by decide) s969
      have s1016 := gSg.at xq977 sq939.1 tb1 rfl (by decide) s970
      have s1017 := gSg.at xq977 sq939.1 tb1 rfl (by decide) s971
      have s1018 := gSg.at xq977 sq939.1 tb2 rfl (by decide) efq939_0
      have s1019 := gSg.at xq977 sq939.1 tb2 rfl (by decide) efq939_1
      have s1020 := gSg.at xq977 sq939.1 tb2 rfl (by decide) efq939_2
      have s1021 := gSg.at xq977 sq939.1 tb2 rfl (by decide) efq939_3
      have s1022 := gSg.at xq977 sq939.1 tb2 rfl (by decide) efq939_4
      have s1023 := gSg.at xq977 sq939.1 tx rfl (by decide) efq939_5
      have uq1024 := gSg.uq xq977 uq (by decide)
      have sS1025 : gSs rT 1027 tyq977 [54002, 54003, 54005, 54006, 54007, 54008, 54010, 54011, 54012, 54013, 82004, 82005, 82006, 82007, 82008, 83004, 83005, 83006, 83007, 83008, 84004, 84005, 84006, 84007, 84008, 112999, 113999] hq977 hq977 := gSs.rf xq977.1
      have hpc1026 : gPC tyq977 x b0 b1 b2 (hq977.2.2.2.1 cq977_1 : Int) hq977 := gPC.mk ⟨t979, t981, t982, t983⟩ ⟨t980, tcq977_0, tcq977_1⟩ ⟨s988, s989, s990, s991, ecq977_0, ecq977_1⟩ s1003 s1006 s1007 s1023 s1001 s1002 s1004 s1005 s992 s993 s994 s1008 s1009 s1010 s1011 s1012 s995 s996 s997 s1013 s1014 s1015 s1016 s1017 s998 s999 s1000 s1018 s1019 s1020 s1021 s1022 ⟨by omega, by omega⟩ ⟨by omega, by omega⟩ ⟨by omega, by omega⟩ ⟨by omega, by omega⟩ ⟨by omega, by omega⟩ ⟨by omega, by omega⟩ ⟨by omega, by omega⟩ ⟨by omega, by omega⟩ ⟨by omega, by omega⟩ ⟨by omega, by omega⟩ ⟨by omega, by omega⟩ ⟨by omega, by omega⟩ ⟨by omega, by omega⟩ ⟨by omega, by omega⟩ ⟨by omega, by omega⟩ ⟨by omega, by omega⟩ ⟨by omega, by omega⟩ ⟨by omega, by omega⟩ ⟨by omega, by omega⟩ ⟨by omega, by omega⟩ ⟨by omega, by omega⟩ ⟨by omega, by omega⟩ ⟨by omega, by omega⟩ ⟨by omega, by omega⟩ ⟨by omega, by omega⟩ ⟨by omega, by omega⟩ ⟨by omega, by omega⟩ ⟨by omega, by omega⟩ ⟨by omega, by omega⟩ ⟨by omega, by omega⟩ ⟨by omega, by omega⟩ ⟨by omega, by omega⟩ (fun w => by unfold gPq; (repeat' apply And.intro) <;> omega) (fun w => by unfold gPq; (repeat' apply And.intro) <;> omega) (fun w => by unfold gPq; (repeat' apply And.intro) <;> omega) (fun w => by (repeat' apply And.intro) <;> omega) (fun w => by (repeat' apply And.intro) <;> omega) (fun w => by (repeat' apply And.intro) <;> omega) (fun w => by (repeat' apply And.intro) <;> omega) (fun w => by (repeat' apply And.intro) <;> omega) (by omega) (by omega) (by omega) (by omega)
      have G1027 : gSg [112, 113] [] [54002, 54003, 54005, 54006, 54007, 54008, 54010, 54011, 54012, 54013, 82004, 82005, 82006, 82007, 82008, 83004, 83005, 83006, 83007, 83008, 84004, 84005, 84006, 84007, 84008, 112999, 113999] ty h tyq977 hq977 := gSg.ss G978 sS1025 (by decide)
      exact gz_end (I := .return_) (len := 1) rfl (Or.inl rfl) ⟨tyq977, G1027, n, (hq977.2.2.2.1 cq977_1 : Int), rfl, s1003, (by omega), (by omega), (by omega), (by omega), (by omega), (by dsimp only; omega), (by dsimp only; omega), (by omega), hpc1026⟩
