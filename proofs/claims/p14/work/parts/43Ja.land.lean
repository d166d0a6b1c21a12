/-! ===== methods of the landed text (by program) ===== -/
set_option maxRecDepth 20000 in
set_option maxHeartbeats 4000000 in
theorem cl_Picture_begin (d : Nat) {ty : Nat → Nat} {h : gH} (hJ : gJ rT 1027 ty h) (x : Nat) (tx : ty x = 54) (nw : Int) (rnw : 1 ≤ nw ∧ nw ≤ 64) (nh : Int) (rnh : 1 ≤ nh ∧ nh ≤ 64) (n : Int) (rn : 1 ≤ n ∧ n ≤ 3) (bn : Nat) (ebn : h.2.2.2.2 x 0 = .ref bn) (tbn : ty bn = 57) (b0 : Nat) (eb0 : h.2.2.2.2 bn 0 = .ref b0) (tb0 : ty b0 = 82) (b1 : Nat) (eb1 : h.2.2.2.2 bn 1 = .ref b1) (tb1 : ty b1 = 83) (b2 : Nat) (eb2 : h.2.2.2.2 bn 2 = .ref b2) (tb2 : ty b2 = 84) (co : Nat) (eco : h.2.2.2.2 x 2 = .ref co) (tco : ty co = 112) (dm : Nat) (edm : h.2.2.2.2 x 3 = .ref dm) (tdm : ty dm = 113) (hb0 : Int) (ehb0 : h.2.2.2.2 b0 1 = .int (zi hb0)) (rhb0 : (-1) ≤ hb0 ∧ hb0 ≤ 15) (vb0 : Int) (evb0 : h.2.2.2.2 b0 2 = .int (zi vb0)) (rvb0 : 0 ≤ vb0 ∧ vb0 ≤ 15) (tq0 : Int) (etq0 : h.2.2.2.2 b0 3 = .int (zi tq0)) (rtq0 : (-1) ≤ tq0 ∧ tq0 ≤ 255) (hb1 : Int) (ehb1 : h.2.2.2.2 b1 1 = .int (zi hb1)) (rhb1 : (-1) ≤ hb1 ∧ hb1 ≤ 15) (vb1 : Int) (evb1 : h.2.2.2.2 b1 2 = .int (zi vb1)) (rvb1 : 0 ≤ vb1 ∧ vb1 ≤ 15) (tq1 : Int) (etq1 : h.2.2.2.2 b1 3 = .int (zi tq1)) (rtq1 : (-1) ≤ tq1 ∧ tq1 ≤ 255) (hb2 : Int) (ehb2 : h.2.2.2.2 b2 1 = .int (zi hb2)) (rhb2 : (-1) ≤ hb2 ∧ hb2 ≤ 15) (vb2 : Int) (evb2 : h.2.2.2.2 b2 2 = .int (zi vb2)) (rvb2 : 0 ≤ vb2 ∧ vb2 ≤ 15) (tq2 : Int) (etq2 : h.2.2.2.2 b2 3 = .int (zi tq2)) (rtq2 : (-1) ≤ tq2 ∧ tq2 ≤ 255) (pp0 : 0 < n → (1 ≤ hb0 ∧ hb0 ≤ 2 ∧ 1 ≤ vb0 ∧ vb0 ≤ 2 ∧ 0 ≤ tq0 ∧ tq0 ≤ 3)) (pp1 : 1 < n → (1 ≤ hb1 ∧ hb1 ≤ 2 ∧ 1 ≤ vb1 ∧ vb1 ≤ 2 ∧ 0 ≤ tq1 ∧ tq1 ≤ 3)) (pp2 : 2 < n → (1 ≤ hb2 ∧ hb2 ≤ 2 ∧ 1 ≤ vb2 ∧ vb2 ≤ 2 ∧ 0 ≤ tq2 ∧ tq2 ≤ 3)) (pp3 : (h.2.2.2.1 co : Int) = 64 * (h.2.2.2.1 dm : Int)) (pp4 : n = 1 ∨ n = 3) (uq : gUq ty) : gz gPP gGG gcn (d + 2) gt31 0 (gent [.ref x, .int (zi nw), .int (zi nh), .int (zi n)] 5) [] h (fun q _ => ∃ ty9 : Nat → Nat, gSg [112, 113] [] [54002, 54003, 54005, 54006, 54007, 54008, 54010, 54011, 54012, 54013, 82004, 82005, 82006, 82007, 82008, 83004, 83005, 83006, 83007, 83008, 84004, 84005, 84006, 84007, 84008, 112999, 113999] ty h ty9 q.2.2 ∧ ∃ cn1 ld1 : Int, gfin gt31 q.1 q.2.1 = some none ∧ q.2.2.2.2.2.2 x 7 = .int (zi cn1) ∧ 0 ≤ cn1 ∧ cn1 ≤ 3 ∧ 0 ≤ ld1 ∧ ld1 ≤ 192 ∧ (cn1 = n) ∧ (((q.2.2.1 : Int) - h.1) ≤ 2 * (ld1 - h.2.2.2.1 dm)) ∧ (((q.2.2.2.1 : Int) - h.2.1) ≤ 12480 * (ld1 - h.2.2.2.1 dm)) ∧ ((h.2.2.2.1 dm : Int) ≤ ld1) ∧ (gPC ty9 x b0 b1 b2 ld1 q.2.2)) := by
  have hS : gSs rT 1027 ty [54002, 54003, 54005, 54006, 54007, 54008, 54010, 54011, 54012, 54013, 82004, 82005, 82006, 82007, 82008, 83004, 83005, 83006, 83007, 83008, 84004, 84005, 84006, 84007, 84008, 112999, 113999] h h := gSs.rf hJ
  have G0 : gSg [112, 113] [] [54002, 54003, 54005, 54006, 54007, 54008, 54010, 54011, 54012, 54013, 82004, 82005, 82006, 82007, 82008, 83004, 83005, 83006, 83007, 83008, 84004, 84005, 84006, 84007, 84008, 112999, 113999] ty h ty h := gSg.rf hJ (fun x hx => by cases hx)
  refine gz_s 2 (pc' := 2) (L' := [some (.ref x), some (.int (zi nw)), some (.int (zi nh)), some (.int (zi n)), none]) (S' := [.int (zi nw), .ref x]) rfl ?_
  refine gs_put rfl (by decide) rfl hS tx rfl rfl rfl rfl (Or.inl rfl) (by decide) (by omega) (by omega) (fun h1 sh1 eh1 fh1 => ?_)
  have s2 := (fh1 x 0 (fun q => absurd q.2 (by decide))).trans ebn
  have s3 := (fh1 bn 0 (fun q => absurd (((tbn).symm.trans (congrArg ty q.1)).trans tx) (by decide))).trans eb0
  have s4 := (fh1 bn 1 (fun q => absurd (((tbn).symm.trans (congrArg ty q.1)).trans tx) (by decide))).trans eb1
  have s5 := (fh1 bn 2 (fun q => absurd (((tbn).symm.trans (congrArg ty q.1)).trans tx) (by decide))).trans eb2
  have s6 := (fh1 x 2 (fun q => absurd q.2 (by decide))).trans eco
  have s7 := (fh1 x 3 (fun q => absurd q.2 (by decide))).trans edm
  have s8 := (fh1 b0 1 (fun q => absurd q.2 (by decide))).trans ehb0
  have s9 := (fh1 b0 2 (fun q => absurd q.2 (by decide))).trans evb0
  have s10 := (fh1 b0 3 (fun q => absurd q.2 (by decide))).trans etq0
  have s11 := (fh1 b1 1 (fun q => absurd q.2 (by decide))).trans ehb1
  have s12 := (fh1 b1 2 (fun q => absurd q.2 (by decide))).trans evb1
  have s13 := (fh1 b1 3 (fun q => absurd q.2 (by decide))).trans etq1
  have s14 := (fh1 b2 1 (fun q => absurd q.2 (by decide))).trans ehb2
  have s15 := (fh1 b2 2 (fun q => absurd q.2 (by decide))).trans evb2
  have s16 := (fh1 b2 3 (fun q => absurd q.2 (by decide))).trans etq2
  refine gz_s 2 (pc' := 7) (L' := [some (.ref x), some (.int (zi nw)), some (.int (zi nh)), some (.int (zi n)), none]) (S' := [.int (zi nh), .ref x]) rfl ?_
  refine gs_put rfl (by decide) rfl sh1 tx rfl rfl rfl rfl (Or.inl rfl) (by decide) (by omega) (by omega) (fun h17 sh17 eh17 fh17 => ?_)
  have s18 := (fh17 x 0 (fun q => absurd q.2 (by decide))).trans s2
  have s19 := (fh17 bn 0 (fun q => absurd (((tbn).symm.trans (congrArg ty q.1)).trans tx) (by decide))).trans s3
  have s20 := (fh17 bn 1 (fun q => absurd (((tbn).symm.trans (congrArg ty q.1)).trans tx) (by decide))).trans s4
  have s21 := (fh17 bn 2 (fun q => absurd (((tbn).symm.trans (congrArg ty q.1)).trans tx) (by decide))).trans s5
  have s22 := (fh17 x 2 (fun q => absurd q.2 (by decide))).trans s6
  have s23 := (fh17 x 3 (fun q => absurd q.2 (by decide))).trans s7
  have s24 := (fh17 b0 1 (fun q => absurd q.2 (by decide))).trans s8
  have s25 := (fh17 b0 2 (fun q => absurd q.2 (by decide))).trans s9
  have s26 := (fh17 b0 3 (fun q => absurd q.2 (by decide))).trans s10
  have s27 := (fh17 b1 1 (fun q => absurd q.2 (by decide))).trans s11
  have s28 := (fh17 b1 2 (fun q => absurd q.2 (by decide))).trans s12
  have s29 := (fh17 b1 3 (fun q => absurd q.2 (by decide))).trans s13
  have s30 := (fh17 b2 1 (fun q => absurd q.2 (by decide))).trans s14
  have s31 := (fh17 b2 2 (fun q => absurd q.2 (by decide))).trans s15
  have s32 := (fh17 b2 3 (fun q => absurd q.2 (by decide))).trans s16
  have s33 := (fh17 x 5 (fun q => absurd q.2 (by decide))).trans eh1
  refine gz_s 2 (pc' := 12) (L' := [some (.ref x), some (.int (zi nw)), some (.int (zi nh)), some (.int (zi n)), none]) (S' := [.int (zi n), .ref x]) rfl ?_
  refine gs_put rfl (by decide) rfl sh17 tx rfl rfl rfl rfl (Or.inl rfl) (by decide) (by omega) (by omega) (fun h34 sh34 eh34 fh34 => ?_)
  have s35 := (fh34 x 0 (fun q => absurd q.2 (by decide))).trans s18
  have s36 := (fh34 bn 0 (fun q => absurd (((tbn).symm.trans (congrArg ty q.1)).trans tx) (by decide))).trans s19
  have s37 := (fh34 bn 1 (fun q => absurd (((tbn).symm.trans (congrArg ty q.1)).trans tx) (by decide))).trans s20
  have s38 := (fh34 bn 2 (fun q => absurd (((tbn).symm.trans (congrArg ty q.1)).trans tx) (by decide))).trans s21
  have s39 := (fh34 x 2 (fun q => absurd q.2 (by decide))).trans s22
  have s40 := (fh34 x 3 (fun q => absurd q.2 (by decide))).trans s23
  have s41 := (fh34 b0 1 (fun q => absurd q.2 (by decide))).trans s24
  have s42 := (fh34 b0 2 (fun q => absurd q.2 (by decide))).trans s25
  have s43 := (fh34 b0 3 (fun q => absurd q.2 (by decide))).trans s26
  have s44 := (fh34 b1 1 (fun q => absurd q.2 (by decide))).trans s27
  have s45 := (fh34 b1 2 (fun q => absurd q.2 (by decide))).trans s28
  have s46 := (fh34 b1 3 (fun q => absurd q.2 (by decide))).trans s29
  have s47 := (fh34 b2 1 (fun q => absurd q.2 (by decide))).trans s30
  have s48 := (fh34 b2 2 (fun q => absurd q.2 (by decide))).trans s31
  have s49 := (fh34 b2 3 (fun q => absurd q.2 (by decide))).trans s32
  have s50 := (fh34 x 5 (fun q => absurd q.2 (by decide))).trans s33
  have s51 := (fh34 x 6 (fun q => absurd q.2 (by decide))).trans eh17
  refine gz_s 2 (pc' := 17) (L' := [some (.ref x), some (.int (zi nw)), some (.int (zi nh)), some (.int (zi n)), none]) (S' := [.int (zi 1), .ref x]) rfl ?_
  refine gs_put rfl (by decide) rfl sh34 tx rfl rfl rfl rfl (Or.inl rfl) (by decide) (by omega) (by omega) (fun h52 sh52 eh52 fh52 => ?_)
  have s53 := (fh52 x 0 (fun q => absurd q.2 (by decide))).trans s35
  have s54 := (fh52 bn 0 (fun q => absurd (((tbn).symm.trans (congrArg ty q.1)).trans tx) (by decide))).trans s36
  have s55 := (fh52 bn 1 (fun q => absurd (((tbn).symm.trans (congrArg ty q.1)).trans tx) (by decide))).trans s37
  have s56 := (fh52 bn 2 (fun q => absurd (((tbn).symm.trans (congrArg ty q.1)).trans tx) (by decide))).trans s38
  have s57 := (fh52 x 2 (fun q => absurd q.2 (by decide))).trans s39
  have s58 := (fh52 x 3 (fun q => absurd q.2 (by decide))).trans s40
  have s59 := (fh52 b0 1 (fun q => absurd q.2 (by decide))).trans s41
  have s60 := (fh52 b0 2 (fun q => absurd q.2 (by decide))).trans s42
  have s61 := (fh52 b0 3 (fun q => absurd q.2 (by decide))).trans s43
  have s62 := (fh52 b1 1 (fun q => absurd q.2 (by decide))).trans s44
  have s63 := (fh52 b1 2 (fun q => absurd q.2 (by decide))).trans s45
  have s64 := (fh52 b1 3 (fun q => absurd q.2 (by decide))).trans s46
  have s65 := (fh52 b2 1 (fun q => absurd q.2 (by decide))).trans s47
  have s66 := (fh52 b2 2 (fun q => absurd q.2 (by decide))).trans s48
  have s67 := (fh52 b2 3 (fun q => absurd q.2 (by decide))).trans s49
  have s68 := (fh52 x 5 (fun q => absurd q.2 (by decide))).trans s50
  have s69 := (fh52 x 6 (fun q => absurd q.2 (by decide))).trans s51
  have s70 := (fh52 x 7 (fun q => absurd q.2 (by decide))).trans eh34
  refine gz_s 2 (pc' := 22) (L' := [some (.ref x), some (.int (zi nw)), some (.int (zi nh)), some (.int (zi n)), none]) (S' := [.int (zi 1), .ref x]) rfl ?_
  refine gs_put rfl (by decide) rfl sh52 tx rfl rfl rfl rfl (Or.inl rfl) (by decide) (by omega) (by omega) (fun h71 sh71 eh71 fh71 => ?_)
  have s72 := (fh71 x 0 (fun q => absurd q.2 (by decide))).trans s53
  have s73 := (fh71 bn 0 (fun q => absurd (((tbn).symm.trans (congrArg ty q.1)).trans tx) (by decide))).trans s54
  have s74 := (fh71 bn 1 (fun q => absurd (((tbn).symm.trans (congrArg ty q.1)).trans tx) (by decide))).trans s55
  have s75 := (fh71 bn 2 (fun q => absurd (((tbn).symm.trans (congrArg ty q.1)).trans tx) (by decide))).trans s56
  have s76 := (fh71 x 2 (fun q => absurd q.2 (by decide))).trans s57
  have s77 := (fh71 x 3 (fun q => absurd q.2 (by decide))).trans s58
  have s78 := (fh71 b0 1 (fun q => absurd q.2 (by decide))).trans s59
  have s79 := (fh71 b0 2 (fun q => absurd q.2 (by decide))).trans s60
  have s80 := (fh71 b0 3 (fun q => absurd q.2 (by decide))).trans s61
  have s81 := (fh71 b1 1 (fun q => absurd q.2 (by decide))).trans s62
  have s82 := (fh71 b1 2 (fun q => absurd q.2 (by decide))).trans s63
  have s83 := (fh71 b1 3 (fun q => absurd q.2 (by decide))).trans s64
  have s84 := (fh71 b2 1 (fun q => absurd q.2 (by decide))).trans s65
  have s85 := (fh71 b2 2 (fun q => absurd q.2 (by decide))).trans s66
  have s86 := (fh71 b2 3 (fun q => absurd q.2 (by decide))).trans s67
  have s87 := (fh71 x 5 (fun q => absurd q.2 (by decide))).trans s68
  have s88 := (fh71 x 6 (fun q => absurd q.2 (by decide))).trans s69
  have s89 := (fh71 x 7 (fun q => absurd q.2 (by decide))).trans s70
  have s90 := (fh71 x 10 (fun q => absurd q.2 (by decide))).trans eh52
  refine gz_s 4 (pc' := 31) (L' := [some (.ref x), some (.int (zi nw)), some (.int (zi nh)), some (.int (zi n)), some (.int (zi 0))]) (S' := [.ref x, .int (zi 0)]) rfl ?_
  refine gs_gtk rfl (by decide) rfl sh71.1 tx rfl rfl s89 ?_
  refine gy_icF rfl (by decide) (by decide) (by omega) (by omega) (by first | (simp [zc]; done) | (simp only [zc]; omega)) ?_
  refine gz_s 2 (pc' := 39) (L' := [some (.ref x), some (.int (zi nw)), some (.int (zi nh)), some (.int (zi n)), some (.int (zi 0))]) (S' := [.ref x, .ref x]) rfl ?_
  refine gs_gtk rfl (by decide) rfl sh71.1 tx rfl rfl s90 ?_
  refine gz_s 1 (pc' := 43) (L' := [some (.ref x), some (.int (zi nw)), some (.int (zi nh)), some (.int (zi n)), some (.int (zi 0))]) (S' := [.ref x, .int (zi 1), .ref x]) rfl ?_
  refine gs_gtk rfl (by decide) rfl sh71.1 tx rfl rfl s72 ?_
  refine gz_s 1 (pc' := 48) (L' := [some (.ref x), some (.int (zi nw)), some (.int (zi nh)), some (.int (zi n)), some (.int (zi 0))]) (S' := [.int (zi 0), .ref bn, .int (zi 1), .ref x]) rfl ?_
  have he93 : (0 : Int) = 0 := by omega
  refine gs_aak (j := 0) rfl (by decide) sh71.1 tbn rfl rfl rfl (by decide) he93 (by decide) s73 ?_
  refine gs_gtk rfl (by decide) rfl sh71.1 tb0 rfl rfl s78 ?_
  refine gz_call rfl (by decide) rfl (by decide) (by decide) (gcal_of rfl rfl rfl (Nat.le_of_ble_eq_true rfl) rfl) (cl_Math_max _ sh71.1 1 (by omega) hb0 (by omega) ) (fun q94 _ wq94 => ?_)
  obtain ⟨pq94, oq94, hq94⟩ := q94
  obtain ⟨xq94, zq94, gq94, aq94, bq94, uq94_0, uq94_1, uq94_2⟩ := wq94
  refine ⟨_, gq94, ?_⟩
  show gz gPP gGG gcn _ _ 55 [some (.ref x), some (.int (zi nw)), some (.int (zi nh)), some (.int (zi n)), some (.int (zi 0))] [.int (zi zq94), .ref x] hq94 _
  have sq94 : gSs rT 1027 ty [54002, 54003, 54005, 54006, 54007, 54008, 54010, 54011, 54012, 54013, 82004, 82005, 82006, 82007, 82008, 83004, 83005, 83006, 83007, 83008, 84004, 84005, 84006, 84007, 84008, 112999, 113999] h hq94 := gSs.tr sh71 xq94 (by decide)
  have s95 := (xq94.2.2.2.2.2 x 0 (by rw [tx]; decide)).trans s72
  have s96 := (xq94.2.2.2.2.2 bn 0 (by rw [tbn]; decide)).trans s73
  have s97 := (xq94.2.2.2.2.2 bn 1 (by rw [tbn]; decide)).trans s74
  have s98 := (xq94.2.2.2.2.2 bn 2 (by rw [tbn]; decide)).trans s75
  have s99 := (xq94.2.2.2.2.2 x 2 (by rw [tx]; decide)).trans s76
  have s100 := (xq94.2.2.2.2.2 x 3 (by rw [tx]; decide)).trans s77
  have s101 := (xq94.2.2.2.2.2 b0 1 (by rw [tb0]; decide)).trans s78
  have s102 := (xq94.2.2.2.2.2 b0 2 (by rw [tb0]; decide)).trans s79
  have s103 := (xq94.2.2.2.2.2 b0 3 (by rw [tb0]; decide)).trans s80
  have s104 := (xq94.2.2.2.2.2 b1 1 (by rw [tb1]; decide)).trans s81
  have s105 := (xq94.2.2.2.2.2 b1 2 (by rw [tb1]; decide)).trans s82
  have s106 := (xq94.2.2.2.2.2 b1 3 (by rw [tb1]; decide)).trans s83
  have s107 := (xq94.2.2.2.2.2 b2 1 (by rw [tb2]; decide)).trans s84
  have s108 := (xq94.2.2.2.2.2 b2 2 (by rw [tb2]; decide)).trans s85
  have s109 := (xq94.2.2.2.2.2 b2 3 (by rw [tb2]; decide)).trans s86
  have s110 := (xq94.2.2.2.2.2 x 5 (by rw [tx]; decide)).trans s87
  have s111 := (xq94.2.2.2.2.2 x 6 (by rw [tx]; decide)).trans s88
  have s112 := (xq94.2.2.2.2.2 x 7 (by rw [tx]; decide)).trans s89
  have s113 := (xq94.2.2.2.2.2 x 10 (by rw [tx]; decide)).trans s90
  have s114 := (xq94.2.2.2.2.2 x 11 (by rw [tx]; decide)).trans eh71
  refine gs_put rfl (by decide) rfl sq94 tx rfl rfl rfl rfl (Or.inl rfl) (by decide) (by omega) (by omega) (fun h115 sh115 eh115 fh115 => ?_)
  have s116 := (fh115 x 0 (fun q => absurd q.2 (by decide))).trans s95
  have s117 := (fh115 bn 0 (fun q => absurd (((tbn).symm.trans (congrArg ty q.1)).trans tx) (by decide))).trans s96
  have s118 := (fh115 bn 1 (fun q => absurd (((tbn).symm.trans (congrArg ty q.1)).trans tx) (by decide))).trans s97
  have s119 := (fh115 bn 2 (fun q => absurd (((tbn).symm.trans (congrArg ty q.1)).trans tx) (by decide))).trans s98
  have s120 := (fh115 x 2 (fun q => absurd q.2 (by decide))).trans s99
  have s121 := (fh115 x 3 (fun q => absurd q.2 (by decide))).trans s100
  have s122 := (fh115 b0 1 (fun q => absurd q.2 (by decide))).trans s101
  have s123 := (fh115 b0 2 (fun q => absurd q.2 (by decide))).trans s102
  have s124 := (fh115 b0 3 (fun q => absurd q.2 (by decide))).trans s103
  have s125 := (fh115 b1 1 (fun q => absurd q.2 (by decide))).trans s104
  have s126 := (fh115 b1 2 (fun q => absurd q.2 (by decide))).trans s105
  have s127 := (fh115 b1 3 (fun q => absurd q.2 (by decide))).trans s106
  have s128 := (fh115 b2 1 (fun q => absurd q.2 (by decide))).trans s107
  have s129 := (fh115 b2 2 (fun q => absurd q.2 (by decide))).trans s108
  have s130 := (fh115 b2 3 (fun q => absurd q.2 (by decide))).trans s109
  have s131 := (fh115 x 5 (fun q => absurd q.2 (by decide))).trans s110
  have s132 := (fh115 x 6 (fun q => absurd q.2 (by decide))).trans s111
  have s133 := (fh115 x 7 (fun q => absurd q.2 (by decide))).trans s112
  have s134 := (fh115 x 11 (fun q => absurd q.2 (by decide))).trans s114
  refine gz_s 2 (pc' := 60) (L' := [some (.ref x), some (.int (zi nw)), some (.int (zi nh)), some (.int (zi n)), some (.int (zi 0))]) (S' := [.ref x, .ref x]) rfl ?_
  refine gs_gtk rfl (by decide) rfl sh115.1 tx rfl rfl s134 ?_
  refine gz_s 1 (pc' := 64) (L' := [some (.ref x), some (.int (zi nw)), some (.int (zi nh)), some (.int (zi n)), some (.int (zi 0))]) (S' := [.ref x, .int (zi 1), .ref x]) rfl ?_
  refine gs_gtk rfl (by decide) rfl sh115.1 tx rfl rfl s116 ?_
  refine gz_s 1 (pc' := 69) (L' := [some (.ref x), some (.int (zi nw)), some (.int (zi nh)), some (.int (zi n)), some (.int (zi 0))]) (S' := [.int (zi 0), .ref bn, .int (zi 1), .ref x]) rfl ?_
  have he137 : (0 : Int) = 0 := by omega
  refine gs_aak (j := 0) rfl (by decide) sh115.1 tbn rfl rfl rfl (by decide) he137 (by decide) s117 ?_
  refine gs_gtk rfl (by decide) rfl sh115.1 tb0 rfl rfl s123 ?_
  refine gz_call rfl (by decide) rfl (by decide) (by decide) (gcal_of rfl rfl rfl (Nat.le_of_ble_eq_true rfl) rfl) (cl_Math_max _ sh115.1 1 (by omega) vb0 (by omega) ) (fun q138 _ wq138 => ?_)
  obtain ⟨pq138, oq138, hq138⟩ := q138
  obtain ⟨xq138, zq138, gq138, aq138, bq138, uq138_0, uq138_1, uq138_2⟩ := wq138
  refine ⟨_, gq138, ?_⟩
  show gz gPP gGG gcn _ _ 76 [some (.ref x), some (.int (zi nw)), some (.int (zi nh)), some (.int (zi n)), some (.int (zi 0))] [.int (zi zq138), .ref x] hq138 _
  have sq138 : gSs rT 1027 ty [54002, 54003, 54005, 54006, 54007, 54008, 54010, 54011, 54012, 54013, 82004, 82005, 82006, 82007, 82008, 83004, 83005, 83006, 83007, 83008, 84004, 84005, 84006, 84007, 84008, 112999, 113999] h hq138 := gSs.tr sh115 xq138 (by decide)
  have s139 := (xq138.2.2.2.2.2 x 0 (by rw [tx]; decide)).trans s116
  have s140 := (xq138.2.2.2.2.2 bn 0 (by rw [tbn]; decide)).trans s117
  have s141 := (xq138.2.2.2.2.2 bn 1 (by rw [tbn]; decide)).trans s118
  have s142 := (xq138.2.2.2.2.2 bn 2 (by rw [tbn]; decide)).trans s119
  have s143 := (xq138.2.2.2.2.2 x 2 (by rw [tx]; decide)).trans s120
  have s144 := (xq138.2.2.2.2.2 x 3 (by rw [tx]; decide)).trans s121
  have s145 := (xq138.2.2.2.2.2 b0 1 (by rw [tb0]; decide)).trans s122
  have s146 := (xq138.2.2.2.2.2 b0 2 (by rw [tb0]; decide)).trans s123
  have s147 := (xq138.2.2.2.2.2 b0 3 (by rw [tb0]; decide)).trans s124
  have s148 := (xq138.2.2.2.2.2 b1 1 (by rw [tb1]; decide)).trans s125
  have s149 := (xq138.2.2.2.2.2 b1 2 (by rw [tb1]; decide)).trans s126
  have s150 := (xq138.2.2.2.2.2 b1 3 (by rw [tb1]; decide)).trans s127
  have s151 := (xq138.2.2.2.2.2 b2 1 (by rw [tb2]; decide)).trans s128
  have s152 := (xq138.2.2.2.2.2 b2 2 (by rw [tb2]; decide)).trans s129
  have s153 := (xq138.2.2.2.2.2 b2 3 (by rw [tb2]; decide)).trans s130
  have s154 := (xq138.2.2.2.2.2 x 5 (by rw [tx]; decide)).trans s131
  have s155 := (xq138.2.2.2.2.2 x 6 (by rw [tx]; decide)).trans s132
  have s156 := (xq138.2.2.2.2.2 x 7 (by rw [tx]; decide)).trans s133
  have s157 := (xq138.2.2.2.2.2 x 11 (by rw [tx]; decide)).trans s134
  have s158 := (xq138.2.2.2.2.2 x 10 (by rw [tx]; decide)).trans eh115
  refine gs_put rfl (by decide) rfl sq138 tx rfl rfl rfl rfl (Or.inl rfl) (by decide) (by omega) (by omega) (fun h159 sh159 eh159 fh159 => ?_)
  have s160 := (fh159 x 0 (fun q => absurd q.2 (by decide))).trans s139
  have s161 := (fh159 bn 0 (fun q => absurd (((tbn).symm.trans (congrArg ty q.1)).trans tx) (by decide))).trans s140
  have s162 := (fh159 bn 1 (fun q => absurd (((tbn).symm.trans (congrArg ty q.1)).trans tx) (by decide))).trans s141
  have s163 := (fh159 bn 2 (fun q => absurd (((tbn).symm.trans (congrArg ty q.1)).trans tx) (by decide))).trans s142
  have s164 := (fh159 x 2 (fun q => absurd q.2 (by decide))).trans s143
  have s165 := (fh159 x 3 (fun q => absurd q.2 (by decide))).trans s144
  have s166 := (fh159 b0 1 (fun q => absurd q.2 (by decide))).trans s145
  have s167 := (fh159 b0 2 (fun q => absurd q.2 (by decide))).trans s146
  have s168 := (fh159 b0 3 (fun q => absurd q.2 (by decide))).trans s147
  have s169 := (fh159 b1 1 (fun q => absurd q.2 (by decide))).trans s148
  have s170 := (fh159 b1 2 (fun q => absurd q.2 (by decide))).trans s149
  have s171 := (fh159 b1 3 (fun q => absurd q.2 (by decide))).trans s150
  have s172 := (fh159 b2 1 (fun q => absurd q.2 (by decide))).trans s151
  have s173 := (fh159 b2 2 (fun q => absurd q.2 (by decide))).trans s152
  have s174 := (fh159 b2 3 (fun q => absurd q.2 (by decide))).trans s153
  have s175 := (fh159 x 5 (fun q => absurd q.2 (by decide))).trans s154
  have s176 := (fh159 x 6 (fun q => absurd q.2 (by decide))).trans s155
  have s177 := (fh159 x 7 (fun q => absurd q.2 (by decide))).trans s156
  have s178 := (fh159 x 10 (fun q => absurd q.2 (by decide))).trans s158
  refine gy_s 4 (pc' := 31) (L' := [some (.ref x), some (.int (zi nw)), some (.int (zi nh)), some (.int (zi n)), some (.int ((zi 0) + zi 1))]) (S' := [.ref x, .int ((zi 0) + zi 1)]) (L2 := [some (.ref x), some (.int (zi nw)), some (.int (zi nh)), some (.int (zi n)), some (.int (zi 1))]) (S2 := [.ref x, .int (zi 1)]) rfl (by simp only [zi_add, zi_sub, zi_mul, zi_neg, zi_and1, zi_and7, zi_and15, zi_and31, zi_and255, Int.reduceAdd, Int.reduceMul, Int.reduceSub]) (by simp only [zi_add, zi_sub, zi_mul, zi_neg, zi_and1, zi_and7, zi_and15, zi_and31, zi_and255, Int.reduceAdd, Int.reduceMul, Int.reduceSub]) ?_
  refine gs_gtk rfl (by decide) rfl sh159.1 tx rfl rfl s177 ?_
  by_cases hc179 : (n : Int) ≤ 1
  · refine gy_icT (pc' := 85) rfl (by decide) (by decide) (by omega) (by omega) hc179 ?_
    have hz1 := zup8 (w := nw) (wd := zq94) (by omega) (by omega)
    refine gz_s 2 (pc' := 87) (L' := [some (.ref x), some (.int (zi nw)), some (.int (zi nh)), some (.int (zi n)), some (.int (zi 1))]) (S' := [.ref x, .ref x]) rfl ?_
    refine gs_gtk rfl (by decide) rfl sh159.1 tx rfl rfl s175 ?_
    refine gz_s 2 (pc' := 93) (L' := [some (.ref x), some (.int (zi nw)), some (.int (zi nh)), some (.int (zi n)), some (.int (zi 1))]) (S' := [.ref x, .int (zi 8), .int (zi nw), .ref x]) rfl ?_
    refine gs_gtk rfl (by decide) rfl sh159.1 tx rfl rfl s178 ?_
    refine gy_s 1 (pc' := 97) (L' := [some (.ref x), some (.int (zi nw)), some (.int (zi nh)), some (.int (zi n)), some (.int (zi 1))]) (S' := [.int ((zi 8) * (zi zq94)), .int (zi nw), .ref x]) (L2 := [some (.ref x), some (.int (zi nw)), some (.int (zi nh)), some (.int (zi n)), some (.int (zi 1))]) (S2 := [.int (zi (8 * zq94)), .int (zi nw), .ref x]) rfl (by simp only [zi_add, zi_sub, zi_mul, zi_neg, zi_and1, zi_and7, zi_and15, zi_and31, zi_and255, Int.reduceAdd, Int.reduceMul, Int.reduceSub]) (by simp only [zi_add, zi_sub, zi_mul, zi_neg, zi_and1, zi_and7, zi_and15, zi_and31, zi_and255, Int.reduceAdd, Int.reduceMul, Int.reduceSub]) ?_
    refine gz_call rfl (by decide) rfl (by decide) (by decide) (gcal_of rfl rfl rfl (Nat.le_of_ble_eq_true rfl) rfl) (cl_DctFilter_upward _ sh159.1 nw (by omega) (8 * zq94) (by omega) ) (fun q180 _ wq180 => ?_)
    obtain ⟨pq180, oq180, hq180⟩ := q180
    obtain ⟨xq180, zq180, gq180, aq180, bq180, uq180_0⟩ := wq180
    refine ⟨_, gq180, ?_⟩
    show gz gPP gGG gcn _ _ 100 [some (.ref x), some (.int (zi nw)), some (.int (zi nh)), some (.int (zi n)), some (.int (zi 1))] [.int (zi zq180), .ref x] hq180 _
    have sq180 : gSs rT 1027 ty [54002, 54003, 54005, 54006, 54007, 54008, 54010, 54011, 54012, 54013, 82004, 82005, 82006, 82007, 82008, 83004, 83005, 83006, 83007, 83008, 84004, 84005, 84006, 84007, 84008, 112999, 113999] h hq180 := gSs.tr sh159 xq180 (by decide)
    have s181 := (xq180.2.2.2.2.2 x 0 (by rw [tx]; decide)).trans s160
    have s182 := (xq180.2.2.2.2.2 bn 0 (by rw [tbn]; decide)).trans s161
    have s183 := (xq180.2.2.2.2.2 bn 1 (by rw [tbn]; decide)).trans s162
    have s184 := (xq180.2.2.2.2.2 bn 2 (by rw [tbn]; decide)).trans s163
    have s185 := (xq180.2.2.2.2.2 x 2 (by rw [tx]; decide)).trans s164
    have s186 := (xq180.2.2.2.2.2 x 3 (by rw [tx]; decide)).trans s165
    have s187 := (xq180.2.2.2.2.2 b0 1 (by rw [tb0]; decide)).trans s166
    have s188 := (xq180.2.2.2.2.2 b0 2 (by rw [tb0]; decide)).trans s167
    have s189 := (xq180.2.2.2.2.2 b0 3 (by rw [tb0]; decide)).trans s168
    have s190 := (xq180.2.2.2.2.2 b1 1 (by rw [tb1]; decide)).trans s169
    have s191 := (xq180.2.2.2.2.2 b1 2 (by rw [tb1]; decide)).trans s170
    have s192 := (xq180.2.2.2.2.2 b1 3 (by rw [tb1]; decide)).trans s171
    have s193 := (xq180.2.2.2.2.2 b2 1 (by rw [tb2]; decide)).trans s172
    have s194 := (xq180.2.2.2.2.2 b2 2 (by rw [tb2]; decide)).trans s173
    have s195 := (xq180.2.2.2.2.2 b2 3 (by rw [tb2]; decide)).trans s174
    have s196 := (xq180.2.2.2.2.2 x 5 (by rw [tx]; decide)).trans s175
    have s197 := (xq180.2.2.2.2.2 x 6 (by rw [tx]; decide)).trans s176
    have s198 := (xq180.2.2.2.2.2 x 7 (by rw [tx]; decide)).trans s177
    have s199 := (xq180.2.2.2.2.2 x 10 (by rw [tx]; decide)).trans s178
    have s200 := (xq180.2.2.2.2.2 x 11 (by rw [tx]; decide)).trans eh159
    refine gs_put rfl (by decide) rfl sq180 tx rfl rfl rfl rfl (Or.inl rfl) (by decide) (by omega) (by omega) (fun h201 sh201 eh201 fh201 => ?_)
    have s202 := (fh201 x 0 (fun q => absurd q.2 (by decide))).trans s181
    have s203 := (fh201 bn 0 (fun q => absurd (((tbn).symm.trans (congrArg ty q.1)).trans tx) (by decide))).trans s182
    have s204 := (fh201 bn 1 (fun q => absurd (((tbn).symm.trans (congrArg ty q.1)).trans tx) (by decide))).trans s183
    have s205 := (fh201 bn 2 (fun q => absurd (((tbn).symm.trans (congrArg ty q.1)).trans tx) (by decide))).trans s184
    have s206 := (fh201 x 2 (fun q => absurd q.2 (by decide))).trans s185
    have s207 := (fh201 x 3 (fun q => absurd q.2 (by decide))).trans s186
    have s208 := (fh201 b0 1 (fun q => absurd q.2 (by decide))).trans s187
    have s209 := (fh201 b0 2 (fun q => absurd q.2 (by decide))).trans s188
    have s210 := (fh201 b0 3 (fun q => absurd q.2 (by decide))).trans s189
    have s211 := (fh201 b1 1 (fun q => absurd q.2 (by decide))).trans s190
    have s212 := (fh201 b1 2 (fun q => absurd q.2 (by decide))).trans s191
    have s213 := (fh201 b1 3 (fun q => absurd q.2 (by decide))).trans s192
    have s214 := (fh201 b2 1 (fun q => absurd q.2 (by decide))).trans s193
    have s215 := (fh201 b2 2 (fun q => absurd q.2 (by decide))).trans s194
    have s216 := (fh201 b2 3 (fun q => absurd q.2 (by decide))).trans s195
    have s217 := (fh201 x 5 (fun q => absurd q.2 (by decide))).trans s196
    have s218 := (fh201 x 6 (fun q => absurd q.2 (by decide))).trans s197
    have s219 := (fh201 x 7 (fun q => absurd q.2 (by decide))).trans s198
    have s220 := (fh201 x 10 (fun q => absurd q.2 (by decide))).trans s199
    have s221 := (fh201 x 11 (fun q => absurd q.2 (by decide))).trans s200
    have hz2 := zup8 (w := nh) (wd := zq138) (by omega) (by omega)
    refine gz_s 2 (pc' := 105) (L' := [some (.ref x), some (.int (zi nw)), some (.int (zi nh)), some (.int (zi n)), some (.int (zi 1))]) (S' := [.ref x, .ref x]) rfl ?_
    refine gs_gtk rfl (by decide) rfl sh201.1 tx rfl rfl s218 ?_
    refine gz_s 2 (pc' := 111) (L' := [some (.ref x), some (.int (zi nw)), some (.int (zi nh)), some (.int (zi n)), some (.int (zi 1))]) (S' := [.ref x, .int (zi 8), .int (zi nh), .ref x]) rfl ?_
    refine gs_gtk rfl (by decide) rfl sh201.1 tx rfl rfl s221 ?_
    refine gy_s 1 (pc' := 115) (L' := [some (.ref x), some (.int (zi nw)), some (.int (zi nh)), some (.int (zi n)), some (.int (zi 1))]) (S' := [.int ((zi 8) * (zi zq138)), .int (zi nh), .ref x]) (L2 := [some (.ref x), some (.int (zi nw)), some (.int (zi nh)), some (.int (zi n)), some (.int (zi 1))]) (S2 := [.int (zi (8 * zq138)), .int (zi nh), .ref x]) rfl (by simp only [zi_add, zi_sub, zi_mul, zi_neg, zi_and1, zi_and7, zi_and15, zi_and31, zi_and255, Int.reduceAdd, Int.reduceMul, Int.reduceSub]) (by simp only [zi_add, zi_sub, zi_mul, zi_neg, zi_and1, zi_and7, zi_and15, zi_and31, zi_and255, Int.reduceAdd, Int.reduceMul, Int.reduceSub]) ?_
    refine gz_call rfl (by decide) rfl (by decide) (by decide) (gcal_of rfl rfl rfl (Nat.le_of_ble_eq_true rfl) rfl) (cl_DctFilter_upward _ sh201.1 nh (by omega) (8 * zq138) (by omega) ) (fun q222 _ wq222 => ?_)
    obtain ⟨pq222, oq222, hq222⟩ := q222
    obtain ⟨xq222, zq222, gq222, aq222, bq222, uq222_0⟩ := wq222
    refine ⟨_, gq222, ?_⟩
    show gz gPP gGG gcn _ _ 118 [some (.ref x), some (.int (zi nw)), some (.int (zi nh)), some (.int (zi n)), some (.int (zi 1))] [.int (zi zq222), .ref x] hq222 _
    have sq222 : gSs rT 1027 ty [54002, 54003, 54005, 54006, 54007, 54008, 54010, 54011, 54012, 54013, 82004, 82005, 82006, 82007, 82008, 83004, 83005, 83006, 83007, 83008, 84004, 84005, 84006, 84007, 84008, 112999, 113999] h hq222 := gSs.tr sh201 xq222 (by decide)
    have s223 := (xq222.2.2.2.2.2 x 0 (by rw [tx]; decide)).trans s202
    have s224 := (xq222.2.2.2.2.2 bn 0 (by rw [tbn]; decide)).trans s203
    have s225 := (xq222.2.2.2.2.2 bn 1 (by rw [tbn]; decide)).trans s204
    have s226 := (xq222.2.2.2.2.2 bn 2 (by rw [tbn]; decide)).trans s205
    have s227 := (xq222.2.2.2.2.2 x 2 (by rw [tx]; decide)).trans s206
    have s228 := (xq222.2.2.2.2.2 x 3 (by rw [tx]; decide)).trans s207
    have s229 := (xq222.2.2.2.2.2 b0 1 (by rw [tb0]; decide)).trans s208
    have s230 := (xq222.2.2.2.2.2 b0 2 (by rw [tb0]; decide)).trans s209
    have s231 := (xq222.2.2.2.2.2 b0 3 (by rw [tb0]; decide)).trans s210
    have s232 := (xq222.2.2.2.2.2 b1 1 (by rw [tb1]; decide)).trans s211
    have s233 := (xq222.2.2.2.2.2 b1 2 (by rw [tb1]; decide)).trans s212
    have s234 := (xq222.2.2.2.2.2 b1 3 (by rw [tb1]; decide)).trans s213
    have s235 := (xq222.2.2.2.2.2 b2 1 (by rw [tb2]; decide)).trans s214
    have s236 := (xq222.2.2.2.2.2 b2 2 (by rw [tb2]; decide)).trans s215
    have s237 := (xq222.2.2.2.2.2 b2 3 (by rw [tb2]; decide)).trans s216
    have s238 := (xq222.2.2.2.2.2 x 5 (by rw [tx]; decide)).trans s217
    have s239 := (xq222.2.2.2.2.2 x 6 (by rw [tx]; decide)).trans s218
    have s240 := (xq222.2.2.2.2.2 x 7 (by rw [tx]; decide)).trans s219
    have s241 := (xq222.2.2.2.2.2 x 10 (by rw [tx]; decide)).trans s220
    have s242 := (xq222.2.2.2.2.2 x 11 (by rw [tx]; decide)).trans s221
    have s243 := (xq222.2.2.2.2.2 x 12 (by rw [tx]; decide)).trans eh201
    refine gs_put rfl (by decide) rfl sq222 tx rfl rfl rfl rfl (Or.inl rfl) (by decide) (by omega) (by omega) (fun h244 sh244 eh244 fh244 => ?_)
    have s245 := (fh244 x 0 (fun q => absurd q.2 (by decide))).trans s223
    have s246 := (fh244 bn 0 (fun q => absurd (((tbn).symm.trans (congrArg ty q.1)).trans tx) (by decide))).trans s224
    have s247 := (fh244 bn 1 (fun q => absurd (((tbn).symm.trans (congrArg ty q.1)).trans tx) (by decide))).trans s225
    have s248 := (fh244 bn 2 (fun q => absurd (((tbn).symm.trans (congrArg ty q.1)).trans tx) (by decide))).trans s226
    have s249 := (fh244 x 2 (fun q => absurd q.2 (by decide))).trans s227
    have s250 := (fh244 x 3 (fun q => absurd q.2 (by decide))).trans s228
    have s251 := (fh244 b0 1 (fun q => absurd q.2 (by decide))).trans s229
    have s252 := (fh244 b0 2 (fun q => absurd q.2 (by decide))).trans s230
    have s253 := (fh244 b0 3 (fun q => absurd q.2 (by decide))).trans s231
    have s254 := (fh244 b1 1 (fun q => absurd q.2 (by decide))).trans s232
    have s255 := (fh244 b1 2 (fun q => absurd q.2 (by decide))).trans s233
    have s256 := (fh244 b1 3 (fun q => absurd q.2 (by decide))).trans s234
    have s257 := (fh244 b2 1 (fun q => absurd q.2 (by decide))).trans s235
    have s258 := (fh244 b2 2 (fun q => absurd q.2 (by decide))).trans s236
    have s259 := (fh244 b2 3 (fun q => absurd q.2 (by decide))).trans s237
    have s260 := (fh244 x 5 (fun q => absurd q.2 (by decide))).trans s238
    have s261 := (fh244 x 6 (fun q => absurd q.2 (by decide))).trans s239
    have s262 := (fh244 x 7 (fun q => absurd q.2 (by decide))).trans s240
    have s263 := (fh244 x 10 (fun q => absurd q.2 (by decide))).trans s241
    have s264 := (fh244 x 11 (fun q => absurd q.2 (by decide))).trans s242
    have s265 := (fh244 x 12 (fun q => absurd q.2 (by decide))).trans s243
    refine gz_s 2 (pc' := 123) (L' := [some (.ref x), some (.int (zi nw)), some (.int (zi nh)), some (.int (zi n)), some (.int (zi 1))]) (S' := [.int (zi 0), .ref x]) rfl ?_
    refine gs_put rfl (by decide) rfl sh244 tx rfl rfl rfl rfl (Or.inl rfl) (by decide) (by omega) (by omega) (fun h266 sh266 eh266 fh266 => ?_)
    have s267 := (fh266 x 0 (fun q => absurd q.2 (by decide))).trans s245
    have s268 := (fh266 bn 0 (fun q => absurd (((tbn).symm.trans (congrArg ty q.1)).trans tx) (by decide))).trans s246
    have s269 := (fh266 bn 1 (fun q => absurd (((tbn).symm.trans (congrArg ty q.1)).trans tx) (by decide))).trans s247
    have s270 := (fh266 bn 2 (fun q => absurd (((tbn).symm.trans (congrArg ty q.1)).trans tx) (by decide))).trans s248
    have s271 := (fh266 x 2 (fun q => absurd q.2 (by decide))).trans s249
    have s272 := (fh266 x 3 (fun q => absurd q.2 (by decide))).trans s250
    have s273 := (fh266 b0 1 (fun q => absurd q.2 (by decide))).trans s251
    have s274 := (fh266 b0 2 (fun q => absurd q.2 (by decide))).trans s252
    have s275 := (fh266 b0 3 (fun q => absurd q.2 (by decide))).trans s253
    have s276 := (fh266 b1 1 (fun q => absurd q.2 (by decide))).trans s254
    have s277 := (fh266 b1 2 (fun q => absurd q.2 (by decide))).trans s255
    have s278 := (fh266 b1 3 (fun q => absurd q.2 (by decide))).trans s256
    have s279 := (fh266 b2 1 (fun q => absurd q.2 (by decide))).trans s257
    have s280 := (fh266 b2 2 (fun q => absurd q.2 (by decide))).trans s258
    have s281 := (fh266 b2 3 (fun q => absurd q.2 (by decide))).trans s259
    have s282 := (fh266 x 5 (fun q => absurd q.2 (by decide))).trans s260
    have s283 := (fh266 x 6 (fun q => absurd q.2 (by decide))).trans s261
    have s284 := (fh266 x 7 (fun q => absurd q.2 (by decide))).trans s262
    have s285 := (fh266 x 10 (fun q => absurd q.2 (by decide))).trans s263
    have s286 := (fh266 x 11 (fun q => absurd q.2 (by decide))).trans s264
    have s287 := (fh266 x 12 (fun q => absurd q.2 (by decide))).trans s265
    have s288 := (fh266 x 13 (fun q => absurd q.2 (by decide))).trans eh244
    refine gz_s 4 (pc' := 132) (L' := [some (.ref x), some (.int (zi nw)), some (.int (zi nh)), some (.int (zi n)), some (.int (zi 0))]) (S' := [.ref x, .int (zi 0)]) rfl ?_
    refine gs_gtk rfl (by decide) rfl sh266.1 tx rfl rfl s284 ?_
    refine gy_icF rfl (by decide) (by decide) (by omega) (by omega) (by first | (simp [zc]; done) | (simp only [zc]; omega)) ?_
    refine gz_s 2 (pc' := 140) (L' := [some (.ref x), some (.int (zi nw)), some (.int (zi nh)), some (.int (zi n)), some (.int (zi 0))]) (S' := [.ref x, .ref x]) rfl ?_
    refine gs_gtk rfl (by decide) rfl sh266.1 tx rfl rfl s267 ?_
    refine gz_s 1 (pc' := 145) (L' := [some (.ref x), some (.int (zi nw)), some (.int (zi nh)), some (.int (zi n)), some (.int (zi 0))]) (S' := [.int (zi 0), .ref bn, .ref x]) rfl ?_
    have he291 : (0 : Int) = 0 := by omega
    refine gs_aak (j := 0) rfl (by decide) sh266.1 tbn rfl rfl rfl (by decide) he291 (by decide) s268 ?_
    refine gz_call rfl (by decide) rfl (by decide) (by decide) (gcal_of rfl rfl rfl (Nat.le_of_ble_eq_true rfl) (gJ.recv (G := gGG) sh266.1 tx rfl rfl)) (cl_placeBand0 _ sh266.1 x tx b0 tb0 zq180 s287 (by omega) zq222 s288 (by omega) 0 eh266 (by omega) nw s282 (by omega) nh s283 (by omega) zq94 s285 (by omega) zq138 s286 (by omega) hb0 s273 (by omega) vb0 s274 (by omega) (by omega) (by omega) (by omega) (by omega) uq) (fun q292 _ wq292 => ?_)
    obtain ⟨pq292, oq292, hq292⟩ := q292
    obtain ⟨xq292, fq292_0, fq292_1, fq292_2, fq292_3, fq292_4, fq292_5, gq292, efq292_0, afq292_0, bfq292_0, efq292_1, afq292_1, bfq292_1, efq292_2, afq292_2, bfq292_2, efq292_3, afq292_3, bfq292_3, efq292_4, afq292_4, bfq292_4, efq292_5, afq292_5, bfq292_5, uq292_0, uq292_1, uq292_2, uq292_3, uq292_4, uq292_5, uq292_6, uq292_7, uq292_8, uq292_9, uq292_10, uq292_11⟩ := wq292
    refine ⟨_, gq292, ?_⟩
    show gz gPP gGG gcn _ _ 149 [some (.ref x), some (.int (zi nw)), some (.int (zi nh)), some (.int (zi n)), some (.int (zi 0))] [] hq292 _
    have sq292 : gSs rT 1027 ty [54002, 54003, 54005, 54006, 54007, 54008, 54010, 54011, 54012, 54013, 82004, 82005, 82006, 82007, 82008, 83004, 83005, 83006, 83007, 83008, 84004, 84005, 84006, 84007, 84008, 112999, 113999] h hq292 := gSs.tr sh266 xq292 (by decide)
    have s293 := (xq292.2.2.2.2.2 x 0 (by rw [tx]; decide)).trans s267
    have s294 := (xq292.2.2.2.2.2 bn 0 (by rw [tbn]; decide)).trans s268
    have s295 := (xq292.2.2.2.2.2 bn 1 (by rw [tbn]; decide)).trans s269
    have s296 := (xq292.2.2.2.2.2 bn 2 (by rw [tbn]; decide)).trans s270
    have s297 := (xq292.2.2.2.2.2 x 2 (by rw [tx]; decide)).trans s271
    have s298 := (xq292.2.2.2.2.2 x 3 (by rw [tx]; decide)).trans s272
    have s299 := (xq292.2.2.2.2.2 b0 1 (by rw [tb0]; decide)).trans s273
    have s300 := (xq292.2.2.2.2.2 b0 2 (by rw [tb0]; decide)).trans s274
    have s301 := (xq292.2.2.2.2.2 b0 3 (by rw [tb0]; decide)).trans s275
    have s302 := (xq292.2.2.2.2.2 b1 1 (by rw [tb1]; decide)).trans s276
    have s303 := (xq292.2.2.2.2.2 b1 2 (by rw [tb1]; decide)).trans s277
    have s304 := (xq292.2.2.2.2.2 b1 3 (by rw [tb1]; decide)).trans s278
    have s305 := (xq292.2.2.2.2.2 b2 1 (by rw [tb2]; decide)).trans s279
    have s306 := (xq292.2.2.2.2.2 b2 2 (by rw [tb2]; decide)).trans s280
    have s307 := (xq292.2.2.2.2.2 b2 3 (by rw [tb2]; decide)).trans s281
    have s308 := (xq292.2.2.2.2.2 x 5 (by rw [tx]; decide)).trans s282
    have s309 := (xq292.2.2.2.2.2 x 6 (by rw [tx]; decide)).trans s283
    have s310 := (xq292.2.2.2.2.2 x 7 (by rw [tx]; decide)).trans s284
    have s311 := (xq292.2.2.2.2.2 x 10 (by rw [tx]; decide)).trans s285
    have s312 := (xq292.2.2.2.2.2 x 11 (by rw [tx]; decide)).trans s286
    have s313 := (xq292.2.2.2.2.2 x 12 (by rw [tx]; decide)).trans s287
    have s314 := (xq292.2.2.2.2.2 x 13 (by rw [tx]; decide)).trans s288
    refine gy_s 4 (pc' := 132) (L' := [some (.ref x), some (.int (zi nw)), some (.int (zi nh)), some (.int (zi n)), some (.int ((zi 0) + zi 1))]) (S' := [.ref x, .int ((zi 0) + zi 1)]) (L2 := [some (.ref x), some (.int (zi nw)), some (.int (zi nh)), some (.int (zi n)), some (.int (zi 1))]) (S2 := [.ref x, .int (zi 1)]) rfl (by simp only [zi_add, zi_sub, zi_mul, zi_neg, zi_and1, zi_and7, zi_and15, zi_and31, zi_and255, Int.reduceAdd, Int.reduceMul, Int.reduceSub]) (by simp only [zi_add, zi_sub, zi_mul, zi_neg, zi_and1, zi_and7, zi_and15, zi_and31, zi_and255, Int.reduceAdd, Int.reduceMul, Int.reduceSub]) ?_
    refine gs_gtk rfl (by decide) rfl sq292.1 tx rfl rfl s310 ?_
    refine gy_icT (pc' := 155) rfl (by decide) (by decide) (by omega) (by omega) (by first | (simp [zc]; done) | (simp only [zc]; omega)) ?_
    refine gz_s 1 (pc' := 156) (L' := [some (.ref x), some (.int (zi nw)), some (.int (zi nh)), some (.int (zi n)), some (.int (zi 1))]) (S' := [.ref x]) rfl ?_
    have k315 := sq292.2.1
    have k315b := sq292.2.2.1
    have hl316 : hq292.2.2.2.1 co = h.2.2.2.1 co := congrFun sq292.2.2.2.2.1 co
    have hl317 : hq292.2.2.2.1 dm = h.2.2.2.1 dm := congrFun sq292.2.2.2.2.1 dm
    have hl318 : hq292.2.2.2.1 co = h.2.2.2.1 co := congrFun sq292.2.2.2.2.1 co
    have hl319 : hq292.2.2.2.1 dm = h.2.2.2.1 dm := congrFun sq292.2.2.2.2.1 dm
    refine gz_call rfl (by decide) rfl (by decide) (by decide) (gcal_of rfl rfl rfl (Nat.le_of_ble_eq_true rfl) (gJ.recv (G := gGG) sq292.1 tx rfl rfl)) (cl_Picture_clearBlocks _ sq292.1 x tx co s297 tco dm s298 tdm fq292_5 efq292_5 (by omega) (by omega) uq) (fun q320 _ wq320 => ?_)
    obtain ⟨pq320, oq320, hq320⟩ := q320
    obtain ⟨tyq320, xq320, cq320_0, cq320_1, ttq320, ecq320_0, tcq320_0, ecq320_1, tcq320_1, gq320, uq320_0, uq320_1, uq320_2, uq320_3, uq320_4⟩ := wq320
    dsimp only at uq320_0 uq320_1 uq320_2 uq320_3 uq320_4
    refine ⟨_, gq320, ?_⟩
    show gz gPP gGG gcn _ _ 159 [some (.ref x), some (.int (zi nw)), some (.int (zi nh)), some (.int (zi n)), some (.int (zi 1))] [] hq320 _
    have G321 : gSg [112, 113] [] [54002, 54003, 54005, 54006, 54007, 54008, 54010, 54011, 54012, 54013, 82004, 82005, 82006, 82007, 82008, 83004, 83005, 83006, 83007, 83008, 84004, 84005, 84006, 84007, 84008, 112999, 113999] ty h tyq320 hq320 := gSg.tr (gSg.ss G0 sq292 (by decide)) xq320 (by decide) (by decide) (fun x hx => by cases hx)
    have t322 : tyq320 x = 54 := gSg.typ xq320 sq292.1 tx rfl
    have t323 : tyq320 bn = 57 := gSg.typ xq320 sq292.1 tbn rfl
    have t324 : tyq320 b0 = 82 := gSg.typ xq320 sq292.1 tb0 rfl
    have t325 : tyq320 b1 = 83 := gSg.typ xq320 sq292.1 tb1 rfl
    have t326 : tyq320 b2 = 84 := gSg.typ xq320 sq292.1 tb2 rfl
    have t327 : tyq320 co = 112 := gSg.typ xq320 sq292.1 tco rfl
    have hl328 : hq320.2.2.2.1 co = hq292.2.2.2.1 co := gSg.len xq320 sq292.1 tco rfl
    have t329 : tyq320 dm = 113 := gSg.typ xq320 sq292.1 tdm rfl
    have hl330 : hq320.2.2.2.1 dm = hq292.2.2.2.1 dm := gSg.len xq320 sq292.1 tdm rfl
    have s331 := gSg.at xq320 sq292.1 tx rfl (by decide) s293
    have s332 := gSg.at xq320 sq292.1 tbn rfl (by decide) s294
    have s333 := gSg.at xq320 sq292.1 tbn rfl (by decide) s295
    have s334 := gSg.at xq320 sq292.1 tbn rfl (by decide) s296
    have s335 := gSg.at xq320 sq292.1 tb0 rfl (by decide) s299
    have s336 := gSg.at xq320 sq292.1 tb0 rfl (by decide) s300
    have s337 := gSg.at xq320 sq292.1 tb0 rfl (by decide) s301
    have s338 := gSg.at xq320 sq292.1 tb1 rfl (by decide) s302
    have s339 := gSg.at xq320 sq292.1 tb1 rfl (by decide) s303
    have s340 := gSg.at xq320 sq292.1 tb1 rfl (by decide) s304
    have s341 := gSg.at xq320 sq292.1 tb2 rfl (by decide) s305
    have s342 := gSg.at xq320 sq292.1 tb2 rfl (by decide) s306
    have s343 := gSg.at xq320 sq292.1 tb2 rfl (by decide) s307
    have s344 := gSg.at xq320 sq292.1 tx rfl (by decide) s308
    have s345 := gSg.at xq320 sq292.1 tx rfl (by decide) s309
    have s346 := gSg.at xq320 sq292.1 tx rfl (by decide) s310
    have s347 := gSg.at xq320 sq292.1 tx rfl (by decide) s311
    have s348 := gSg.at xq320 sq292.1 tx rfl (by decide) s312
    have s349 := gSg.at xq320 sq292.1 tx rfl (by decide) s313
    have s350 := gSg.at xq320 sq292.1 tx rfl (by decide) s314
    have s351 := gSg.at xq320 sq292.1 tb0 rfl (by decide) efq292_0
    have s352 := gSg.at xq320 sq292.1 tb0 rfl (by decide) efq292_1
    have s353 := gSg.at xq320 sq292.1 tb0 rfl (by decide) efq292_2
    have s354 := gSg.at xq320 sq292.1 tb0 rfl (by decide) efq292_3
    have s355 := gSg.at xq320 sq292.1 tb0 rfl (by decide) efq292_4
    have s356 := gSg.at xq320 sq292.1 tx rfl (by decide) efq292_5
    have uq357 := gSg.uq xq320 uq (by decide)
    have sS358 : gSs rT 1027 tyq320 [54002, 54003, 54005, 54006, 54007, 54008, 54010, 54011, 54012, 54013, 82004, 82005, 82006, 82007, 82008, 83004, 83005, 83006, 83007, 83008, 84004, 84005, 84006, 84007, 84008, 112999, 113999] hq320 hq320 := gSs.rf xq320.1
    have hl359 : 0 ≤ hq320.2.2.2.1 co ∧ hq320.2.2.2.1 co ≤ 12288 := gJ.rowl (G := gGG) sS358.1 t327 rfl
    have hl360 : 0 ≤ hq320.2.2.2.1 dm ∧ hq320.2.2.2.1 dm ≤ 192 := gJ.rowl (G := gGG) sS358.1 t329 rfl
    have hl361 : 0 ≤ hq320.2.2.2.1 cq320_0 ∧ hq320.2.2.2.1 cq320_0 ≤ 12288 := gJ.rowl (G := gGG) sS358.1 tcq320_0 rfl
    have hl362 : 0 ≤ hq320.2.2.2.1 cq320_1 ∧ hq320.2.2.2.1 cq320_1 ≤ 192 := gJ.rowl (G := gGG) sS358.1 tcq320_1 rfl
    obtain ⟨z363, ez363, az363, bz363⟩ := gJ.int (k := 4) (G := gGG) sS358.1 t325 rfl rfl rfl
    obtain ⟨z364, ez364, az364, bz364⟩ := gJ.int (k := 5) (G := gGG) sS358.1 t325 rfl rfl rfl
    obtain ⟨z365, ez365, az365, bz365⟩ := gJ.int (k := 6) (G := gGG) sS358.1 t325 rfl rfl rfl
    obtain ⟨z366, ez366, az366, bz366⟩ := gJ.int (k := 7) (G := gGG) sS358.1 t325 rfl rfl rfl
    obtain ⟨z367, ez367, az367, bz367⟩ := gJ.int (k := 8) (G := gGG) sS358.1 t325 rfl rfl rfl
    obtain ⟨z368, ez368, az368, bz368⟩ := gJ.int (k := 4) (G := gGG) sS358.1 t326 rfl rfl rfl
    obtain ⟨z369, ez369, az369, bz369⟩ := gJ.int (k := 5) (G := gGG) sS358.1 t326 rfl rfl rfl
    obtain ⟨z370, ez370, az370, bz370⟩ := gJ.int (k := 6) (G := gGG) sS358.1 t326 rfl rfl rfl
    obtain ⟨z371, ez371, az371, bz371⟩ := gJ.int (k := 7) (G := gGG) sS358.1 t326 rfl rfl rfl
    obtain ⟨z372, ez372, az372, bz372⟩ := gJ.int (k := 8) (G := gGG) sS358.1 t326 rfl rfl rfl
    have hpc373 : gPC tyq320 x b0 b1 b2 (hq320.2.2.2.1 cq320_1 : Int) hq320 := gPC.mk ⟨t322, t324, t325, t326⟩ ⟨t323, tcq320_0, tcq320_1⟩ ⟨s331, s332, s333, s334, ecq320_0, ecq320_1⟩ s346 s349 s350 s356 s344 s345 s347 s348 s335 s336 s337 s351 s352 s353 s354 s355 s338 s339 s340 ez363 ez364 ez365 ez366 ez367 s341 s342 s343 ez368 ez369 ez370 ez371 ez372 ⟨by omega, by omega⟩ ⟨by omega, by omega⟩ ⟨by omega, by omega⟩ ⟨by omega, by omega⟩ ⟨by omega, by omega⟩ ⟨by omega, by omega⟩ ⟨by omega, by omega⟩ ⟨by omega, by omega⟩ ⟨by omega, by omega⟩ ⟨by omega, by omega⟩ ⟨by omega, by omega⟩ ⟨by omega, by omega⟩ ⟨by omega, by omega⟩ ⟨by omega, by omega⟩ ⟨by omega, by omega⟩ ⟨by omega, by omega⟩ ⟨by omega, by omega⟩ ⟨by omega, by omega⟩ ⟨by omega, by omega⟩ ⟨by omega, by omega⟩ ⟨by omega, by omega⟩ ⟨by omega, by omega⟩ ⟨by omega, by omega⟩ ⟨by omega, by omega⟩ ⟨by omega, by omega⟩ ⟨by omega, by omega⟩ ⟨by omega, by omega⟩ ⟨by omega, by omega⟩ ⟨by omega, by omega⟩ ⟨by omega, by omega⟩ ⟨by omega, by omega⟩ ⟨by omega, by omega⟩ (fun w => by unfold gPq; (repeat' apply And.intro) <;> omega) (fun w => by unfold gPq; (repeat' apply And.intro) <;> omega) (fun w => by unfold gPq; (repeat' apply And.intro) <;> omega) (fun w => by (repeat' apply And.intro) <;> omega) (fun w => by (repeat' apply And.intro) <;> omega) (fun w => by (repeat' apply And.intro) <;> omega) (fun w => by (repeat' apply And.intro) <;> omega) (fun w => by (repeat' apply And.intro) <;> omega) (by omega) (by omega) (by omega) (by omega)
    have G374 : gSg [112, 113] [] [54002, 54003, 54005, 54006, 54007, 54008, 54010, 54011, 54012, 54013, 82004, 82005, 82006, 82007, 82008, 83004, 83005, 83006, 83007, 83008, 84004, 84005, 84006, 84007, 84008, 112999, 113999] ty h tyq320 hq320 := gSg.ss G321 sS358 (by decide)
    exact gz_end (I := .return_) (len := 1) rfl (Or.inl rfl) ⟨tyq320, G374, n, (hq320.2.2.2.1 cq320_1 : Int), rfl, s346, (by omega), (by omega), (by omega), (by omega), (by omega), (by dsimp only; omega), (by dsimp only; omega), (by omega), hpc373⟩
  · refine gy_icF rfl (by decide) (by decide) (by omega) (by omega) hc179 ?_
    refine gz_s 2 (pc' := 39) (L' := [some (.ref x), some (.int (zi nw)), some (.int (zi nh)), some (.int (zi n)), some (.int (zi 1))]) (S' := [.ref x, .ref x]) rfl ?_
    refine gs_gtk rfl (by decide) rfl sh159.1 tx rfl rfl s178 ?_
    refine gz_s 1 (pc' := 43) (L' := [some (.ref x), some (.int (zi nw)), some (.int (zi nh)), some (.int (zi n)), some (.int (zi 1))]) (S' := [.ref x, .int (zi zq94), .ref x]) rfl ?_
    refine gs_gtk rfl (by decide) rfl sh159.1 tx rfl rfl s160 ?_
    refine gz_s 1 (pc' := 48) (L' := [some (.ref x), some (.int (zi nw)), some (.int (zi nh)), some (.int (zi n)), some (.int (zi 1))]) (S' := [.int (zi 1), .ref bn, .int (zi zq94), .ref x]) rfl ?_
    have he377 : (1 : Int) = 1 := by omega
    refine gs_aak (j := 1) rfl (by decide) sh159.1 tbn rfl rfl rfl (by decide) he377 (by decide) s162 ?_
    refine gs_gtk rfl (by decide) rfl sh159.1 tb1 rfl rfl s169 ?_
    refine gz_call rfl (by decide) rfl (by decide) (by decide) (gcal_of rfl rfl rfl (Nat.le_of_ble_eq_true rfl) rfl) (cl_Math_max _ sh159.1 zq94 (by omega) hb1 (by omega) ) (fun q378 _ wq378 => ?_)
    obtain ⟨pq378, oq378, hq378⟩ := q378
    obtain ⟨xq378, zq378, gq378, aq378, bq378, uq378_0, uq378_1, uq378_2⟩ := wq378
    refine ⟨_, gq378, ?_⟩
    show gz gPP gGG gcn _ _ 55 [some (.ref x), some (.int (zi nw)), some (.int (zi nh)), some (.int (zi n)), some (.int (zi 1))] [.int (zi zq378), .ref x] hq378 _
    have sq378 : gSs rT 1027 ty [54002, 54003, 54005, 54006, 54007, 54008, 54010, 54011, 54012, 54013, 82004, 82005, 82006, 82007, 82008, 83004, 83005, 83006, 83007, 83008, 84004, 84005, 84006, 84007, 84008, 112999, 113999] h hq378 := gSs.tr sh159 xq378 (by decide)
    have s379 := (xq378.2.2.2.2.2 x 0 (by rw [tx]; decide)).trans s160
    have s380 := (xq378.2.2.2.2.2 bn 0 (by rw [tbn]; decide)).trans s161
    have s381 := (xq378.2.2.2.2.2 bn 1 (by rw [tbn]; decide)).trans s162
    have s382 := (xq378.2.2.2.2.2 bn 2 (by rw [tbn]; decide)).trans s163
    have s383 := (xq378.2.2.2.2.2 x 2 (by rw [tx]; decide)).trans s164
    have s384 := (xq378.2.2.2.2.2 x 3 (by rw [tx]; decide)).trans s165
    have s385 := (xq378.2.2.2.2.2 b0 1 (by rw [tb0]; decide)).trans s166
    have s386 := (xq378.2.2.2.2.2 b0 2 (by rw [tb0]; decide)).trans s167
    have s387 := (xq378.2.2.2.2.2 b0 3 (by rw [tb0]; decide)).trans s168
    have s388 := (xq378.2.2.2.2.2 b1 1 (by rw [tb1]; decide)).trans s169
    have s389 := (xq378.2.2.2.2.2 b1 2 (by rw [tb1]; decide)).trans s170
    have s390 := (xq378.2.2.2.2.2 b1 3 (by rw [tb1]; decide)).trans s171
    have s391 := (xq378.2.2.2.2.2 b2 1 (by rw [tb2]; decide)).trans s172
    have s392 := (xq378.2.2.2.2.2 b2 2 (by rw [tb2]; decide)).trans s173
    have s393 := (xq378.2.2.2.2.2 b2 3 (by rw [tb2]; decide)).trans s174
    have s394 := (xq378.2.2.2.2.2 x 5 (by rw [tx]; decide)).trans s175
    have s395 := (xq378.2.2.2.2.2 x 6 (by rw [tx]; decide)).trans s176
    have s396 := (xq378.2.2.2.2.2 x 7 (by rw [tx]; decide)).trans s177
    have s397 := (xq378.2.2.2.2.2 x 10 (by rw [tx]; decide)).trans s178
    have s398 := (xq378.2.2.2.2.2 x 11 (by rw [tx]; decide)).trans eh159
    refine gs_put rfl (by decide) rfl sq378 tx rfl rfl rfl rfl (Or.inl rfl) (by decide) (by omega) (by omega) (fun h399 sh399 eh399 fh399 => ?_)
    have s400 := (fh399 x 0 (fun q => absurd q.2 (by decide))).trans s379
    have s401 := (fh399 bn 0 (fun q => absurd (((tbn).symm.trans (congrArg ty q.1)).trans tx) (by decide))).trans s380
    have s402 := (fh399 bn 1 (fun q => absurd (((tbn).symm.trans (congrArg ty q.1)).trans tx) (by decide))).trans s381
    have s403 := (fh399 bn 2 (fun q => absurd (((tbn).symm.trans (congrArg ty q.1)).trans tx) (by decide))).trans s382
    have s404 := (fh399 x 2 (fun q => absurd q.2 (by decide))).trans s383
    have s405 := (fh399 x 3 (fun q => absurd q.2 (by decide))).trans s384
    have s406 := (fh399 b0 1 (fun q => absurd q.2 (by decide))).trans s385
    have s407 := (fh399 b0 2 (fun q => absurd q.2 (by decide))).trans s386
    have s408 := (fh399 b0 3 (fun q => absurd q.2 (by decide))).trans s387
    have s409 := (fh399 b1 1 (fun q => absurd q.2 (by decide))).trans s388
    have s410 := (fh399 b1 2 (fun q => absurd q.2 (by decide))).trans s389
    have s411 := (fh399 b1 3 (fun q => absurd q.2 (by decide))).trans s390
    have s412 := (fh399 b2 1 (fun q => absurd q.2 (by decide))).trans s391
    have s413 := (fh399 b2 2 (fun q => absurd q.2 (by decide))).trans s392
    have s414 := (fh399 b2 3 (fun q => absurd q.2 (by decide))).trans s393
    have s415 := (fh399 x 5 (fun q => absurd q.2 (by decide))).trans s394
    have s416 := (fh399 x 6 (fun q => absurd q.2 (by decide))).trans s395
    have s417 := (fh399 x 7 (fun q => absurd q.2 (by decide))).trans s396
    have s418 := (fh399 x 11 (fun q => absurd q.2 (by decide))).trans s398
    refine gz_s 2 (pc' := 60) (L' := [some (.ref x), some (.int (zi nw)), some (.int (zi nh)), some (.int (zi n)), some (.int (zi 1))]) (S' := [.ref x, .ref x]) rfl ?_
    refine gs_gtk rfl (by decide) rfl sh399.1 tx rfl rfl s418 ?_
    refine gz_s 1 (pc' := 64) (L' := [some (.ref x), some (.int (zi nw)), some (.int (zi nh)), some (.int (zi n)), some (.int (zi 1))]) (S' := [.ref x, .int (zi zq138), .ref x]) rfl ?_
    refine gs_gtk rfl (by decide) rfl sh399.1 tx rfl rfl s400 ?_
    refine gz_s 1 (pc' := 69) (L' := [some (.ref x), some (.int (zi nw)), some (.int (zi nh)), some (.int (zi n)), some (.int (zi 1))]) (S' := [.int (zi 1), .ref bn, .int (zi zq138), .ref x]) rfl ?_
    have he421 : (1 : Int) = 1 := by omega
    refine gs_aak (j := 1) rfl (by decide) sh399.1 tbn rfl rfl rfl (by decide) he421 (by decide) s402 ?_
    refine gs_gtk rfl (by decide) rfl sh399.1 tb1 rfl rfl s410 ?_
    refine gz_call rfl (by decide) rfl (by decide) (by decide) (gcal_of rfl rfl rfl (Nat.le_of_ble_eq_true rfl) rfl) (cl_Math_max _ sh399.1 zq138 (by omega) vb1 (by omega) ) (fun q422 _ wq422 => ?_)
    obtain ⟨pq422, oq422, hq422⟩ := q422
    obtain ⟨xq422, zq422, gq422, aq422, bq422, uq422_0, uq422_1, uq422_2⟩ := wq422
    refine ⟨_, gq422, ?_⟩
    show gz gPP gGG gcn _ _ 76 [some (.ref x), some (.int (zi nw)), some (.int (zi nh)), some (.int (zi n)), some (.int (zi 1))] [.int (zi zq422), .ref x] hq422 _
    have sq422 : gSs rT 1027 ty [54002, 54003, 54005, 54006, 54007, 54008, 54010, 54011, 54012, 54013, 82004, 82005, 82006, 82007, 82008, 83004, 83005, 83006, 83007, 83008, 84004, 84005, 84006, 84007, 84008, 112999, 113999] h hq422 := gSs.tr sh399 xq422 (by decide)
    have s423 := (xq422.2.2.2.2.2 x 0 (by rw [tx]; decide)).trans s400
    have s424 := (xq422.2.2.2.2.2 bn 0 (by rw [tbn]; decide)).trans s401
    have s425 := (xq422.2.2.2.2.2 bn 1 (by rw [tbn]; decide)).trans s402
    have s426 := (xq422.2.2.2.2.2 bn 2 (by rw [tbn]; decide)).trans s403
    have s427 := (xq422.2.2.2.2.2 x 2 (by rw [tx]; decide)).trans s404
    have s428 := (xq422.2.2.2.2.2 x 3 (by rw [tx]; decide)).trans s405
    have s429 := (xq422.2.2.2.2.2 b0 1 (by rw [tb0]; decide)).trans s406
    have s430 := (xq422.2.2.2.2.2 b0 2 (by rw [tb0]; decide)).trans s407
    have s431 := (xq422.2.2.2.2.2 b0 3 (by rw [tb0]; decide)).trans s408
    have s432 := (xq422.2.2.2.2.2 b1 1 (by rw [tb1]; decide)).trans s409
    have s433 := (xq422.2.2.2.2.2 b1 2 (by rw [tb1]; decide)).trans s410
    have s434 := (xq422.2.2.2.2.2 b1 3 (by rw [tb1]; decide)).trans s411
    have s435 := (xq422.2.2.2.2.2 b2 1 (by rw [tb2]; decide)).trans s412
    have s436 := (xq422.2.2.2.2.2 b2 2 (by rw [tb2]; decide)).trans s413
    have s437 := (xq422.2.2.2.2.2 b2 3 (by rw [tb2]; decide)).trans s414
    have s438 := (xq422.2.2.2.2.2 x 5 (by rw [tx]; decide)).trans s415
    have s439 := (xq422.2.2.2.2.2 x 6 (by rw [tx]; decide)).trans s416
    have s440 := (xq422.2.2.2.2.2 x 7 (by rw [tx]; decide)).trans s417
    have s441 := (xq422.2.2.2.2.2 x 11 (by rw [tx]; decide)).trans s418
    have s442 := (xq422.2.2.2.2.2 x 10 (by rw [tx]; decide)).trans eh399
    refine gs_put rfl (by decide) rfl sq422 tx rfl rfl rfl rfl (Or.inl rfl) (by decide) (by omega) (by omega) (fun h443 sh443 eh443 fh443 => ?_)
    have s444 := (fh443 x 0 (fun q => absurd q.2 (by decide))).trans s423
    have s445 := (fh443 bn 0 (fun q => absurd (((tbn).symm.trans (congrArg ty q.1)).trans tx) (by decide))).trans s424
    have s446 := (fh443 bn 1 (fun q => absurd (((tbn).symm.trans (congrArg ty q.1)).trans tx) (by decide))).trans s425
    have s447 := (fh443 bn 2 (fun q => absurd (((tbn).symm.trans (congrArg ty q.1)).trans tx) (by decide))).trans s426
    have s448 := (fh443 x 2 (fun q => absurd q.2 (by decide))).trans s427
    have s449 := (fh443 x 3 (fun q => absurd q.2 (by decide))).trans s428
    have s450 := (fh443 b0 1 (fun q => absurd q.2 (by decide))).trans s429
    have s451 := (fh443 b0 2 (fun q => absurd q.2 (by decide))).trans s430
    have s452 := (fh443 b0 3 (fun q => absurd q.2 (by decide))).trans s431
    have s453 := (fh443 b1 1 (fun q => absurd q.2 (by decide))).trans s432
    have s454 := (fh443 b1 2 (fun q => absurd q.2 (by decide))).trans s433
    have s455 := (fh443 b1 3 (fun q => absurd q.2 (by decide))).trans s434
    have s456 := (fh443 b2 1 (fun q => absurd q.2 (by decide))).trans s435
    have s457 := (fh443 b2 2 (fun q => absurd q.2 (by decide))).trans s436
    have s458 := (fh443 b2 3 (fun q => absurd q.2 (by decide))).trans s437
    have s459 := (fh443 x 5 (fun q => absurd q.2 (by decide))).trans s438
    have s460 := (fh443 x 6 (fun q => absurd q.2 (by decide))).trans s439
    have s461 := (fh443 x 7 (fun q => absurd q.2 (by decide))).trans s440
    have s462 := (fh443 x 10 (fun q => absurd q.2 (by decide))).trans s442
    refine gy_s 4 (pc' := 31) (L' := [some (.ref x), some (.int (zi nw)), some (.int (zi nh)), some (.int (zi n)), some (.int ((zi 1) + zi 1))]) (S' := [.ref x, .int ((zi 1) + zi 1)]) (L2 := [some (.ref x), some (.int (zi nw)), some (.int (zi nh)), some (.int (zi n)), some (.int (zi 2))]) (S2 := [.ref x, .int (zi 2)]) rfl (by simp only [zi_add, zi_sub, zi_mul, zi_neg, zi_and1, zi_and7, zi_and15, zi_and31, zi_and255, Int.reduceAdd, Int.reduceMul, Int.reduceSub]) (by simp only [zi_add, zi_sub, zi_mul, zi_neg, zi_and1, zi_and7, zi_and15, zi_and31, zi_and255, Int.reduceAdd, Int.reduceMul, Int.reduceSub]) ?_
    refine gs_gtk rfl (by decide) rfl sh443.1 tx rfl rfl s461 ?_
    by_cases hc463 : (n : Int) ≤ 2
    · refine gy_icT (pc' := 85) rfl (by decide) (by decide) (by omega) (by omega) hc463 ?_
      have hz1 := zup8 (w := nw) (wd := zq378) (by omega) (by omega)
      refine gz_s 2 (pc' := 87) (L' := [some (.ref x), some (.int (zi nw)), some (.int (zi nh)), some (.int (zi n)), some (.int (zi 2))]) (S' := [.ref x, .ref x]) rfl ?_
      refine gs_gtk rfl (by decide) rfl sh443.1 tx rfl rfl s459 ?_
      refine gz_s 2 (pc' := 93) (L' := [some (.ref x), some (.int (zi nw)), some (.int (zi nh)), some (.int (zi n)), some (.int (zi 2))]) (S' := [.ref x, .int (zi 8), .int (zi nw), .ref x]) rfl ?_
      refine gs_gtk rfl (by decide) rfl sh443.1 tx rfl rfl s462 ?_
      refine gy_s 1 (pc' := 97) (L' := [some (.ref x), some (.int (zi nw)), some (.int (zi nh)), some (.int (zi n)), some (.int (zi 2))]) (S' := [.int ((zi 8) * (zi zq378)), .int (zi nw), .ref x]) (L2 := [some (.ref x), some (.int (zi nw)), some (.int (zi nh)), some (.int (zi n)), some (.int (zi 2))]) (S2 := [.int (zi (8 * zq378)), .int (zi nw), .ref x]) rfl (by simp only [zi_add, zi_sub, zi_mul, zi_neg, zi_and1, zi_and7, zi_and15, zi_and31, zi_and255, Int.reduceAdd, Int.reduceMul, Int.reduceSub]) (by simp only [zi_add, zi_sub, zi_mul, zi_neg, zi_and1, zi_and7, zi_and15, zi_and31, zi_and255, Int.reduceAdd, Int.reduceMul, Int.reduceSub]) ?_
      refine gz_call rfl (by decide) rfl (by decide) (by decide) (gcal_of rfl rfl rfl (Nat.le_of_ble_eq_true rfl) rfl) (cl_DctFilter_upward _ sh443.1 nw (by omega) (8 * zq378) (by omega) ) (fun q464 _ wq464 => ?_)
      obtain ⟨pq464, oq464, hq464⟩ := q464
      obtain ⟨xq464, zq464, gq464, aq464, bq464, uq464_0⟩ := wq464
      refine ⟨_, gq464, ?_⟩
      show gz gPP gGG gcn _ _ 100 [some (.ref x), some (.int (zi nw)), some (.int (zi nh)), some (.int (zi n)), some (.int (zi 2))] [.int (zi zq464), .ref x] hq464 _
      have sq464 : gSs rT 1027 ty [54002, 54003, 54005, 54006, 54007, 54008, 54010, 54011, 54012, 54013, 82004, 82005, 82006, 82007, 82008, 83004, 83005, 83006, 83007, 83008, 84004, 84005, 84006, 84007, 84008, 112999, 113999] h hq464 := gSs.tr sh443 xq464 (by decide)
      have s465 := (xq464.2.2.2.2.2 x 0 (by rw [tx]; decide)).trans s444
      have s466 := (xq464.2.2.2.2.2 bn 0 (by rw [tbn]; decide)).trans s445
      have s467 := (xq464.2.2.2.2.2 bn 1 (by rw [tbn]; decide)).trans s446
      have s468 := (xq464.2.2.2.2.2 bn 2 (by rw [tbn]; decide)).trans s447
      have s469 := (xq464.2.2.2.2.2 x 2 (by rw [tx]; decide)).trans s448
      have s470 := (xq464.2.2.2.2.2 x 3 (by rw [tx]; decide)).trans s449
      have s471 := (xq464.2.2.2.2.2 b0 1 (by rw [tb0]; decide)).trans s450
      have s472 := (xq464.2.2.2.2.2 b0 2 (by rw [tb0]; decide)).trans s451
      have s473 := (xq464.2.2.2.2.2 b0 3 (by rw [tb0]; decide)).trans s452
      have s474 := (xq464.2.2.2.2.2 b1 1 (by rw [tb1]; decide)).trans s453
      have s475 := (xq464.2.2.2.2.2 b1 2 (by rw [tb1]; decide)).trans s454
      have s476 := (xq464.2.2.2.2.2 b1 3 (by rw [tb1]; decide)).trans s455
      have s477 := (xq464.2.2.2.2.2 b2 1 (by rw [tb2]; decide)).trans s456
      have s478 := (xq464.2.2.2.2.2 b2 2 (by rw [tb2]; decide)).trans s457
      have s479 := (xq464.2.2.2.2.2 b2 3 (by rw [tb2]; decide)).trans s458
      have s480 := (xq464.2.2.2.2.2 x 5 (by rw [tx]; decide)).trans s459
      have s481 := (xq464.2.2.2.2.2 x 6 (by rw [tx]; decide)).trans s460
      have s482 := (xq464.2.2.2.2.2 x 7 (by rw [tx]; decide)).trans s461
      have s483 := (xq464.2.2.2.2.2 x 10 (by rw [tx]; decide)).trans s462
      have s484 := (xq464.2.2.2.2.2 x 11 (by rw [tx]; decide)).trans eh443
      refine gs_put rfl (by decide) rfl sq464 tx rfl rfl rfl rfl (Or.inl rfl) (by decide) (by omega) (by omega) (fun h485 sh485 eh485 fh485 => ?_)
      have s486 := (fh485 x 0 (fun q => absurd q.2 (by decide))).trans s465
      have s487 := (fh485 bn 0 (fun q => absurd (((tbn).symm.trans (congrArg ty q.1)).trans tx) (by decide))).trans s466
      have s488 := (fh485 bn 1 (fun q => absurd (((tbn).symm.trans (congrArg ty q.1)).trans tx) (by decide))).trans s467
      have s489 := (fh485 bn 2 (fun q => absurd (((tbn).symm.trans (congrArg ty q.1)).trans tx) (by decide))).trans s468
      have s490 := (fh485 x 2 (fun q => absurd q.2 (by decide))).trans s469
      have s491 := (fh485 x 3 (fun q => absurd q.2 (by decide))).trans s470
      have s492 := (fh485 b0 1 (fun q => absurd q.2 (by decide))).trans s471
      have s493 := (fh485 b0 2 (fun q => absurd q.2 (by decide))).trans s472
      have s494 := (fh485 b0 3 (fun q => absurd q.2 (by decide))).trans s473
      have s495 := (fh485 b1 1 (fun q => absurd q.2 (by decide))).trans s474
      have s496 := (fh485 b1 2 (fun q => absurd q.2 (by decide))).trans s475
      have s497 := (fh485 b1 3 (fun q => absurd q.2 (by decide))).trans s476
      have s498 := (fh485 b2 1 (fun q => absurd q.2 (by decide))).trans s477
      have s499 := (fh485 b2 2 (fun q => absurd q.2 (by decide))).trans s478
      have s500 := (fh485 b2 3 (fun q => absurd q.2 (by decide))).trans s479
      have s501 := (fh485 x 5 (fun q => absurd q.2 (by decide))).trans s480
      have s502 := (fh485 x 6 (fun q => absurd q.2 (by decide))).trans s481
      have s503 := (fh485 x 7 (fun q => absurd q.2 (by decide))).trans s482
      have s504 := (fh485 x 10 (fun q => absurd q.2 (by decide))).trans s483
      have s505 := (fh485 x 11 (fun q => absurd q.2 (by decide))).trans s484
      have hz2 := zup8 (w := nh) (wd := zq422) (by omega) (by omega)
      refine gz_s 2 (pc' := 105) (L' := [some (.ref x), some (.int (zi nw)), some (.int (zi nh)), some (.int (zi n)), some (.int (zi 2))]) (S' := [.ref x, .ref x]) rfl ?_
      refine gs_gtk rfl (by decide) rfl sh485.1 tx rfl rfl s502 ?_
      refine gz_s 2 (pc' := 111) (L' := [some (.ref x), some (.int (zi nw)), some (.int (zi nh)), some (.int (zi n)), some (.int (zi 2))]) (S' := [.ref x, .int (zi 8), .int (zi nh), .ref x]) rfl ?_
      refine gs_gtk rfl (by decide) rfl sh485.1 tx rfl rfl s505 ?_
      refine gy_s 1 (pc' := 115) (L' := [some (.ref x), some (.int (zi nw)), some (.int (zi nh)), some (.int (zi n)), some (.int (zi 2))]) (S' := [.int ((zi 8) * (zi zq422)), .int (zi nh), .ref x]) (L2 := [some (.ref x), some (.int (zi nw)), some (.int (zi nh)), some (.int (zi n)), some (.int (zi 2))]) (S2 := [.int (zi (8 * zq422)), .int (zi nh), .ref x]) rfl (by simp only [zi_add, zi_sub, zi_mul, zi_neg, zi_and1, zi_and7, zi_and15, zi_and31, zi_and255, Int.reduceAdd, Int.reduceMul, Int.reduceSub]) (by simp only [zi_add, zi_sub, zi_mul, zi_neg, zi_and1, zi_and7, zi_and15, zi_and31, zi_and255, Int.reduceAdd, Int.reduceMul, Int.reduceSub]) ?_
      refine gz_call rfl (by decide) rfl (by decide) (by decide) (gcal_of rfl rfl rfl (Nat.le_of_ble_eq_true rfl) rfl) (cl_DctFilter_upward _ sh485.1 nh (by omega) (8 * zq422) (by omega) ) (fun q506 _ wq506 => ?_)
      obtain ⟨pq506, oq506, hq506⟩ := q506
      obtain ⟨xq506, zq506, gq506, aq506, bq506, uq506_0⟩ := wq506
      refine ⟨_, gq506, ?_⟩
      show gz gPP gGG gcn _ _ 118 [some (.ref x), some (.int (zi nw)), some (.int (zi nh)), some (.int (zi n)), some (.int (zi 2))] [.int (zi zq506), .ref x] hq506 _
      have sq506 : gSs rT 1027 ty [54002, 54003, 54005, 54006, 54007, 54008, 54010, 54011, 54012, 54013, 82004, 82005, 82006, 82007, 82008, 83004, 83005, 83006, 83007, 83008, 84004, 84005, 84006, 84007, 84008, 112999, 113999] h hq506 := gSs.tr sh485 xq506 (by decide)
      have s507 := (xq506.2.2.2.2.2 x 0 (by rw [tx]; decide)).trans s486
      have s508 := (xq506.2.2.2.2.2 bn 0 (by rw [tbn]; decide)).trans s487
      have s509 := (xq506.2.2.2.2.2 bn 1 (by rw [tbn]; decide)).trans s488
      have s510 := (xq506.2.2.2.2.2 bn 2 (by rw [tbn]; decide)).trans s489
      have s511 := (xq506.2.2.2.2.2 x 2 (by rw [tx]; decide)).trans s490
      have s512 := (xq506.2.2.2.2.2 x 3 (by rw [tx]; decide)).trans s491
      have s513 := (xq506.2.2.2.2.2 b0 1 (by rw [tb0]; decide)).trans s492
      have s514 := (xq506.2.2.2.2.2 b0 2 (by rw [tb0]; decide)).trans s493
      have s515 := (xq506.2.2.2.2.2 b0 3 (by rw [tb0]; decide)).trans s494
      have s516 := (xq506.2.2.2.2.2 b1 1 (by rw [tb1]; decide)).trans s495
      have s517 := (xq506.2.2.2.2.2 b1 2 (by rw [tb1]; decide)).trans s496
      have s518 := (xq506.2.2.2.2.2 b1 3 (by rw [tb1]; decide)).trans s497
      have s519 := (xq506.2.2.2.2.2 b2 1 (by rw [tb2]; decide)).trans s498
      have s520 := (xq506.2.2.2.2.2 b2 2 (by rw [tb2]; decide)).trans s499
      have s521 := (xq506.2.2.2.2.2 b2 3 (by rw [tb2]; decide)).trans s500
      have s522 := (xq506.2.2.2.2.2 x 5 (by rw [tx]; decide)).trans s501
      have s523 := (xq506.2.2.2.2.2 x 6 (by rw [tx]; decide)).trans s502
      have s524 := (xq506.2.2.2.2.2 x 7 (by rw [tx]; decide)).trans s503
      have s525 := (xq506.2.2.2.2.2 x 10 (by rw [tx]; decide)).trans s504
      have s526 := (xq506.2.2.2.2.2 x 11 (by rw [tx]; decide)).trans s505
      have s527 := (xq506.2.2.2.2.2 x 12 (by rw [tx]; decide)).trans eh485
      refine gs_put rfl (by decide) rfl sq506 tx rfl rfl rfl rfl (Or.inl rfl) (by decide) (by omega) (by omega) (fun h528 sh528 eh528 fh528 => ?_)
      have s529 := (fh528 x 0 (fun q => absurd q.2 (by decide))).trans s507
      have s530 := (fh528 bn 0 (fun q => absurd (((tbn).symm.trans (congrArg ty q.1)).trans tx) (by decide))).trans s508
      have s531 := (fh528 bn 1 (fun q => absurd (((tbn).symm.trans (congrArg ty q.1)).trans tx) (by decide))).trans s509
      have s532 := (fh528 bn 2 (fun q => absurd (((tbn).symm.trans (congrArg ty q.1)).trans tx) (by decide))).trans s510
      have s533 := (fh528 x 2 (fun q => absurd q.2 (by decide))).trans s511
      have s534 := (fh528 x 3 (fun q => absurd q.2 (by decide))).trans s512
      have s535 := (fh528 b0 1 (fun q => absurd q.2 (by decide))).trans s513
      have s536 := (fh528 b0 2 (fun q => absurd q.2 (by decide))).trans s514
      have s537 := (fh528 b0 3 (fun q => absurd q.2 (by decide))).trans s515
      have s538 := (fh528 b1 1 (fun q => absurd q.2 (by decide))).trans s516
      have s539 := (fh528 b1 2 (fun q => absurd q.2 (by decide))).trans s517
      have s540 := (fh528 b1 3 (fun q => absurd q.2 (by decide))).trans s518
      have s541 := (fh528 b2 1 (fun q => absurd q.2 (by decide))).trans s519
      have s542 := (fh528 b2 2 (fun q => absurd q.2 (by decide))).trans s520
      have s543 := (fh528 b2 3 (fun q => absurd q.2 (by decide))).trans s521
      have s544 := (fh528 x 5 (fun q => absurd q.2 (by decide))).trans s522
      have s545 := (fh528 x 6 (fun q => absurd q.2 (by decide))).trans s523
      have s546 := (fh528 x 7 (fun q => absurd q.2 (by decide))).trans s524
      have s547 := (fh528 x 10 (fun q => absurd q.2 (by decide))).trans s525
      have s548 := (fh528 x 11 (fun q => absurd q.2 (by decide))).trans s526
      have s549 := (fh528 x 12 (fun q => absurd q.2 (by decide))).trans s527
      refine gz_s 2 (pc' := 123) (L' := [some (.ref x), some (.int (zi nw)), some (.int (zi nh)), some (.int (zi n)), some (.int (zi 2))]) (S' := [.int (zi 0), .ref x]) rfl ?_
      refine gs_put rfl (by decide) rfl sh528 tx rfl rfl rfl rfl (Or.inl rfl) (by decide) (by omega) (by omega) (fun h550 sh550 eh550 fh550 => ?_)
      have s551 := (fh550 x 0 (fun q => absurd q.2 (by decide))).trans s529
      have s552 := (fh550 bn 0 (fun q => absurd (((tbn).symm.trans (congrArg ty q.1)).trans tx) (by decide))).trans s530
      have s553 := (fh550 bn 1 (fun q => absurd (((tbn).symm.trans (congrArg ty q.1)).trans tx) (by decide))).trans s531
      have s554 := (fh550 bn 2 (fun q => absurd (((tbn).symm.trans (congrArg ty q.1)).trans tx) (by decide))).trans s532
      have s555 := (fh550 x 2 (fun q => absurd q.2 (by decide))).trans s533
      have s556 := (fh550 x 3 (fun q => absurd q.2 (by decide))).trans s534
      have s557 := (fh550 b0 1 (fun q => absurd q.2 (by decide))).trans s535
      have s558 := (fh550 b0 2 (fun q => absurd q.2 (by decide))).trans s536
      have s559 := (fh550 b0 3 (fun q => absurd q.2 (by decide))).trans s537
      have s560 := (fh550 b1 1 (fun q => absurd q.2 (by decide))).trans s538
      have s561 := (fh550 b1 2 (fun q => absurd q.2 (by decide))).trans s539
      have s562 := (fh550 b1 3 (fun q => absurd q.2 (by decide))).trans s540
      have s563 := (fh550 b2 1 (fun q => absurd q.2 (by decide))).trans s541
      have s564 := (fh550 b2 2 (fun q => absurd q.2 (by decide))).trans s542
      have s565 := (fh550 b2 3 (fun q => absurd q.2 (by decide))).trans s543
      have s566 := (fh550 x 5 (fun q => absurd q.2 (by decide))).trans s544
      have s567 := (fh550 x 6 (fun q => absurd q.2 (by decide))).trans s545
      have s568 := (fh550 x 7 (fun q => absurd q.2 (by decide))).trans s546
      have s569 := (fh550 x 10 (fun q => absurd q.2 (by decide))).trans s547
      have s570 := (fh550 x 11 (fun q => absurd q.2 (by decide))).trans s548
      have s571 := (fh550 x 12 (fun q => absurd q.2 (by decide))).trans s549
      have s572 := (fh550 x 13 (fun q => absurd q.2 (by decide))).trans eh528
      refine gz_s 4 (pc' := 132) (L' := [some (.ref x), some (.int (zi nw)), some (.int (zi nh)), some (.int (zi n)), some (.int (zi 0))]) (S' := [.ref x, .int (zi 0)]) rfl ?_
      refine gs_gtk rfl (by decide) rfl sh550.1 tx rfl rfl s568 ?_
      refine gy_icF rfl (by decide) (by decide) (by omega) (by omega) (by first | (simp [zc]; done) | (simp only [zc]; omega)) ?_
      refine gz_s 2 (pc' := 140) (L' := [some (.ref x), some (.int (zi nw)), some (.int (zi nh)), some (.int (zi n)), some (.int (zi 0))]) (S' := [.ref x, .ref x]) rfl ?_
      refine gs_gtk rfl (by decide) rfl sh550.1 tx rfl rfl s551 ?_
      refine gz_s 1 (pc' := 145) (L' := [some (.ref x), some (.int (zi nw)), some (.int (zi nh)), some (.int (zi n)), some (.int (zi 0))]) (S' := [.int (zi 0), .ref bn, .ref x]) rfl ?_
      have he575 : (0 : Int) = 0 := by omega
      refine gs_aak (j := 0) rfl (by decide) sh550.1 tbn rfl rfl rfl (by decide) he575 (by decide) s552 ?_
      refine gz_call rfl (by decide) rfl (by decide) (by decide) (gcal_of rfl rfl rfl (Nat.le_of_ble_eq_true rfl) (gJ.recv (G := gGG) sh550.1 tx rfl rfl)) (cl_placeBand0 _ sh550.1 x tx b0 tb0 zq464 s571 (by omega) zq506 s572 (by omega) 0 eh550 (by omega) nw s566 (by omega) nh s567 (by omega) zq378 s569 (by omega) zq422 s570 (by omega) hb0 s557 (by omega) vb0 s558 (by omega) (by omega) (by omega) (by omega) (by omega) uq) (fun q576 _ wq576 => ?_)
      obtain ⟨pq576, oq576, hq576⟩ := q576
      obtain ⟨xq576, fq576_0, fq576_1, fq576_2, fq576_3, fq576_4, fq576_5, gq576, efq576_0, afq576_0, bfq576_0, efq576_1, afq576_1, bfq576_1, efq576_2, afq576_2, bfq576_2, efq576_3, afq576_3, bfq576_3, efq576_4, afq576_4, bfq576_4, efq576_5, afq576_5, bfq576_5, uq576_0, uq576_1, uq576_2, uq576_3, uq576_4, uq576_5, uq576_6, uq576_7, uq576_8, uq576_9, uq576_10, uq576_11⟩ := wq576
      refine ⟨_, gq576, ?_⟩
      show gz gPP gGG gcn _ _ 149 [some (.ref x), some (.int (zi nw)), some (.int (zi nh)), some (.int (zi n)), some (.int (zi 0))] [] hq576 _
      have sq576 : gSs rT 1027 ty [54002, 54003, 54005, 54006, 54007, 54008, 54010, 54011, 54012, 54013, 82004, 82005, 82006, 82007, 82008, 83004, 83005, 83006, 83007, 83008, 84004, 84005, 84006, 84007, 84008, 112999, 113999] h hq576 := gSs.tr sh550 xq576 (by decide)
      have s577 := (xq576.2.2.2.2.2 x 0 (by rw [tx]; decide)).trans s551
      have s578 := (xq576.2.2.2.2.2 bn 0 (by rw [tbn]; decide)).trans s552
      have s579 := (xq576.2.2.2.2.2 bn 1 (by rw [tbn]; decide)).trans s553
      have s580 := (xq576.2.2.2.2.2 bn 2 (by rw [tbn]; decide)).trans s554
      have s581 := (xq576.2.2.2.2.2 x 2 (by rw [tx]; decide)).trans s555
      have s582 := (xq576.2.2.2.2.2 x 3 (by rw [tx]; decide)).trans s556
      have s583 := (xq576.2.2.2.2.2 b0 1 (by rw [tb0]; decide)).trans s557
      have s584 := (xq576.2.2.2.2.2 b0 2 (by rw [tb0]; decide)).trans s558
      have s585 := (xq576.2.2.2.2.2 b0 3 (by rw [tb0]; decide)).trans s559
      have s586 := (xq576.2.2.2.2.2 b1 1 (by rw [tb1]; decide)).trans s560
      have s587 := (xq576.2.2.2.2.2 b1 2 (by rw [tb1]; decide)).trans s561
      have s588 := (xq576.2.2.2.2.2 b1 3 (by rw [tb1]; decide)).trans s562
      have s589 := (xq576.2.2.2.2.2 b2 1 (by rw [tb2]; decide)).trans s563
      have s590 := (xq576.2.2.2.2.2 b2 2 (by rw [tb2]; decide)).trans s564
      have s591 := (xq576.2.2.2.2.2 b2 3 (by rw [tb2]; decide)).trans s565
      have s592 := (xq576.2.2.2.2.2 x 5 (by rw [tx]; decide)).trans s566
      have s593 := (xq576.2.2.2.2.2 x 6 (by rw [tx]; decide)).trans s567
      have s594 := (xq576.2.2.2.2.2 x 7 (by rw [tx]; decide)).trans s568
      have s595 := (xq576.2.2.2.2.2 x 10 (by rw [tx]; decide)).trans s569
      have s596 := (xq576.2.2.2.2.2 x 11 (by rw [tx]; decide)).trans s570
      have s597 := (xq576.2.2.2.2.2 x 12 (by rw [tx]; decide)).trans s571
      have s598 := (xq576.2.2.2.2.2 x 13 (by rw [tx]; decide)).trans s572
      refine gy_s 4 (pc' := 132) (L' := [some (.ref x), some (.int (zi nw)), some (.int (zi nh)), some (.int (zi n)), some (.int ((zi 0) + zi 1))]) (S' := [.ref x, .int ((zi 0) + zi 1)]) (L2 := [some (.ref x), some (.int (zi nw)), some (.int (zi nh)), some (.int (zi n)), some (.int (zi 1))]) (S2 := [.ref x, .int (zi 1)]) rfl (by simp only [zi_add, zi_sub, zi_mul, zi_neg, zi_and1, zi_and7, zi_and15, zi_and31, zi_and255, Int.reduceAdd, Int.reduceMul, Int.reduceSub]) (by simp only [zi_add, zi_sub, zi_mul, zi_neg, zi_and1, zi_and7, zi_and15, zi_and31, zi_and255, Int.reduceAdd, Int.reduceMul, Int.reduceSub]) ?_
      refine gs_gtk rfl (by decide) rfl sq576.1 tx rfl rfl s594 ?_
      refine gy_icF rfl (by decide) (by decide) (by omega) (by omega) (by first | (simp [zc]; done) | (simp only [zc]; omega)) ?_
      refine gz_s 2 (pc' := 140) (L' := [some (.ref x), some (.int (zi nw)), some (.int (zi nh)), some (.int (zi n)), some (.int (zi 1))]) (S' := [.ref x, .ref x]) rfl ?_
      refine gs_gtk rfl (by decide) rfl sq576.1 tx rfl rfl s577 ?_
      refine gz_s 1 (pc' := 145) (L' := [some (.ref x), some (.int (zi nw)), some (.int (zi nh)), some (.int (zi n)), some (.int (zi 1))]) (S' := [.int (zi 1), .ref bn, .ref x]) rfl ?_
      have he601 : (1 : Int) = 1 := by omega
      refine gs_aak (j := 1) rfl (by decide) sq576.1 tbn rfl rfl rfl (by decide) he601 (by decide) s579 ?_
      refine gz_call rfl (by decide) rfl (by decide) (by decide) (gcal_of rfl rfl rfl (Nat.le_of_ble_eq_true rfl) (gJ.recv (G := gGG) sq576.1 tx rfl rfl)) (cl_placeBand1 _ sq576.1 x tx b1 tb1 zq464 s597 (by omega) zq506 s598 (by omega) fq576_5 efq576_5 (by omega) nw s592 (by omega) nh s593 (by omega) zq378 s595 (by omega) zq422 s596 (by omega) hb1 s586 (by omega) vb1 s587 (by omega) (by omega) (by omega) (by omega) (by omega) uq) (fun q602 _ wq602 => ?_)
      obtain ⟨pq602, oq602, hq602⟩ := q602
      obtain ⟨xq602, fq602_0, fq602_1, fq602_2, fq602_3, fq602_4, fq602_5, gq602, efq602_0, afq602_0, bfq602_0, efq602_1, afq602_1, bfq602_1, efq602_2, afq602_2, bfq602_2, efq602_3, afq602_3, bfq602_3, efq602_4, afq602_4, bfq602_4, efq602_5, afq602_5, bfq602_5, uq602_0, uq602_1, uq602_2, uq602_3, uq602_4, uq602_5, uq602_6, uq602_7, uq602_8, uq602_9, uq602_10, uq602_11⟩ := wq602
      refine ⟨_, gq602, ?_⟩
      show gz gPP gGG gcn _ _ 149 [some (.ref x), some (.int (zi nw)), some (.int (zi nh)), some (.int (zi n)), some (.int (zi 1))] [] hq602 _
      have sq602 : gSs rT 1027 ty [54002, 54003, 54005, 54006, 54007, 54008, 54010, 54011, 54012, 54013, 82004, 82005, 82006, 82007, 82008, 83004, 83005, 83006, 83007, 83008, 84004, 84005, 84006, 84007, 84008, 112999, 113999] h hq602 := gSs.tr sq576 xq602 (by decide)
      have s603 := (xq602.2.2.2.2.2 x 0 (by rw [tx]; decide)).trans s577
      have s604 := (xq602.2.2.2.2.2 bn 0 (by rw [tbn]; decide)).trans s578
      have s605 := (xq602.2.2.2.2.2 bn 1 (by rw [tbn]; decide)).trans s579
      have s606 := (xq602.2.2.2.2.2 bn 2 (by rw [tbn]; decide)).trans s580
      have s607 := (xq602.2.2.2.2.2 x 2 (by rw [tx]; decide)).trans s581
      have s608 := (xq602.2.2.2.2.2 x 3 (by rw [tx]; decide)).trans s582
      have s609 := (xq602.2.2.2.2.2 b0 1 (by rw [tb0]; decide)).trans s583
      have s610 := (xq602.2.2.2.2.2 b0 2 (by rw [tb0]; decide)).trans s584
      have s611 := (xq602.2.2.2.2.2 b0 3 (by rw [tb0]; decide)).trans s585
      have s612 := (xq602.2.2.2.2.2 b1 1 (by rw [tb1]; decide)).trans s586
      have s613 := (xq602.2.2.2.2.2 b1 2 (by rw [tb1]; decide)).trans s587
      have s614 := (xq602.2.2.2.2.2 b1 3 (by rw [tb1]; decide)).trans s588
      have s615 := (xq602.2.2.2.2.2 b2 1 (by rw [tb2]; decide)).trans s589
      have s616 := (xq602.2.2.2.2.2 b2 2 (by rw [tb2]; decide)).trans s590
      have s617 := (xq602.2.2.2.2.2 b2 3 (by rw [tb2]; decide)).trans s591
      have s618 := (xq602.2.2.2.2.2 x 5 (by rw [tx]; decide)).trans s592
      have s619 := (xq602.2.2.2.2.2 x 6 (by rw [tx]; decide)).trans s593
      have s620 := (xq602.2.2.2.2.2 x 7 (by rw [tx]; decide)).trans s594
      have s621 := (xq602.2.2.2.2.2 x 10 (by rw [tx]; decide)).trans s595
      have s622 := (xq602.2.2.2.2.2 x 11 (by rw [tx]; decide)).trans s596
      have s623 := (xq602.2.2.2.2.2 x 12 (by rw [tx]; decide)).trans s597
      have s624 := (xq602.2.2.2.2.2 x 13 (by rw [tx]; decide)).trans s598
      have s625 := (xq602.2.2.2.2.2 b0 4 (by rw [tb0]; decide)).trans efq576_0
      have s626 := (xq602.2.2.2.2.2 b0 5 (by rw [tb0]; decide)).trans efq576_1
      have s627 := (xq602.2.2.2.2.2 b0 6 (by rw [tb0]; decide)).trans efq576_2
      have s628 := (xq602.2.2.2.2.2 b0 7 (by rw [tb0]; decide)).trans efq576_3
      have s629 := (xq602.2.2.2.2.2 b0 8 (by rw [tb0]; decide)).trans efq576_4
      refine gy_s 4 (pc' := 132) (L' := [some (.ref x), some (.int (zi nw)), some (.int (zi nh)), some (.int (zi n)), some (.int ((zi 1) + zi 1))]) (S' := [.ref x, .int ((zi 1) + zi 1)]) (L2 := [some (.ref x), some (.int (zi nw)), some (.int (zi nh)), some (.int (zi n)), some (.int (zi 2))]) (S2 := [.ref x, .int (zi 2)]) rfl (by simp only [zi_add, zi_sub, zi_mul, zi_neg, zi_and1, zi_and7, zi_and15, zi_and31, zi_and255, Int.reduceAdd, Int.reduceMul, Int.reduceSub]) (by simp only [zi_add, zi_sub, zi_mul, zi_neg, zi_and1, zi_and7, zi_and15, zi_and31, zi_and255, Int.reduceAdd, Int.reduceMul, Int.reduceSub]) ?_
      refine gs_gtk rfl (by decide) rfl sq602.1 tx rfl rfl s620 ?_
      refine gy_icT (pc' := 155) rfl (by decide) (by decide) (by omega) (by omega) (by first | (simp [zc]; done) | (simp only [zc]; omega)) ?_
      refine gz_s 1 (pc' := 156) (L' := [some (.ref x), some (.int (zi nw)), some (.int (zi nh)), some (.int (zi n)), some (.int (zi 2))]) (S' := [.ref x]) rfl ?_
      have k630 := sq602.2.1
      have k630b := sq602.2.2.1
      have hl631 : hq602.2.2.2.1 co = h.2.2.2.1 co := congrFun sq602.2.2.2.2.1 co
      have hl632 : hq602.2.2.2.1 dm = h.2.2.2.1 dm := congrFun sq602.2.2.2.2.1 dm
      have hl633 : hq602.2.2.2.1 co = h.2.2.2.1 co := congrFun sq602.2.2.2.2.1 co
      have hl634 : hq602.2.2.2.1 dm = h.2.2.2.1 dm := congrFun sq602.2.2.2.2.1 dm
      refine gz_call rfl (by decide) rfl (by decide) (by decide) (gcal_of rfl rfl rfl (Nat.le_of_ble_eq_true rfl) (gJ.recv (G := gGG) sq602.1 tx rfl rfl)) (cl_Picture_clearBlocks _ sq602.1 x tx co s607 tco dm s608 tdm fq602_5 efq602_5 (by omega) (by omega) uq) (fun q635 _ wq635 => ?_)
      obtain ⟨pq635, oq635, hq635⟩ := q635
      obtain ⟨tyq635, xq635, cq635_0, cq635_1, ttq635, ecq635_0, tcq635_0, ecq635_1, tcq635_1, gq635, uq635_0, uq635_1, uq635_2, uq635_3, uq635_4⟩ := wq635
      dsimp only at uq635_0 uq635_1 uq635_2 uq635_3 uq635_4
      refine ⟨_, gq635, ?_⟩
      show gz gPP gGG gcn _ _ 159 [some (.ref x), some (.int (zi nw)), some (.int (zi nh)), some (.int (zi n)), some (.int (zi 2))] [] hq635 _
      have G636 : gSg [112, 113] [] [54002, 54003, 54005, 54006, 54007, 54008, 54010, 54011, 54012, 54013, 82004, 82005, 82006, 82007, 82008, 83004, 83005, 83006, 83007, 83008, 84004, 84005, 84006, 84007, 84008, 112999, 113999] ty h tyq635 hq635 := gSg.tr (gSg.ss G0 sq602 (by decide)) xq635 (by decide) (by decide) (fun x hx => by cases hx)
      have t637 : tyq635 x = 54 := gSg.typ xq635 sq602.1 tx rfl
      have t638 : tyq635 bn = 57 := gSg.typ xq635 sq602.1 tbn rfl
      have t639 : tyq635 b0 = 82 := gSg.typ xq635 sq602.1 tb0 rfl
      have t640 : tyq635 b1 = 83 := gSg.typ xq635 sq602.1 tb1 rfl
      have t641 : tyq635 b2 = 84 := gSg.typ xq635 sq602.1 tb2 rfl
      have t642 : tyq635 co = 112 := gSg.typ xq635 sq602.1 tco rfl
      have hl643 : hq635.2.2.2.1 co = hq602.2.2.2.1 co := gSg.len xq635 sq602.1 tco rfl
      have t644 : tyq635 dm = 113 := gSg.typ xq635 sq602.1 tdm rfl
      have hl645 : hq635.2.2.2.1 dm = hq602.2.2.2.1 dm := gSg.len xq635 sq602.1 tdm rfl
      have s646 := gSg.at xq635 sq602.1 tx rfl (by decide) s603
      have s647 := gSg.at xq635 sq602.1 tbn rfl (by decide) s604
      have s648 := gSg.at xq635 sq602.1 tbn rfl (by decide) s605
      have s649 := gSg.at xq635 sq602.1 tbn rfl (by decide) s606
      have s650 := gSg.at xq635 sq602.1 tb0 rfl (by decide) s609
      have s651 := gSg.at xq635 sq602.1 tb0 rfl (by decide) s610
      have s652 := gSg.at xq635 sq602.1 tb0 rfl (by decide) s611
      have s653 := gSg.at xq635 sq602.1 tb1 rfl (by decide) s612
      have s654 := gSg.at xq635 sq602.1 tb1 rfl (by decide) s613
      have s655 := gSg.at xq635 sq602.1 tb1 rfl (by decide) s614
      have s656 := gSg.at xq635 sq602.1 tb2 rfl (by decide) s615
      have s657 := gSg.at xq635 sq602.1 tb2 rfl (by decide) s616
      have s658 := gSg.at xq635 sq602.1 tb2 rfl (by decide) s617
      have s659 := gSg.at xq635 sq602.1 tx rfl (by decide) s618
      have s660 := gSg.at xq635 sq602.1 tx rfl (by decide) s619
      have s661 := gSg.at xq635 sq602.1 tx rfl (by decide) s620
      have s662 := gSg.at xq635 sq602.1 tx rfl (by decide) s621
      have s663 := gSg.at xq635 sq602.1 tx rfl (by decide) s622
      have s664 := gSg.at xq635 sq602.1 tx rfl (by decide) s623
      have s665 := gSg.at xq635 sq602.1 tx rfl (by decide) s624
      have s666 := gSg.at xq635 sq602.1 tb0 rfl (by decide) s625
      have s667 := gSg.at xq635 sq602.1 tb0 rfl (by decide) s626
      have s668 := gSg.at xq635 sq602.1 tb0 rfl (by decide) s627
      have s669 := gSg.at xq635 sq602.1 tb0 rfl (by decide) s628
      have s670 := gSg.at xq635 sq602.1 tb0 rfl (by decide) s629
      have s671 := gSg.at xq635 sq602.1 tb1 rfl (by decide) efq602_0
      have s672 := gSg.at xq635 sq602.1 tb1 rfl (by decide) efq602_1
      have s673 := gSg.at xq635 sq602.1 tb1 rfl (by decide) efq602_2
      have s674 := gSg.at xq635 sq602.1 tb1 rfl (by decide) efq602_3
      have s675 := gSg.at xq635 sq602.1 tb1 rfl (by decide) efq602_4
      have s676 := gSg.at xq635 sq602.1 tx rfl (by decide) efq602_5
      have uq677 := gSg.uq xq635 uq (by decide)
      have sS678 : gSs rT 1027 tyq635 [54002, 54003, 54005, 54006, 54007, 54008, 54010, 54011, 54012, 54013, 82004, 82005, 82006, 82007, 82008, 83004, 83005, 83006, 83007, 83008, 84004, 84005, 84006, 84007, 84008, 112999, 113999] hq635 hq635 := gSs.rf xq635.1
      have hl679 : 0 ≤ hq635.2.2.2.1 co ∧ hq635.2.2.2.1 co ≤ 12288 := gJ.rowl (G := gGG) sS678.1 t642 rfl
      have hl680 : 0 ≤ hq635.2.2.2.1 dm ∧ hq635.2.2.2.1 dm ≤ 192 := gJ.rowl (G := gGG) sS678.1 t644 rfl
      have hl681 : 0 ≤ hq635.2.2.2.1 cq635_0 ∧ hq635.2.2.2.1 cq635_0 ≤ 12288 := gJ.rowl (G := gGG) sS678.1 tcq635_0 rfl
      have hl682 : 0 ≤ hq635.2.2.2.1 cq635_1 ∧ hq635.2.2.2.1 cq635_1 ≤ 192 := gJ.rowl (G := gGG) sS678.1 tcq635_1 rfl
      obtain ⟨z683, ez683, az683, bz683⟩ := gJ.int (k := 4) (G := gGG) sS678.1 t641 rfl rfl rfl
      obtain ⟨z684, ez684, az684, bz684⟩ := gJ.int (k := 5) (G := gGG) sS678.1 t641 rfl rfl rfl
      obtain ⟨z685, ez685, az685, bz685⟩ := gJ.int (k := 6) (G := gGG) sS678.1 t641 rfl rfl rfl
      obtain ⟨z686, ez686, az686, bz686⟩ := gJ.int (k := 7) (G := gGG) sS678.1 t641 rfl rfl rfl
      obtain ⟨z687, ez687, az687, bz687⟩ := gJ.int (k := 8) (G := gGG) sS678.1 t641 rfl rfl rfl
      have hpc688 : gPC tyq635 x b0 b1 b2 (hq635.2.2.2.1 cq635_1 : Int) hq635 := gPC.mk ⟨t637, t639, t640, t641⟩ ⟨t638, tcq635_0, tcq635_1⟩ ⟨s646, s647, s648, s649, ecq635_0, ecq635_1⟩ s661 s664 s665 s676 s659 s660 s662 s663 s650 s651 s652 s666 s667 s668 s669 s670 s653 s654 s655 s671 s672 s673 s674 s675 s656 s657 s658 ez683 ez684 ez685 ez686 ez687 ⟨by omega, by omega⟩ ⟨by omega, by omega⟩ ⟨by omega, by omega⟩ ⟨by omega, by omega⟩ ⟨by omega, by omega⟩ ⟨by omega, by omega⟩ ⟨by omega, by omega⟩ ⟨by omega, by omega⟩ ⟨by omega, by omega⟩ ⟨by omega, by omega⟩ ⟨by omega, by omega⟩ ⟨by omega, by omega⟩ ⟨by omega, by omega⟩ ⟨by omega, by omega⟩ ⟨by omega, by omega⟩ ⟨by omega, by omega⟩ ⟨by omega, by omega⟩ ⟨by omega, by omega⟩ ⟨by omega, by omega⟩ ⟨by omega, by omega⟩ ⟨by omega, by omega⟩ ⟨by omega, by omega⟩ ⟨by omega, by omega⟩ ⟨by omega, by omega⟩ ⟨by omega, by omega⟩ ⟨by omega, by omega⟩ ⟨by omega, by omega⟩ ⟨by omega, by omega⟩ ⟨by omega, by omega⟩ ⟨by omega, by omega⟩ ⟨by omega, by omega⟩ ⟨by omega, by omega⟩ (fun w => by unfold gPq; (repeat' apply And.intro) <;> omega) (fun w => by unfold gPq; (repeat' apply And.intro) <;> omega) (fun w => by unfold gPq; (repeat' apply And.intro) <;> omega) (fun w => by (repeat' apply And.intro) <;> omega) (fun w => by (repeat' apply And.intro) <;> omega) (fun w => by (repeat' apply And.intro) <;> omega) (fun w => by (repeat' apply And.intro) <;> omega) (fun w => by (repeat' apply And.intro) <;> omega) (by omega) (by omega) (by omega) (by omega)
      have G689 : gSg [112, 113] [] [54002, 54003, 54005, 54006, 54007, 54008, 54010, 54011, 54012, 54013, 82004, 82005, 82006, 82007, 82008, 83004, 83005, 83006, 83007, 83008, 84004, 84005, 84006, 84007, 84008, 112999, 113999] ty h tyq635 hq635 := gSg.ss G636 sS678 (by decide)
      exact gz_end (I := .return_) (len := 1) rfl (Or.inl rfl) ⟨tyq635, G689, n, (hq635.2.2.2.1 cq635_1 : Int), rfl, s661, (by omega), (by omega), (by omega), (by omega), (by omega), (by dsimp only; omega), (by dsimp only; omega), (by omega), hpc688⟩
    · refine gy_icF rfl (by decide) (by decide) (by omega) (by omega) hc463 ?_
      refine gz_s 2 (pc' := 39) (L' := [some (.ref x), some (.int (zi nw)), some (.int (zi nh)), some (.int (zi n)), some (.int (zi 2))]) (S' := [.ref x, .ref x]) rfl ?_
      refine gs_gtk rfl (by decide) rfl sh443.1 tx rfl rfl s462 ?_
      refine gz_s 1 (pc' := 43) (L' := [some (.ref x), some (.int (zi nw)), some (.int (zi nh)), some (.int (zi n)), some (.int (zi 2))]) (S' := [.ref x, .int (zi zq378), .ref x]) rfl ?_
      refine gs_gtk rfl (by decide) rfl sh443.1 tx rfl rfl s444 ?_
      refine gz_s 1 (pc' := 48) (L' := [some (.ref x), some (.int (zi nw)), some (.int (zi nh)), some (.int (zi n)), some (.int (zi 2))]) (S' := [.int (zi 2), .ref bn, .int (zi zq378), .ref x]) rfl ?_
      have he692 : (2 : Int) = 2 := by omega
      refine gs_aak (j := 2) rfl (by decide) sh443.1 tbn rfl rfl rfl (by decide) he692 (by decide) s447 ?_
      refine gs_gtk rfl (by decide) rfl sh443.1 tb2 rfl rfl s456 ?_
      refine gz_call rfl (by decide) rfl (by decide) (by decide) (gcal_of rfl rfl rfl (Nat.le_of_ble_eq_true rfl) rfl) (cl_Math_max _ sh443.1 zq378 (by omega) hb2 (by omega) ) (fun q693 _ wq693 => ?_)
      obtain ⟨pq693, oq693, hq693⟩ := q693
      obtain ⟨xq693, zq693, gq693, aq693, bq693, uq693_0, uq693_1, uq693_2⟩ := wq693
      refine ⟨_, gq693, ?_⟩
      show gz gPP gGG gcn _ _ 55 [some (.ref x), some (.int (zi nw)), some (.int (zi nh)), some (.int (zi n)), some (.int (zi 2))] [.int (zi zq693), .ref x] hq693 _
      have sq693 : gSs rT 1027 ty [54002, 54003, 54005, 54006, 54007, 54008, 54010, 54011, 54012, 54013, 82004, 82005, 82006, 82007, 82008, 83004, 83005, 83006, 83007, 83008, 84004, 84005, 84006, 84007, 84008, 112999, 113999] h hq693 := gSs.tr sh443 xq693 (by decide)
      have s694 := (xq693.2.2.2.2.2 x 0 (by rw [tx]; decide)).trans s444
      have s695 := (xq693.2.2.2.2.2 bn 0 (by rw [tbn]; decide)).trans s445
      have s696 := (xq693.2.2.2.2.2 bn 1 (by rw [tbn]; decide)).trans s446
      have s697 := (xq693.2.2.2.2.2 bn 2 (by rw [tbn]; decide)).trans s447
      have s698 := (xq693.2.2.2.2.2 x 2 (by rw [tx]; decide)).trans s448
      have s699 := (xq693.2.2.2.2.2 x 3 (by rw [tx]; decide)).trans s449
      have s700 := (xq693.2.2.2.2.2 b0 1 (by rw [tb0]; decide)).trans s450
      have s701 := (xq693.2.2.2.2.2 b0 2 (by rw [tb0]; decide)).trans s451
      have s702 := (xq693.2.2.2.2.2 b0 3 (by rw [tb0]; decide)).trans s452
      have s703 := (xq693.2.2.2.2.2 b1 1 (by rw [tb1]; decide)).trans s453
      have s704 := (xq693.2.2.2.2.2 b1 2 (by rw [tb1]; decide)).trans s454
      have s705 := (xq693.2.2.2.2.2 b1 3 (by rw [tb1]; decide)).trans s455
      have s706 := (xq693.2.2.2.2.2 b2 1 (by rw [tb2]; decide)).trans s456
      have s707 := (xq693.2.2.2.2.2 b2 2 (by rw [tb2]; decide)).trans s457
      have s708 := (xq693.2.2.2.2.2 b2 3 (by rw [tb2]; decide)).trans s458
      have s709 := (xq693.2.2.2.2.2 x 5 (by rw [tx]; decide)).trans s459
      have s710 := (xq693.2.2.2.2.2 x 6 (by rw [tx]; decide)).trans s460
      have s711 := (xq693.2.2.2.2.2 x 7 (by rw [tx]; decide)).trans s461
      have s712 := (xq693.2.2.2.2.2 x 10 (by rw [tx]; decide)).trans s462
      have s713 := (xq693.2.2.2.2.2 x 11 (by rw [tx]; decide)).trans eh443
      refine gs_put rfl (by decide) rfl sq693 tx rfl rfl rfl rfl (Or.inl rfl) (by decide) (by omega) (by omega) (fun h714 sh714 eh714 fh714 => ?_)
      have s715 := (fh714 x 0 (fun q => absurd q.2 (by decide))).trans s694
      have s716 := (fh714 bn 0 (fun q => absurd (((tbn).symm.trans (congrArg ty q.1)).trans tx) (by decide))).trans s695
      have s717 := (fh714 bn 1 (fun q => absurd (((tbn).symm.trans (congrArg ty q.1)).trans tx) (by decide))).trans s696
      have s718 := (fh714 bn 2 (fun q => absurd (((tbn).symm.trans (congrArg ty q.1)).trans tx) (by decide))).trans s697
      have s719 := (fh714 x 2 (fun q => absurd q.2 (by decide))).trans s698
      have s720 := (fh714 x 3 (fun q => absurd q.2 (by decide))).trans s699
      have s721 := (fh714 b0 1 (fun q => absurd q.2 (by decide))).trans s700
      have s722 := (fh714 b0 2 (fun q => absurd q.2 (by decide))).trans s701
      have s723 := (fh714 b0 3 (fun q => absurd q.2 (by decide))).trans s702
      have s724 := (fh714 b1 1 (fun q => absurd q.2 (by decide))).trans s703
      have s725 := (fh714 b1 2 (fun q => absurd q.2 (by decide))).trans s704
      have s726 := (fh714 b1 3 (fun q => absurd q.2 (by decide))).trans s705
      have s727 := (fh714 b2 1 (fun q => absurd q.2 (by decide))).trans s706
      have s728 := (fh714 b2 2 (fun q => absurd q.2 (by decide))).trans s707
      have s729 := (fh714 b2 3 (fun q => absurd q.2 (by decide))).trans s708
      have s730 := (fh714 x 5 (fun q => absurd q.2 (by decide))).trans s709
      have s731 := (fh714 x 6 (fun q => absurd q.2 (by decide))).trans s710
      have s732 := (fh714 x 7 (fun q => absurd q.2 (by decide))).trans s711
      have s733 := (fh714 x 11 (fun q => absurd q.2 (by decide))).trans s713
      refine gz_s 2 (pc' := 60) (L' := [some (.ref x), some (.int (zi nw)), some (.int (zi nh)), some (.int (zi n)), some (.int (zi 2))]) (S' := [.ref x, .ref x]) rfl ?_
      refine gs_gtk rfl (by decide) rfl sh714.1 tx rfl rfl s733 ?_
      refine gz_s 1 (pc' := 64) (L' := [some (.ref x), some (.int (zi nw)), some (.int (zi nh)), some (.int (zi n)), some (.int (zi 2))]) (S' := [.ref x, .int (zi zq422), .ref x]) rfl ?_
      refine gs_gtk rfl (by decide) rfl sh714.1 tx rfl rfl s715 ?_
      refine gz_s 1 (pc' := 69) (L' := [some (.ref x), some (.int (zi nw)), some (.int (zi nh)), some (.int (zi n)), some (.int (zi 2))]) (S' := [.int (zi 2), .ref bn, .int (zi zq422), .ref x]) rfl ?_
      have he736 : (2 : Int) = 2 := by omega
      refine gs_aak (j := 2) rfl (by decide) sh714.1 tbn rfl rfl rfl (by decide) he736 (by decide) s718 ?_
      refine gs_gtk rfl (by decide) rfl sh714.1 tb2 rfl rfl s728 ?_
      refine gz_call rfl (by decide) rfl (by decide) (by decide) (gcal_of rfl rfl rfl (Nat.le_of_ble_eq_true rfl) rfl) (cl_Math_max _ sh714.1 zq422 (by omega) vb2 (by omega) ) (fun q737 _ wq737 => ?_)
      obtain ⟨pq737, oq737, hq737⟩ := q737
      obtain ⟨xq737, zq737, gq737, aq737, bq737, uq737_0, uq737_1, uq737_2⟩ := wq737
      refine ⟨_, gq737, ?_⟩
      show gz gPP gGG gcn _ _ 76 [some (.ref x), some (.int (zi nw)), some (.int (zi nh)), some (.int (zi n)), some (.int (zi 2))] [.int (zi zq737), .ref x] hq737 _
      have sq737 : gSs rT 1027 ty [54002, 54003, 54005, 54006, 54007, 54008, 54010, 54011, 54012, 54013, 82004, 82005, 82006, 82007, 82008, 83004, 83005, 83006, 83007, 83008, 84004, 84005, 84006, 84007, 84008, 112999, 113999] h hq737 := gSs.tr sh714 xq737 (by decide)
      have s738 := (xq737.2.2.2.2.2 x 0 (by rw [tx]; decide)).trans s715
      have s739 := (xq737.2.2.2.2.2 bn 0 (by rw [tbn]; decide)).trans s716
      have s740 := (xq737.2.2.2.2.2 bn 1 (by rw [tbn]; decide)).trans s717
      have s741 := (xq737.2.2.2.2.2 bn 2 (by rw [tbn]; decide)).trans s718
      have s742 := (xq737.2.2.2.2.2 x 2 (by rw [tx]; decide)).trans s719
      have s743 := (xq737.2.2.2.2.2 x 3 (by rw [tx]; decide)).trans s720
      have s744 := (xq737.2.2.2.2.2 b0 1 (by rw [tb0]; decide)).trans s721
      have s745 := (xq737.2.2.2.2.2 b0 2 (by rw [tb0]; decide)).trans s722
      have s746 := (xq737.2.2.2.2.2 b0 3 (by rw [tb0]; decide)).trans s723
      have s747 := (xq737.2.2.2.2.2 b1 1 (by rw [tb1]; decide)).trans s724
      have s748 := (xq737.2.2.2.2.2 b1 2 (by rw [tb1]; decide)).trans s725
      have s749 := (xq737.2.2.2.2.2 b1 3 (by rw [tb1]; decide)).trans s726
      have s750 := (xq737.2.2.2.2.2 b2 1 (by rw [tb2]; decide)).trans s727
      have s751 := (xq737.2.2.2.2.2 b2 2 (by rw [tb2]; decide)).trans s728
      have s752 := (xq737.2.2.2.2.2 b2 3 (by rw [tb2]; decide)).trans s729
      have s753 := (xq737.2.2.2.2.2 x 5 (by rw [tx]; decide)).trans s730
      have s754 := (xq737.2.2.2.2.2 x 6 (by rw [tx]; decide)).trans s731
      have s755 := (xq737.2.2.2.2.2 x 7 (by rw [tx]; decide)).trans s732
      have s756 := (xq737.2.2.2.2.2 x 11 (by rw [tx]; decide)).trans s733
      have s757 := (xq737.2.2.2.2.2 x 10 (by rw [tx]; decide)).trans eh714
      refine gs_put rfl (by decide) rfl sq737 tx rfl rfl rfl rfl (Or.inl rfl) (by decide) (by omega) (by omega) (fun h758 sh758 eh758 fh758 => ?_)
      have s759 := (fh758 x 0 (fun q => absurd q.2 (by decide))).trans s738
      have s760 := (fh758 bn 0 (fun q => absurd (((tbn).symm.trans (congrArg ty q.1)).trans tx) (by decide))).trans s739
      have s761 := (fh758 bn 1 (fun q => absurd (((tbn).symm.trans (congrArg ty q.1)).trans tx) (by decide))).trans s740
      have s762 := (fh758 bn 2 (fun q => absurd (((tbn).symm.trans (congrArg ty q.1)).trans tx) (by decide))).trans s741
      have s763 := (fh758 x 2 (fun q => absurd q.2 (by decide))).trans s742
      have s764 := (fh758 x 3 (fun q => absurd q.2 (by decide))).trans s743
      have s765 := (fh758 b0 1 (fun q => absurd q.2 (by decide))).trans s744
      have s766 := (fh758 b0 2 (fun q => absurd q.2 (by decide))).trans s745
      have s767 := (fh758 b0 3 (fun q => absurd q.2 (by decide))).trans s746
      have s768 := (fh758 b1 1 (fun q => absurd q.2 (by decide))).trans s747
      have s769 := (fh758 b1 2 (fun q => absurd q.2 (by decide))).trans s748
      have s770 := (fh758 b1 3 (fun q => absurd q.2 (by decide))).trans s749
      have s771 := (fh758 b2 1 (fun q => absurd q.2 (by decide))).trans s750
      have s772 := (fh758 b2 2 (fun q => absurd q.2 (by decide))).trans s751
      have s773 := (fh758 b2 3 (fun q => absurd q.2 (by decide))).trans s752
      have s774 := (fh758 x 5 (fun q => absurd q.2 (by decide))).trans s753
      have s775 := (fh758 x 6 (fun q => absurd q.2 (by decide))).trans s754
      have s776 := (fh758 x 7 (fun q => absurd q.2 (by decide))).trans s755
      have s777 := (fh758 x 10 (fun q => absurd q.2 (by decide))).trans s757
      refine gy_s 4 (pc' := 31) (L' := [some (.ref x), some (.int (zi nw)), some (.int (zi nh)), some (.int (zi n)), some (.int ((zi 2) + zi 1))]) (S' := [.ref x, .int ((zi 2) + zi 1)]) (L2 := [some (.ref x), some (.int (zi nw)), some (.int (zi nh)), some (.int (zi n)), some (.int (zi 3))]) (S2 := [.ref x, .int (zi 3)]) rfl (by simp only [zi_add, zi_sub, zi_mul, zi_neg, zi_and1, zi_and7, zi_and15, zi_and31, zi_and255, Int.reduceAdd, Int.reduceMul, Int.reduceSub]) (by simp only [zi_add, zi_sub, zi_mul, zi_neg, zi_and1, zi_and7, zi_and15, zi_and31, zi_and255, Int.reduceAdd, Int.reduceMul, Int.reduceSub]) ?_
      refine gs_gtk rfl (by decide) rfl sh758.1 tx rfl rfl s776 ?_
      refine gy_icT (pc' := 85) rfl (by decide) (by decide) (by omega) (by omega) (by first | (simp [zc]; done) | (simp only [zc]; omega)) ?_
      have hz1 := zup8 (w := nw) (wd := zq693) (by omega) (by omega)
      refine gz_s 2 (pc' := 87) (L' := [some (.ref x), some (.int (zi nw)), some (.int (zi nh)), some (.int (zi n)), some (.int (zi 3))]) (S' := [.ref x, .ref x]) rfl ?_
      refine gs_gtk rfl (by decide) rfl sh758.1 tx rfl rfl s774 ?_
      refine gz_s 2 (pc' := 93) (L' := [some (.ref x), some (.int (zi nw)), some (.int (zi nh)), some (.int (zi n)), some (.int (zi 3))]) (S' := [.ref x, .int (zi 8), .int (zi nw), .ref x]) rfl ?_
      refine gs_gtk rfl (by decide) rfl sh758.1 tx rfl rfl s777 ?_
      refine gy_s 1 (pc' := 97) (L' := [some (.ref x), some (.int (zi nw)), some (.int (zi nh)), some (.int (zi n)), some (.int (zi 3))]) (S' := [.int ((zi 8) * (zi zq693)), .int (zi nw), .ref x]) (L2 := [some (.ref x), some (.int (zi nw)), some (.int (zi nh)), some (.int (zi n)), some (.int (zi 3))]) (S2 := [.int (zi (8 * zq693)), .int (zi nw), .ref x]) rfl (by simp only [zi_add, zi_sub, zi_mul, zi_neg, zi_and1, zi_and7, zi_and15, zi_and31, zi_and255, Int.reduceAdd, Int.reduceMul, Int.reduceSub]) (by simp only [zi_add, zi_sub, zi_mul, zi_neg, zi_and1, zi_and7, zi_and15, zi_and31, zi_and255, Int.reduceAdd, Int.reduceMul, Int.reduceSub]) ?_
      refine gz_call rfl (by decide) rfl (by decide) (by decide) (gcal_of rfl rfl rfl (Nat.le_of_ble_eq_true rfl) rfl) (cl_DctFilter_upward _ sh758.1 nw (by omega) (8 * zq693) (by omega) ) (fun q778 _ wq778 => ?_)
      obtain ⟨pq778, oq778, hq778⟩ := q778
      obtain ⟨xq778, zq778, gq778, aq778, bq778, uq778_0⟩ := wq778
      refine ⟨_, gq778, ?_⟩
      show gz gPP gGG gcn _ _ 100 [some (.ref x), some (.int (zi nw)), some (.int (zi nh)), some (.int (zi n)), some (.int (zi 3))] [.int (zi zq778), .ref x] hq778 _
      have sq778 : gSs rT 1027 ty [54002, 54003, 54005, 54006, 54007, 54008, 54010, 54011, 54012, 54013, 82004, 82005, 82006, 82007, 82008, 83004, 83005, 83006, 83007, 83008, 84004, 84005, 84006, 84007, 84008, 112999, 113999] h hq778 := gSs.tr sh758 xq778 (by decide)
      have s779 := (xq778.2.2.2.2.2 x 0 (by rw [tx]; decide)).trans s759
      have s780 := (xq778.2.2.2.2.2 bn 0 (by rw [tbn]; decide)).trans s760
      have s781 := (xq778.2.2.2.2.2 bn 1 (by rw [tbn]; decide)).trans s761
      have s782 := (xq778.2.2.2.2.2 bn 2 (by rw [tbn]; decide)).trans s762
      have s783 := (xq778.2.2.2.2.2 x 2 (by rw [tx]; decide)).trans s763
      have s784 := (xq778.2.2.2.2.2 x 3 (by rw [tx]; decide)).trans s764
      have s785 := (xq778.2.2.2.2.2 b0 1 (by rw [tb0]; decide)).trans s765
      have s786 := (xq778.2.2.2.2.2 b0 2 (by rw [tb0]; decide)).trans s766
      have s787 := (xq778.2.2.2.2.2 b0 3 (by rw [tb0]; decide)).trans s767
      have s788 := (xq778.2.2.2.2.2 b1 1 (by rw [tb1]; decide)).trans s768
      have s789 := (xq778.2.2.2.2.2 b1 2 (by rw [tb1]; decide)).trans s769
      have s790 := (xq778.2.2.2.2.2 b1 3 (by rw [tb1]; decide)).trans s770
      have s791 := (xq778.2.2.2.2.2 b2 1 (by rw [tb2]; decide)).trans s771
      have s792 := (xq778.2.2.2.2.2 b2 2 (by rw [tb2]; decide)).trans s772
      have s793 := (xq778.2.2.2.2.2 b2 3 (by rw [tb2]; decide)).trans s773
      have s794 := (xq778.2.2.2.2.2 x 5 (by rw [tx]; decide)).trans s774
      have s795 := (xq778.2.2.2.2.2 x 6 (by rw [tx]; decide)).trans s775
      have s796 := (xq778.2.2.2.2.2 x 7 (by rw [tx]; decide)).trans s776
      have s797 := (xq778.2.2.2.2.2 x 10 (by rw [tx]; decide)).trans s777
      have s798 := (xq778.2.2.2.2.2 x 11 (by rw [tx]; decide)).trans eh758
      refine gs_put rfl (by decide) rfl sq778 tx rfl rfl rfl rfl (Or.inl rfl) (by decide) (by omega) (by omega) (fun h799 sh799 eh799 fh799 => ?_)
      have s800 := (fh799 x 0 (fun q => absurd q.2 (by decide))).trans s779
      have s801 := (fh799 bn 0 (fun q => absurd (((tbn).symm.trans (congrArg ty q.1)).trans tx) (by decide))).trans s780
      have s802 := (fh799 bn 1 (fun q => absurd (((tbn).symm.trans (congrArg ty q.1)).trans tx) (by decide))).trans s781
      have s803 := (fh799 bn 2 (fun q => absurd (((tbn).symm.trans (congrArg ty q.1)).trans tx) (by decide))).trans s782
      have s804 := (fh799 x 2 (fun q => absurd q.2 (by decide))).trans s783
      have s805 := (fh799 x 3 (fun q => absurd q.2 (by decide))).trans s784
      have s806 := (fh799 b0 1 (fun q => absurd q.2 (by decide))).trans s785
      have s807 := (fh799 b0 2 (fun q => absurd q.2 (by decide))).trans s786
      have s808 := (fh799 b0 3 (fun q => absurd q.2 (by decide))).trans s787
      have s809 := (fh799 b1 1 (fun q => absurd q.2 (by decide))).trans s788
      have s810 := (fh799 b1 2 (fun q => absurd q.2 (by decide))).trans s789
      have s811 := (fh799 b1 3 (fun q => absurd q.2 (by decide))).trans s790
      have s812 := (fh799 b2 1 (fun q => absurd q.2 (by decide))).trans s791
      have s813 := (fh799 b2 2 (fun q => absurd q.2 (by decide))).trans s792
      have s814 := (fh799 b2 3 (fun q => absurd q.2 (by decide))).trans s793
      have s815 := (fh799 x 5 (fun q => absurd q.2 (by decide))).trans s794
      have s816 := (fh799 x 6 (fun q => absurd q.2 (by decide))).trans s795
      have s817 := (fh799 x 7 (fun q => absurd q.2 (by decide))).trans s796
      have s818 := (fh799 x 10 (fun q => absurd q.2 (by decide))).trans s797
      have s819 := (fh799 x 11 (fun q => absurd q.2 (by decide))).trans s798
      have hz2 := zup8 (w := nh) (wd := zq737) (by omega) (by omega)
      refine gz_s 2 (pc' := 105) (L' := [some (.ref x), some (.int (zi nw)), some (.int (zi nh)), some (.int (zi n)), some (.int (zi 3))]) (S' := [.ref x, .ref x]) rfl ?_
      refine gs_gtk rfl (by decide) rfl sh799.1 tx rfl rfl s816 ?_
      refine gz_s 2 (pc' := 111) (L' := [some (.ref x), some (.int (zi nw)), some (.int (zi nh)), some (.int (zi n)), some (.int (zi 3))]) (S' := [.ref x, .int (zi 8), .int (zi nh), .ref x]) rfl ?_
      refine gs_gtk rfl (by decide) rfl sh799.1 tx rfl rfl s819 ?_
      refine gy_s 1 (pc' := 115) (L' := [some (.ref x), some (.int (zi nw)), some (.int (zi nh)), some (.int (zi n)), some (.int (zi 3))]) (S' := [.int ((zi 8) * (zi zq737)), .int (zi nh), .ref x]) (L2 := [some (.ref x), some (.int (zi nw)), some (.int (zi nh)), some (.int (zi n)), some (.int (zi 3))]) (S2 := [.int (zi (8 * zq737)), .int (zi nh), .ref x]) rfl (by simp only [zi_add, zi_sub, zi_mul, zi_neg, zi_and1, zi_and7, zi_and15, zi_and31, zi_and255, Int.reduceAdd, Int.reduceMul, Int.reduceSub]) (by simp only [zi_add, zi_sub, zi_mul, zi_neg, zi_and1, zi_and7, zi_and15, zi_and31, zi_and255, Int.reduceAdd, Int.reduceMul, Int.reduceSub]) ?_
      refine gz_call rfl (by decide) rfl (by decide) (by decide) (gcal_of rfl rfl rfl (Nat.le_of_ble_eq_true rfl) rfl) (cl_DctFilter_upward _ sh799.1 nh (by omega) (8 * zq737) (by omega) ) (fun q820 _ wq820 => ?_)
      obtain ⟨pq820, oq820, hq820⟩ := q820
      obtain ⟨xq820, zq820, gq820, aq820, bq820, uq820_0⟩ := wq820
      refine ⟨_, gq820, ?_⟩
      show gz gPP gGG gcn _ _ 118 [some (.ref x), some (.int (zi nw)), some (.int (zi nh)), some (.int (zi n)), some (.int (zi 3))] [.int (zi zq820), .ref x] hq820 _
      have sq820 : gSs rT 1027 ty [54002, 54003, 54005, 54006, 54007, 54008, 54010, 54011, 54012, 54013, 82004, 82005, 82006, 82007, 82008, 83004, 83005, 83006, 83007, 83008, 84004, 84005, 84006, 84007, 84008, 112999, 113999] h hq820 := gSs.tr sh799 xq820 (by decide)
      have s821 := (xq820.2.2.2.2.2 x 0 (by rw [tx]; decide)).trans s800
      have s822 := (xq820.2.2.2.2.2 bn 0 (by rw [tbn]; decide)).trans s801
      have s823 := (xq820.2.2.2.2.2 bn 1 (by rw [tbn]; decide)).trans s802
      have s824 := (xq820.2.2.2.2.2 bn 2 (by rw [tbn]; decide)).trans s803
      have s825 := (xq820.2.2.2.2.2 x 2 (by rw [tx]; decide)).trans s804
      have s826 := (xq820.2.2.2.2.2 x 3 (by rw [tx]; decide)).trans s805
      have s827 := (xq820.2.2.2.2.2 b0 1 (by rw [tb0]; decide)).trans s806
      have s828 := (xq820.2.2.2.2.2 b0 2 (by rw [tb0]; decide)).trans s807
      have s829 := (xq820.2.2.2.2.2 b0 3 (by rw [tb0]; decide)).trans s808
      have s830 := (xq820.2.2.2.2.2 b1 1 (by rw [tb1]; decide)).trans s809
      have s831 := (xq820.2.2.2.2.2 b1 2 (by rw [tb1]; decide)).trans s810
      have s832 := (xq820.2.2.2.2.2 b1 3 (by rw [tb1]; decide)).trans s811
      have s833 := (xq820.2.2.2.2.2 b2 1 (by rw [tb2]; decide)).trans s812
      have s834 := (xq820.2.2.2.2.2 b2 2 (by rw [tb2]; decide)).trans s813
      have s835 := (xq820.2.2.2.2.2 b2 3 (by rw [tb2]; decide)).trans s814
      have s836 := (xq820.2.2.2.2.2 x 5 (by rw [tx]; decide)).trans s815
      have s837 := (xq820.2.2.2.2.2 x 6 (by rw [tx]; decide)).trans s816
      have s838 := (xq820.2.2.2.2.2 x 7 (by rw [tx]; decide)).trans s817
      have s839 := (xq820.2.2.2.2.2 x 10 (by rw [tx]; decide)).trans s818
      have s840 := (xq820.2.2.2.2.2 x 11 (by rw [tx]; decide)).trans s819
      have s841 := (xq820.2.2.2.2.2 x 12 (by rw [tx]; decide)).trans eh799
      refine gs_put rfl (by decide) rfl sq820 tx rfl rfl rfl rfl (Or.inl rfl) (by decide) (by omega) (by omega) (fun h842 sh842 eh842 fh842 => ?_)
      have s843 := (fh842 x 0 (fun q => absurd q.2 (by decide))).trans s821
      have s844 := (fh842 bn 0 (fun q => absurd (((tbn).symm.trans (congrArg ty q.1)).trans tx) (by decide))).trans s822
      have s845 := (fh842 bn 1 (fun q => absurd (((tbn).symm.trans (congrArg ty q.1)).trans tx) (by decide))).trans s823
      have s846 := (fh842 bn 2 (fun q => absurd (((tbn).symm.trans (congrArg ty q.1)).trans tx) (by decide))).trans s824
      have s847 := (fh842 x 2 (fun q => absurd q.2 (by decide))).trans s825
      have s848 := (fh842 x 3 (fun q => absurd q.2 (by decide))).trans s826
      have s849 := (fh842 b0 1 (fun q => absurd q.2 (by decide))).trans s827
      have s850 := (fh842 b0 2 (fun q => absurd q.2 (by decide))).trans s828
      have s851 := (fh842 b0 3 (fun q => absurd q.2 (by decide))).trans s829
      have s852 := (fh842 b1 1 (fun q => absurd q.2 (by decide))).trans s830
      have s853 := (fh842 b1 2 (fun q => absurd q.2 (by decide))).trans s831
      have s854 := (fh842 b1 3 (fun q => absurd q.2 (by decide))).trans s832
      have s855 := (fh842 b2 1 (fun q => absurd q.2 (by decide))).trans s833
      have s856 := (fh842 b2 2 (fun q => absurd q.2 (by decide))).trans s834
      have s857 := (fh842 b2 3 (fun q => absurd q.2 (by decide))).trans s835
      have s858 := (fh842 x 5 (fun q => absurd q.2 (by decide))).trans s836
      have s859 := (fh842 x 6 (fun q => absurd q.2 (by decide))).trans s837
      have s860 := (fh842 x 7 (fun q => absurd q.2 (by decide))).trans s838
      have s861 := (fh842 x 10 (fun q => absurd q.2 (by decide))).trans s839
      have s862 := (fh842 x 11 (fun q => absurd q.2 (by decide))).trans s840
      have s863 := (fh842 x 12 (fun q => absurd q.2 (by decide))).trans s841
      refine gz_s 2 (pc' := 123) (L' := [some (.ref x), some (.int (zi nw)), some (.int (zi nh)), some (.int (zi n)), some (.int (zi 3))]) (S' := [.int (zi 0), .ref x]) rfl ?_
      refine gs_put rfl (by decide) rfl sh842 tx rfl rfl rfl rfl (Or.inl rfl) (by decide) (by omega) (by omega) (fun h864 sh864 eh864 fh864 => ?_)
      have s865 := (fh864 x 0 (fun q => absurd q.2 (by decide))).trans s843
      have s866 := (fh864 bn 0 (fun q => absurd (((tbn).symm.trans (congrArg ty q.1)).trans tx) (by decide))).trans s844
      have s867 := (fh864 bn 1 (fun q => absurd (((tbn).symm.trans (congrArg ty q.1)).trans tx) (by decide))).trans s845
      have s868 := (fh864 bn 2 (fun q => absurd (((tbn).symm.trans (congrArg ty q.1)).trans tx) (by decide))).trans s846
      have s869 := (fh864 x 2 (fun q => absurd q.2 (by decide))).trans s847
      have s870 := (fh864 x 3 (fun q => absurd q.2 (by decide))).trans s848
      have s871 := (fh864 b0 1 (fun q => absurd q.2 (by decide))).trans s849
      have s872 := (fh864 b0 2 (fun q => absurd q.2 (by decide))).trans s850
      have s873 := (fh864 b0 3 (fun q => absurd q.2 (by decide))).trans s851
      have s874 := (fh864 b1 1 (fun q => absurd q.2 (by decide))).trans s852
      have s875 := (fh864 b1 2 (fun q => absurd q.2 (by decide))).trans s853
      have s876 := (fh864 b1 3 (fun q => absurd q.2 (by decide))).trans s854
      have s877 := (fh864 b2 1 (fun q => absurd q.2 (by decide))).trans s855
      have s878 := (fh864 b2 2 (fun q => absurd q.2 (by decide))).trans s856
      have s879 := (fh864 b2 3 (fun q => absurd q.2 (by decide))).trans s857
      have s880 := (fh864 x 5 (fun q => absurd q.2 (by decide))).trans s858
      have s881 := (fh864 x 6 (fun q => absurd q.2 (by decide))).trans s859
      have s882 := (fh864 x 7 (fun q => absurd q.2 (by decide))).trans s860
      have s883 := (fh864 x 10 (fun q => absurd q.2 (by decide))).trans s861
      have s884 := (fh864 x 11 (fun q => absurd q.2 (by decide))).trans s862
      have s885 := (fh864 x 12 (fun q => absurd q.2 (by decide))).trans s863
      have s886 := (fh864 x 13 (fun q => absurd q.2 (by decide))).trans eh842
      refine gz_s 4 (pc' := 132) (L' := [some (.ref x), some (.int (zi nw)), some (.int (zi nh)), some (.int (zi n)), some (.int (zi 0))]) (S' := [.ref x, .int (zi 0)]) rfl ?_
      refine gs_gtk rfl (by decide) rfl sh864.1 tx rfl rfl s882 ?_
      refine gy_icF rfl (by decide) (by decide) (by omega) (by omega) (by first | (simp [zc]; done) | (simp only [zc]; omega)) ?_
      refine gz_s 2 (pc' := 140) (L' := [some (.ref x), some (.int (zi nw)), some (.int (zi nh)), some (.int (zi n)), some (.int (zi 0))]) (S' := [.ref x, .ref x]) rfl ?_
      refine gs_gtk rfl (by decide) rfl sh864.1 tx rfl rfl s865 ?_
      refine gz_s 1 (pc' := 145) (L' := [some (.ref x), some (.int (zi nw)), some (.int (zi nh)), some (.int (zi n)), some (.int (zi 0))]) (S' := [.int (zi 0), .ref bn, .ref x]) rfl ?_
      have he889 : (0 : Int) = 0 := by omega
      refine gs_aak (j := 0) rfl (by decide) sh864.1 tbn rfl rfl rfl (by decide) he889 (by decide) s866 ?_
      refine gz_call rfl (by decide) rfl (by decide) (by decide) (gcal_of rfl rfl rfl (Nat.le_of_ble_eq_true rfl) (gJ.recv (G := gGG) sh864.1 tx rfl rfl)) (cl_placeBand0 _ sh864.1 x tx b0 tb0 zq778 s885 (by omega) zq820 s886 (by omega) 0 eh864 (by omega) nw s880 (by omega) nh s881 (by omega) zq693 s883 (by omega) zq737 s884 (by omega) hb0 s871 (by omega) vb0 s872 (by omega) (by omega) (by omega) (by omega) (by omega) uq) (fun q890 _ wq890 => ?_)
      obtain ⟨pq890, oq890, hq890⟩ := q890
      obtain ⟨xq890, fq890_0, fq890_1, fq890_2, fq890_3, fq890_4, fq890_5, gq890, efq890_0, afq890_0, bfq890_0, efq890_1, afq890_1, bfq890_1, efq890_2, afq890_2, bfq890_2, efq890_3, afq890_3, bfq890_3, efq890_4, afq890_4, bfq890_4, efq890_5, afq890_5, bfq890_5, uq890_0, uq890_1, uq890_2, uq890_3, uq890_4, uq890_5, uq890_6, uq890_7, uq890_8, uq890_9, uq890_10, uq890_11⟩ := wq890
      refine ⟨_, gq890, ?_⟩
      show gz gPP gGG gcn _ _ 149 [some (.ref x), some (.int (zi nw)), some (.int (zi nh)), some (.int (zi n)), some (.int (zi 0))] [] hq890 _
      have sq890 : gSs rT 1027 ty [54002, 54003, 54005, 54006, 54007, 54008, 54010, 54011, 54012, 54013, 82004, 82005, 82006, 82007, 82008, 83004, 83005, 83006, 83007, 83008, 84004, 84005, 84006, 84007, 84008, 112999, 113999] h hq890 := gSs.tr sh864 xq890 (by decide)
      have s891 := (xq890.2.2.2.2.2 x 0 (by rw [tx]; decide)).trans s865
      have s892 := (xq890.2.2.2.2.2 bn 0 (by rw [tbn]; decide)).trans s866
      have s893 := (xq890.2.2.2.2.2 bn 1 (by rw [tbn]; decide)).trans s867
      have s894 := (xq890.2.2.2.2.2 bn 2 (by rw [tbn]; decide)).trans s868
      have s895 := (xq890.2.2.2.2.2 x 2 (by rw [tx]; decide)).trans s869
      have s896 := (xq890.2.2.2.2.2 x 3 (by rw [tx]; decide)).trans s870
      have s897 := (xq890.2.2.2.2.2 b0 1 (by rw [tb0]; decide)).trans s871
      have s898 := (xq890.2.2.2.2.2 b0 2 (by rw [tb0]; decide)).trans s872
      have s899 := (xq890.2.2.2.2.2 b0 3 (by rw [tb0]; decide)).trans s873
      have s900 := (xq890.2.2.2.2.2 b1 1 (by rw [tb1]; decide)).trans s874
      have s901 := (xq890.2.2.2.2.2 b1 2 (by rw [tb1]; decide)).trans s875
      have s902 := (xq890.2.2.2.2.2 b1 3 (by rw [tb1]; decide)).trans s876
      have s903 := (xq890.2.2.2.2.2 b2 1 (by rw [tb2]; decide)).trans s877
      have s904 := (xq890.2.2.2.2.2 b2 2 (by rw [tb2]; decide)).trans s878
      have s905 := (xq890.2.2.2.2.2 b2 3 (by rw [tb2]; decide)).trans s879
      have s906 := (xq890.2.2.2.2.2 x 5 (by rw [tx]; decide)).trans s880
      have s907 := (xq890.2.2.2.2.2 x 6 (by rw [tx]; decide)).trans s881
      have s908 := (xq890.2.2.2.2.2 x 7 (by rw [tx]; decide)).trans s882
      have s909 := (xq890.2.2.2.2.2 x 10 (by rw [tx]; decide)).trans s883
      have s910 := (xq890.2.2.2.2.2 x 11 (by rw [tx]; decide)).trans s884
      have s911 := (xq890.2.2.2.2.2 x 12 (by rw [tx]; decide)).trans s885
      have s912 := (xq890.2.2.2.2.2 x 13 (by rw [tx]; decide)).trans s886
      refine gy_s 4 (pc' := 132) (L' := [some (.ref x), some (.int (zi nw)), some (.int (zi nh)), some (.int (zi n)), some (.int ((zi 0) + zi 1))]) (S' := [.ref x, .int ((zi 0) + zi 1)]) (L2 := [some (.ref x), some (.int (zi nw)), some (.int (zi nh)), some (.int (zi n)), some (.int (zi 1))]) (S2 := [.ref x, .int (zi 1)]) rfl (by simp only [zi_add, zi_sub, zi_mul, zi_neg, zi_and1, zi_and7, zi_and15, zi_and31, zi_and255, Int.reduceAdd, Int.reduceMul, Int.reduceSub]) (by simp only [zi_add, zi_sub, zi_mul, zi_neg, zi_and1, zi_and7, zi_and15, zi_and31, zi_and255, Int.reduceAdd, Int.reduceMul, Int.reduceSub]) ?_
      refine gs_gtk rfl (by decide) rfl sq890.1 tx rfl rfl s908 ?_
      refine gy_icF rfl (by decide) (by decide) (by omega) (by omega) (by first | (simp [zc]; done) | (simp only [zc]; omega)) ?_
      refine gz_s 2 (pc' := 140) (L' := [some (.ref x), some (.int (zi nw)), some (.int (zi nh)), some (.int (zi n)), some (.int (zi 1))]) (S' := [.ref x, .ref x]) rfl ?_
      refine gs_gtk rfl (by decide) rfl sq890.1 tx rfl rfl s891 ?_
      refine gz_s 1 (pc' := 145) (L' := [some (.ref x), some (.int (zi nw)), some (.int (zi nh)), some (.int (zi n)), some (.int (zi 1))]) (S' := [.int (zi 1), .ref bn, .ref x]) rfl ?_
      have he915 : (1 : Int) = 1 := by omega
      refine gs_aak (j := 1) rfl (by decide) sq890.1 tbn rfl rfl rfl (by decide) he915 (by decide) s893 ?_
      refine gz_call rfl (by decide) rfl (by decide) (by decide) (gcal_of rfl rfl rfl (Nat.le_of_ble_eq_true rfl) (gJ.recv (G := gGG) sq890.1 tx rfl rfl)) (cl_placeBand1 _ sq890.1 x tx b1 tb1 zq778 s911 (by omega) zq820 s912 (by omega) fq890_5 efq890_5 (by omega) nw s906 (by omega) nh s907 (by omega) zq693 s909 (by omega) zq737 s910 (by omega) hb1 s900 (by omega) vb1 s901 (by omega) (by omega) (by omega) (by omega) (by omega) uq) (fun q916 _ wq916 => ?_)
      obtain ⟨pq916, oq916, hq916⟩ := q916
      obtain ⟨xq916, fq916_0, fq916_1, fq916_2, fq916_3, fq916_4, fq916_5, gq916, efq916_0, afq916_0, bfq916_0, efq916_1, afq916_1, bfq916_1, efq916_2, afq916_2, bfq916_2, efq916_3, afq916_3, bfq916_3, efq916_4, afq916_4, bfq916_4, efq916_5, afq916_5, bfq916_5, uq916_0, uq916_1, uq916_2, uq916_3, uq916_4, uq916_5, uq916_6, uq916_7, uq916_8, uq916_9, uq916_10, uq916_11⟩ := wq916
      refine ⟨_, gq916, ?_⟩
      show gz gPP gGG gcn _ _ 149 [some (.ref x), some (.int (zi nw)), some (.int (zi nh)), some (.int (zi n)), some (.int (zi 1))] [] hq916 _
      have sq916 : gSs rT 1027 ty [54002, 54003, 54005, 54006, 54007, 54008, 54010, 54011, 54012, 54013, 82004, 82005, 82006, 82007, 82008, 83004, 83005, 83006, 83007, 83008, 84004, 84005, 84006, 84007, 84008, 112999, 113999] h hq916 := gSs.tr sq890 xq916 (by decide)
      have s917 := (xq916.2.2.2.2.2 x 0 (by rw [tx]; decide)).trans s891
      have s918 := (xq916.2.2.2.2.2 bn 0 (by rw [tbn]; decide)).trans s892
      have s919 := (xq916.2.2.2.2.2 bn 1 (by rw [tbn]; decide)).trans s893
      have s920 := (xq916.2.2.2.2.2 bn 2 (by rw [tbn]; decide)).trans s894
      have s921 := (xq916.2.2.2.2.2 x 2 (by rw [tx]; decide)).trans s895
      have s922 := (xq916.2.2.2.2.2 x 3 (by rw [tx]; decide)).trans s896
      have s923 := (xq916.2.2.2.2.2 b0 1 (by rw [tb0]; decide)).trans s897
      have s924 := (xq916.2.2.2.2.2 b0 2 (by rw [tb0]; decide)).trans s898
      have s925 := (xq916.2.2.2.2.2 b0 3 (by rw [tb0]; decide)).trans s899
      have s926 := (xq916.2.2.2.2.2 b1 1 (by rw [tb1]; decide)).trans s900
      have s927 := (xq916.2.2.2.2.2 b1 2 (by rw [tb1]; decide)).trans s901
      have s928 := (xq916.2.2.2.2.2 b1 3 (by rw [tb1]; decide)).trans s902
      have s929 := (xq916.2.2.2.2.2 b2 1 (by rw [tb2]; decide)).trans s903
      have s930 := (xq916.2.2.2.2.2 b2 2 (by rw [tb2]; decide)).trans s904
      have s931 := (xq916.2.2.2.2.2 b2 3 (by rw [tb2]; decide)).trans s905
      have s932 := (xq916.2.2.2.2.2 x 5 (by rw [tx]; decide)).trans s906
      have s933 := (xq916.2.2.2.2.2 x 6 (by rw [tx]; decide)).trans s907
      have s934 := (xq916.2.2.2.2.2 x 7 (by rw [tx]; decide)).trans s908
      have s935 := (xq916.2.2.2.2.2 x 10 (by rw [tx]; decide)).trans s909
      have s936 := (xq916.2.2.2.2.2 x 11 (by rw [tx]; decide)).trans s910
      have s937 := (xq916.2.2.2.2.2 x 12 (by rw [tx]; decide)).trans s911
      have s938 := (xq916.2.2.2.2.2 x 13 (by rw [tx]; decide)).trans s912
      have s939 := (xq916.2.2.2.2.2 b0 4 (by rw [tb0]; decide)).trans efq890_0
      have s940 := (xq916.2.2.2.2.2 b0 5 (by rw [tb0]; decide)).trans efq890_1
      have s941 := (xq916.2.2.2.2.2 b0 6 (by rw [tb0]; decide)).trans efq890_2
      have s942 := (xq916.2.2.2.2.2 b0 7 (by rw [tb0]; decide)).trans efq890_3
      have s943 := (xq916.2.2.2.2.2 b0 8 (by rw [tb0]; decide)).trans efq890_4
      refine gy_s 4 (pc' := 132) (L' := [some (.ref x), some (.int (zi nw)), some (.int (zi nh)), some (.int (zi n)), some (.int ((zi 1) + zi 1))]) (S' := [.ref x, .int ((zi 1) + zi 1)]) (L2 := [some (.ref x), some (.int (zi nw)), some (.int (zi nh)), some (.int (zi n)), some (.int (zi 2))]) (S2 := [.ref x, .int (zi 2)]) rfl (by simp only [zi_add, zi_sub, zi_mul, zi_neg, zi_and1, zi_and7, zi_and15, zi_and31, zi_and255, Int.reduceAdd, Int.reduceMul, Int.reduceSub]) (by simp only [zi_add, zi_sub, zi_mul, zi_neg, zi_and1, zi_and7, zi_and15, zi_and31, zi_and255, Int.reduceAdd, Int.reduceMul, Int.reduceSub]) ?_
      refine gs_gtk rfl (by decide) rfl sq916.1 tx rfl rfl s934 ?_
      refine gy_icF rfl (by decide) (by decide) (by omega) (by omega) (by first | (simp [zc]; done) | (simp only [zc]; omega)) ?_
      refine gz_s 2 (pc' := 140) (L' := [some (.ref x), some (.int (zi nw)), some (.int (zi nh)), some (.int (zi n)), some (.int (zi 2))]) (S' := [.ref x, .ref x]) rfl ?_
      refine gs_gtk rfl (by decide) rfl sq916.1 tx rfl rfl s917 ?_
      refine gz_s 1 (pc' := 145) (L' := [some (.ref x), some (.int (zi nw)), some (.int (zi nh)), some (.int (zi n)), some (.int (zi 2))]) (S' := [.int (zi 2), .ref bn, .ref x]) rfl ?_
      have he946 : (2 : Int) = 2 := by omega
      refine gs_aak (j := 2) rfl (by decide) sq916.1 tbn rfl rfl rfl (by decide) he946 (by decide) s920 ?_
      refine gz_call rfl (by decide) rfl (by decide) (by decide) (gcal_of rfl rfl rfl (Nat.le_of_ble_eq_true rfl) (gJ.recv (G := gGG) sq916.1 tx rfl rfl)) (cl_placeBand2 _ sq916.1 x tx b2 tb2 zq778 s937 (by omega) zq820 s938 (by omega) fq916_5 efq916_5 (by omega) nw s932 (by omega) nh s933 (by omega) zq693 s935 (by omega) zq737 s936 (by omega) hb2 s929 (by omega) vb2 s930 (by omega) (by omega) (by omega) (by omega) (by omega) uq) (fun q947 _ wq947 => ?_)
      obtain ⟨pq947, oq947, hq947⟩ := q947
      obtain ⟨xq947, fq947_0, fq947_1, fq947_2, fq947_3, fq947_4, fq947_5, gq947, efq947_0, afq947_0, bfq947_0, efq947_1, afq947_1, bfq947_1, efq947_2, afq947_2, bfq947_2, efq947_3, afq947_3, bfq947_3, efq947_4, afq947_4, bfq947_4, efq947_5, afq947_5, bfq947_5, uq947_0, uq947_1, uq947_2, uq947_3, uq947_4, uq947_5, uq947_6, uq947_7, uq947_8, uq947_9, uq947_10, uq947_11⟩ := wq947
      refine ⟨_, gq947, ?_⟩
      show gz gPP gGG gcn _ _ 149 [some (.ref x), some (.int (zi nw)), some (.int (zi nh)), some (.int (zi n)), some (.int (zi 2))] [] hq947 _
      have sq947 : gSs rT 1027 ty [54002, 54003, 54005, 54006, 54007, 54008, 54010, 54011, 54012, 54013, 82004, 82005, 82006, 82007, 82008, 83004, 83005, 83006, 83007, 83008, 84004, 84005, 84006, 84007, 84008, 112999, 113999] h hq947 := gSs.tr sq916 xq947 (by decide)
      have s948 := (xq947.2.2.2.2.2 x 0 (by rw [tx]; decide)).trans s917
      have s949 := (xq947.2.2.2.2.2 bn 0 (by rw [tbn]; decide)).trans s918
      have s950 := (xq947.2.2.2.2.2 bn 1 (by rw [tbn]; decide)).trans s919
      have s951 := (xq947.2.2.2.2.2 bn 2 (by rw [tbn]; decide)).trans s920
      have s952 := (xq947.2.2.2.2.2 x 2 (by rw [tx]; decide)).trans s921
      have s953 := (xq947.2.2.2.2.2 x 3 (by rw [tx]; decide)).trans s922
      have s954 := (xq947.2.2.2.2.2 b0 1 (by rw [tb0]; decide)).trans s923
      have s955 := (xq947.2.2.2.2.2 b0 2 (by rw [tb0]; decide)).trans s924
      have s956 := (xq947.2.2.2.2.2 b0 3 (by rw [tb0]; decide)).trans s925
      have s957 := (xq947.2.2.2.2.2 b1 1 (by rw [tb1]; decide)).trans s926
      have s958 := (xq947.2.2.2.2.2 b1 2 (by rw [tb1]; decide)).trans s927
      have s959 := (xq947.2.2.2.2.2 b1 3 (by rw [tb1]; decide)).trans s928
      have s960 := (xq947.2.2.2.2.2 b2 1 (by rw [tb2]; decide)).trans s929
      have s961 := (xq947.2.2.2.2.2 b2 2 (by rw [tb2]; decide)).trans s930
      have s962 := (xq947.2.2.2.2.2 b2 3 (by rw [tb2]; decide)).trans s931
      have s963 := (xq947.2.2.2.2.2 x 5 (by rw [tx]; decide)).trans s932
      have s964 := (xq947.2.2.2.2.2 x 6 (by rw [tx]; decide)).trans s933
      have s965 := (xq947.2.2.2.2.2 x 7 (by rw [tx]; decide)).trans s934
      have s966 := (xq947.2.2.2.2.2 x 10 (by rw [tx]; decide)).trans s935
      have s967 := (xq947.2.2.2.2.2 x 11 (by rw [tx]; decide)).trans s936
      have s968 := (xq947.2.2.2.2.2 x 12 (by rw [tx]; decide)).trans s937
      have s969 := (xq947.2.2.2.2.2 x 13 (by rw [tx]; decide)).trans s938
      have s970 := (xq947.2.2.2.2.2 b0 4 (by rw [tb0]; decide)).trans s939
      have s971 := (xq947.2.2.2.2.2 b0 5 (by rw [tb0]; decide)).trans s940
      have s972 := (xq947.2.2.2.2.2 b0 6 (by rw [tb0]; decide)).trans s941
      have s973 := (xq947.2.2.2.2.2 b0 7 (by rw [tb0]; decide)).trans s942
      have s974 := (xq947.2.2.2.2.2 b0 8 (by rw [tb0]; decide)).trans s943
      have s975 := (xq947.2.2.2.2.2 b1 4 (by rw [tb1]; decide)).trans efq916_0
      have s976 := (xq947.2.2.2.2.2 b1 5 (by rw [tb1]; decide)).trans efq916_1
      have s977 := (xq947.2.2.2.2.2 b1 6 (by rw [tb1]; decide)).trans efq916_2
      have s978 := (xq947.2.2.2.2.2 b1 7 (by rw [tb1]; decide)).trans efq916_3
      have s979 := (xq947.2.2.2.2.2 b1 8 (by rw [tb1]; decide)).trans efq916_4
      refine gy_s 4 (pc' := 132) (L' := [some (.ref x), some (.int (zi nw)), some (.int (zi nh)), some (.int (zi n)), some (.int ((zi 2) + zi 1))]) (S' := [.ref x, .int ((zi 2) + zi 1)]) (L2 := [some (.ref x), some (.int (zi nw)), some (.int (zi nh)), some (.int (zi n)), some (.int (zi 3))]) (S2 := [.ref x, .int (zi 3)]) rfl (by simp only [zi_add, zi_sub, zi_mul, zi_neg, zi_and1, zi_and7, zi_and15, zi_and31, zi_and255, Int.reduceAdd, Int.reduceMul, Int.reduceSub]) (by simp only [zi_add, zi_sub, zi_mul, zi_neg, zi_and1, zi_and7, zi_and15, zi_and31, zi_and255, Int.reduceAdd, Int.reduceMul, Int.reduceSub]) ?_
      refine gs_gtk rfl (by decide) rfl sq947.1 tx rfl rfl s965 ?_
      refine gy_icT (pc' := 155) rfl (by decide) (by decide) (by omega) (by omega) (by first | (simp [zc]; done) | (simp only [zc]; omega)) ?_
      refine gz_s 1 (pc' := 156) (L' := [some (.ref x), some (.int (zi nw)), some (.int (zi nh)), some (.int (zi n)), some (.int (zi 3))]) (S' := [.ref x]) rfl ?_
      have k980 := sq947.2.1
      have k980b := sq947.2.2.1
      have hl981 : hq947.2.2.2.1 co = h.2.2.2.1 co := congrFun sq947.2.2.2.2.1 co
      have hl982 : hq947.2.2.2.1 dm = h.2.2.2.1 dm := congrFun sq947.2.2.2.2.1 dm
      have hl983 : hq947.2.2.2.1 co = h.2.2.2.1 co := congrFun sq947.2.2.2.2.1 co
      have hl984 : hq947.2.2.2.1 dm = h.2.2.2.1 dm := congrFun sq947.2.2.2.2.1 dm
      refine gz_call rfl (by decide) rfl (by decide) (by decide) (gcal_of rfl rfl rfl (Nat.le_of_ble_eq_true rfl) (gJ.recv (G := gGG) sq947.1 tx rfl rfl)) (cl_Picture_clearBlocks _ sq947.1 x tx co s952 tco dm s953 tdm fq947_5 efq947_5 (by omega) (by omega) uq) (fun q985 _ wq985 => ?_)
      obtain ⟨pq985, oq985, hq985⟩ := q985
      obtain ⟨tyq985, xq985, cq985_0, cq985_1, ttq985, ecq985_0, tcq985_0, ecq985_1, tcq985_1, gq985, uq985_0, uq985_1, uq985_2, uq985_3, uq985_4⟩ := wq985
      dsimp only at uq985_0 uq985_1 uq985_2 uq985_3 uq985_4
      refine ⟨_, gq985, ?_⟩
      show gz gPP gGG gcn _ _ 159 [some (.ref x), some (.int (zi nw)), some (.int (zi nh)), some (.int (zi n)), some (.int (zi 3))] [] hq985 _
      have G986 : gSg [112, 113] [] [54002, 54003, 54005, 54006, 54007, 54008, 54010, 54011, 54012, 54013, 82004, 82005, 82006, 82007, 82008, 83004, 83005, 83006, 83007, 83008, 84004, 84005, 84006, 84007, 84008, 112999, 113999] ty h tyq985 hq985 := gSg.tr (gSg.ss G0 sq947 (by decide)) xq985 (by decide) (by decide) (fun x hx => by cases hx)
      have t987 : tyq985 x = 54 := gSg.typ xq985 sq947.1 tx rfl
      have t988 : tyq985 bn = 57 := gSg.typ xq985 sq947.1 tbn rfl
      have t989 : tyq985 b0 = 82 := gSg.typ xq985 sq947.1 tb0 rfl
      have t990 : tyq985 b1 = 83 := gSg.typ xq985 sq947.1 tb1 rfl
      have t991 : tyq985 b2 = 84 := gSg.typ xq985 sq947.1 tb2 rfl
      have t992 : tyq985 co = 112 := gSg.typ xq985 sq947.1 tco rfl
      have hl993 : hq985.2.2.2.1 co = hq947.2.2.2.1 co := gSg.len xq985 sq947.1 tco rfl
      have t994 : tyq985 dm = 113 := gSg.typ xq985 sq947.1 tdm rfl
      have hl995 : hq985.2.2.2.1 dm = hq947.2.2.2.1 dm := gSg.len xq985 sq947.1 tdm rfl
      have s996 := gSg.at xq985 sq947.1 tx rfl (by decide) s948
      have s997 := gSg.at xq985 sq947.1 tbn rfl (by decide) s949
      have s998 := gSg.at xq985 sq947.1 tbn rfl (by decide) s950
      have s999 := gSg.at xq985 sq947.1 tbn rfl (by decide) s951
      have s1000 := gSg.at xq985 sq947.1 tb0 rfl (by decide) s954
      have s1001 := gSg.at xq985 sq947.1 tb0 rfl (by decide) s955
      have s1002 := gSg.at xq985 sq947.1 tb0 rfl (by decide) s956
      have s1003 := gSg.at xq985 sq947.1 tb1 rfl (by decide) s957
      have s1004 := gSg.at xq985 sq947.1 tb1 rfl (by decide) s958
      have s1005 := gSg.at xq985 sq947.1 tb1 rfl (by decide) s959
      have s1006 := gSg.at xq985 sq947.1 tb2 rfl (by decide) s960
      have s1007 := gSg.at xq985 sq947.1 tb2 rfl (by decide) s961
      have s1008 := gSg.at xq985 sq947.1 tb2 rfl (by decide) s962
      have s1009 := gSg.at xq985 sq947.1 tx rfl (by decide) s963
      have s1010 := gSg.at xq985 sq947.1 tx rfl (by decide) s964
      have s1011 := gSg.at xq985 sq947.1 tx rfl (by decide) s965
      have s1012 := gSg.at xq985 sq947.1 tx rfl (by decide) s966
      have s1013 := gSg.at xq985 sq947.1 tx rfl (by decide) s967
      have s1014 := gSg.at xq985 sq947.1 tx rfl (by decide) s968
      have s1015 := gSg.at xq985 sq947.1 tx rfl (by decide) s969
      have s1016 := gSg.at xq985 sq947.1 tb0 rfl (by decide) s970
      have s1017 := gSg.at xq985 sq947.1 tb0 rfl (by decide) s971
      have s1018 := gSg.at xq985 sq947.1 tb0 rfl (by decide) s972
      have s1019 := gSg.at xq985 sq947.1 tb0 rfl (by decide) s973
      have s1020 := gSg.at xq985 sq947.1 tb0 rfl (by decide) s974
      have s1021 := gSg.at xq985 sq947.1 tb1 rfl (by decide) s975
      have s1022 := gSg.at xq985 sq947.1 tb1 rfl (by decide) s976
      have s1023 := gSg.at xq985 sq947.1 tb1 rfl (by decide) s977
      have s1024 := gSg.at xq985 sq947.1 tb1 rfl (by decide) s978
      have s1025 := gSg.at xq985 sq947.1 tb1 rfl (by decide) s979
      have s1026 := gSg.at xq985 sq947.1 tb2 rfl (by decide) efq947_0
      have s1027 := gSg.at xq985 sq947.1 tb2 rfl (by decide) efq947_1
      have s1028 := gSg.at xq985 sq947.1 tb2 rfl (by decide) efq947_2
      have s1029 := gSg.at xq985 sq947.1 tb2 rfl (by decide) efq947_3
      have s1030 := gSg.at xq985 sq947.1 tb2 rfl (by decide) efq947_4
      have s1031 := gSg.at xq985 sq947.1 tx rfl (by decide) efq947_5
      have uq1032 := gSg.uq xq985 uq (by decide)
      have sS1033 : gSs rT 1027 tyq985 [54002, 54003, 54005, 54006, 54007, 54008, 54010, 54011, 54012, 54013, 82004, 82005, 82006, 82007, 82008, 83004, 83005, 83006, 83007, 83008, 84004, 84005, 84006, 84007, 84008, 112999, 113999] hq985 hq985 := gSs.rf xq985.1
      have hl1034 : 0 ≤ hq985.2.2.2.1 co ∧ hq985.2.2.2.1 co ≤ 12288 := gJ.rowl (G := gGG) sS1033.1 t992 rfl
      have hl1035 : 0 ≤ hq985.2.2.2.1 dm ∧ hq985.2.2.2.1 dm ≤ 192 := gJ.rowl (G := gGG) sS1033.1 t994 rfl
      have hl1036 : 0 ≤ hq985.2.2.2.1 cq985_0 ∧ hq985.2.2.2.1 cq985_0 ≤ 12288 := gJ.rowl (G := gGG) sS1033.1 tcq985_0 rfl
      have hl1037 : 0 ≤ hq985.2.2.2.1 cq985_1 ∧ hq985.2.2.2.1 cq985_1 ≤ 192 := gJ.rowl (G := gGG) sS1033.1 tcq985_1 rfl
      have hpc1038 : gPC tyq985 x b0 b1 b2 (hq985.2.2.2.1 cq985_1 : Int) hq985 := gPC.mk ⟨t987, t989, t990, t991⟩ ⟨t988, tcq985_0, tcq985_1⟩ ⟨s996, s997, s998, s999, ecq985_0, ecq985_1⟩ s1011 s1014 s1015 s1031 s1009 s1010 s1012 s1013 s1000 s1001 s1002 s1016 s1017 s1018 s1019 s1020 s1003 s1004 s1005 s1021 s1022 s1023 s1024 s1025 s1006 s1007 s1008 s1026 s1027 s1028 s1029 s1030 ⟨by omega, by omega⟩ ⟨by omega, by omega⟩ ⟨by omega, by omega⟩ ⟨by omega, by omega⟩ ⟨by omega, by omega⟩ ⟨by omega, by omega⟩ ⟨by omega, by omega⟩ ⟨by omega, by omega⟩ ⟨by omega, by omega⟩ ⟨by omega, by omega⟩ ⟨by omega, by omega⟩ ⟨by omega, by omega⟩ ⟨by omega, by omega⟩ ⟨by omega, by omega⟩ ⟨by omega, by omega⟩ ⟨by omega, by omega⟩ ⟨by omega, by omega⟩ ⟨by omega, by omega⟩ ⟨by omega, by omega⟩ ⟨by omega, by omega⟩ ⟨by omega, by omega⟩ ⟨by omega, by omega⟩ ⟨by omega, by omega⟩ ⟨by omega, by omega⟩ ⟨by omega, by omega⟩ ⟨by omega, by omega⟩ ⟨by omega, by omega⟩ ⟨by omega, by omega⟩ ⟨by omega, by omega⟩ ⟨by omega, by omega⟩ ⟨by omega, by omega⟩ ⟨by omega, by omega⟩ (fun w => by unfold gPq; (repeat' apply And.intro) <;> omega) (fun w => by unfold gPq; (repeat' apply And.intro) <;> omega) (fun w => by unfold gPq; (repeat' apply And.intro) <;> omega) (fun w => by (repeat' apply And.intro) <;> omega) (fun w => by (repeat' apply And.intro) <;> omega) (fun w => by (repeat' apply And.intro) <;> omega) (fun w => by (repeat' apply And.intro) <;> omega) (fun w => by (repeat' apply And.intro) <;> omega) (by omega) (by omega) (by omega) (by omega)
      have G1039 : gSg [112, 113] [] [54002, 54003, 54005, 54006, 54007, 54008, 54010, 54011, 54012, 54013, 82004, 82005, 82006, 82007, 82008, 83004, 83005, 83006, 83007, 83008, 84004, 84005, 84006, 84007, 84008, 112999, 113999] ty h tyq985 hq985 := gSg.ss G986 sS1033 (by decide)
      exact gz_end (I := .return_) (len := 1) rfl (Or.inl rfl) ⟨tyq985, G1039, n, (hq985.2.2.2.1 cq985_1 : Int), rfl, s1011, (by omega), (by omega), (by omega), (by omega), (by omega), (by dsimp only; omega), (by dsimp only; omega), (by omega), hpc1038⟩
