/-! ===== methods of the landed text (by program) ===== -/
set_option maxRecDepth 20000 in
set_option maxHeartbeats 4000000 in
theorem cl_Picture_clearBlocks (d : Nat) {ty : Nat → Nat} {h : gH} (hJ : gJ rT 1027 ty h) (x : Nat) (tx : ty x = 54) (co : Nat) (eco : h.2.2.2.2 x 2 = .ref co) (tco : ty co = 112) (dm : Nat) (edm : h.2.2.2.2 x 3 = .ref dm) (tdm : ty dm = 113) (bl : Int) (ebl : h.2.2.2.2 x 8 = .int (zi bl)) (rbl : 1 ≤ bl ∧ bl ≤ 192) (pp0 : (h.2.2.2.1 co : Int) = 64 * (h.2.2.2.1 dm : Int)) (uq : gUq ty) : gz gPP gGG gcn (d + 1) gt35 0 (gent [.ref x] 1) [] h (fun q _ => ∃ ty9 : Nat → Nat, gSg [112, 113] [] [54002, 54003, 112999, 113999] ty h ty9 q.2.2 ∧ ∃ co2 dm2 : Nat, True ∧ q.2.2.2.2.2.2 x 2 = .ref co2 ∧ ty9 co2 = 112 ∧ q.2.2.2.2.2.2 x 3 = .ref dm2 ∧ ty9 dm2 = 113 ∧ gfin gt35 q.1 q.2.1 = some none ∧ ((q.2.2.2.2.2.1 co2 : Int) = 64 * (q.2.2.2.2.2.1 dm2 : Int)) ∧ (bl ≤ (q.2.2.2.2.2.1 dm2 : Int)) ∧ (((q.2.2.1 : Int) - h.1) ≤ 2 * ((q.2.2.2.2.2.1 dm2 : Int) - h.2.2.2.1 dm)) ∧ (((q.2.2.2.1 : Int) - h.2.1) ≤ 12480 * ((q.2.2.2.2.2.1 dm2 : Int) - h.2.2.2.1 dm)) ∧ ((h.2.2.2.1 dm : Int) ≤ (q.2.2.2.2.2.1 dm2 : Int))) := by
  have hS : gSs rT 1027 ty [54002, 54003, 112999, 113999] h h := gSs.rf hJ
  have G0 : gSg [112, 113] [] [54002, 54003, 112999, 113999] ty h ty h := gSg.rf hJ (fun x hx => by cases hx)
  refine gz_s 1 (pc' := 1) (L' := [some (.ref x)]) (S' := [.ref x]) rfl ?_
  refine gs_gtk rfl (by decide) rfl hS.1 tx rfl rfl edm ?_
  refine gs_len rfl (by decide) hS.1 tdm rfl rfl rfl (fun z1 ez1 az1 bz1 => ?_)
  have cz1 : 0 ≤ z1 ∧ z1 ≤ 192 := ⟨az1, bz1⟩
  refine gz_s 1 (pc' := 6) (L' := [some (.ref x)]) (S' := [.ref x, .int (zi z1)]) rfl ?_
  refine gs_gtk rfl (by decide) rfl hS.1 tx rfl rfl ebl ?_
  by_cases hc2 : (bl : Int) ≤ z1
  · refine gy_icT (pc' := 38) rfl (by decide) (by decide) (by omega) (by omega) hc2 ?_
    refine gz_s 1 (pc' := 39) (L' := [some (.ref x)]) (S' := [.ref x]) rfl ?_
    refine gs_gtk rfl (by decide) rfl hS.1 tx rfl rfl edm ?_
    refine gz_s 1 (pc' := 43) (L' := [some (.ref x)]) (S' := [.int (zi 0), .ref dm]) rfl ?_
    refine gz_call rfl (by decide) rfl (by decide) (by decide) (gcal_of rfl rfl rfl (Nat.le_of_ble_eq_true rfl) rfl) (cl_fill_damaged _ hS.1 dm tdm 0 (by omega) ) (fun q3 _ wq3 => ?_)
    obtain ⟨pq3, oq3, hq3⟩ := q3
    obtain ⟨xq3, gq3⟩ := wq3
    refine ⟨_, gq3, ?_⟩
    show gz gPP gGG gcn _ _ 46 [some (.ref x)] [] hq3 _
    have sq3 : gSs rT 1027 ty [54002, 54003, 112999, 113999] h hq3 := gSs.tr hS xq3 (by decide)
    have s4 := (xq3.2.2.2.2.2 x 2 (by rw [tx]; decide)).trans eco
    have s5 := (xq3.2.2.2.2.2 x 3 (by rw [tx]; decide)).trans edm
    have s6 := (xq3.2.2.2.2.2 x 8 (by rw [tx]; decide)).trans ebl
    refine gz_s 1 (pc' := 47) (L' := [some (.ref x)]) (S' := [.ref x]) rfl ?_
    refine gs_gtk rfl (by decide) rfl sq3.1 tx rfl rfl s4 ?_
    refine gz_s 1 (pc' := 51) (L' := [some (.ref x)]) (S' := [.int (zi 0), .ref co]) rfl ?_
    refine gz_call rfl (by decide) rfl (by decide) (by decide) (gcal_of rfl rfl rfl (Nat.le_of_ble_eq_true rfl) rfl) (cl_fill_coefficients _ sq3.1 co tco 0 (by omega) ) (fun q7 _ wq7 => ?_)
    obtain ⟨pq7, oq7, hq7⟩ := q7
    obtain ⟨xq7, gq7⟩ := wq7
    refine ⟨_, gq7, ?_⟩
    show gz gPP gGG gcn _ _ 54 [some (.ref x)] [] hq7 _
    have sq7 : gSs rT 1027 ty [54002, 54003, 112999, 113999] h hq7 := gSs.tr sq3 xq7 (by decide)
    have s8 := (xq7.2.2.2.2.2 x 2 (by rw [tx]; decide)).trans s4
    have s9 := (xq7.2.2.2.2.2 x 3 (by rw [tx]; decide)).trans s5
    have s10 := (xq7.2.2.2.2.2 x 8 (by rw [tx]; decide)).trans s6
    have k11 := sq7.2.1
    have k11b := sq7.2.2.1
    have hl12 : hq7.2.2.2.1 co = h.2.2.2.1 co := congrFun sq7.2.2.2.2.1 co
    have hl13 : hq7.2.2.2.1 dm = h.2.2.2.1 dm := congrFun sq7.2.2.2.2.1 dm
    have G14 : gSg [112, 113] [] [54002, 54003, 112999, 113999] ty h ty hq7 := gSg.ss G0 sq7 (by decide)
    exact gz_end (I := .return_) (len := 1) rfl (Or.inl rfl) ⟨ty, G14, co, dm, trivial, s8, tco, s9, tdm, rfl, (by omega), (by omega), (by omega), (by omega), (by omega)⟩
  · refine gy_icF rfl (by decide) (by decide) (by omega) (by omega) hc2 ?_
    refine gz_s 2 (pc' := 14) (L' := [some (.ref x)]) (S' := [.ref x, .ref x]) rfl ?_
    refine gs_gtk rfl (by decide) rfl hS.1 tx rfl rfl ebl ?_
    refine gs_newr 113 rfl (by decide) rfl hS.1 (Nat.le_of_lt (Nat.lt_of_le_of_lt (gJ.cell hS.1 tx rfl).1 (gJ.cell hS.1 tx rfl).2.1)) (by omega) (by omega) rfl rfl (by show (0 : Int) ≤ _; omega) (by show _ ≤ (192 : Int); omega) (fun _ _ => gos_i (by decide) (by decide)) (fun ty15 h16 c17 g18 tc17 lc17 nc17 mc17 ec17 dc17 uc17 => ?_)
    have gac17 : h.1 ≤ c17 := by have h8 := G0.2.1; have h9 := hS.2.1; omega
    have uq19 := uc17 uq (Or.inl (by decide))
    have G20 : gSg [112, 113] [] [54002, 54003, 112999, 113999] ty h ty15 h16 := gSg.tr (gSg.ss G0 hS (by decide)) g18 (by decide) (by decide) (fun x hx => by cases hx)
    have t21 : ty15 x = 54 := gSg.typ g18 hS.1 tx rfl
    have t22 : ty15 co = 112 := gSg.typ g18 hS.1 tco rfl
    have hl23 : h16.2.2.2.1 co = h.2.2.2.1 co := gSg.len g18 hS.1 tco rfl
    have t24 : ty15 dm = 113 := gSg.typ g18 hS.1 tdm rfl
    have hl25 : h16.2.2.2.1 dm = h.2.2.2.1 dm := gSg.len g18 hS.1 tdm rfl
    have s26 := gSg.at g18 hS.1 tx rfl (by decide) eco
    have s27 := gSg.at g18 hS.1 tx rfl (by decide) edm
    have s28 := gSg.at g18 hS.1 tx rfl (by decide) ebl
    have sS29 : gSs rT 1027 ty15 [54002, 54003, 112999, 113999] h16 h16 := gSs.rf g18.1
    refine gs_ptr rfl (by decide) rfl sS29 t21 rfl rfl (Or.inl rfl) rfl (Or.inl rfl) (by decide) tc17 (fun h30 sh30 eh30 fh30 => ?_)
    have s31 := (fh30 x 2 (fun q => absurd q.2 (by decide))).trans s26
    have s32 := (fh30 x 8 (fun q => absurd q.2 (by decide))).trans s28
    refine gz_s 2 (pc' := 24) (L' := [some (.ref x)]) (S' := [.ref x, .ref x]) rfl ?_
    refine gs_gtk rfl (by decide) rfl sh30.1 t21 rfl rfl s32 ?_
    refine gy_s 2 (pc' := 30) (L' := [some (.ref x)]) (S' := [.int ((zi bl) * (zi 64)), .ref x]) (L2 := [some (.ref x)]) (S2 := [.int (zi (bl * 64)), .ref x]) rfl (by simp only [zi_add, zi_sub, zi_mul, zi_neg, zi_and1, zi_and7, zi_and15, zi_and31, zi_and255]) (by simp only [zi_add, zi_sub, zi_mul, zi_neg, zi_and1, zi_and7, zi_and15, zi_and31, zi_and255]) ?_
    refine gs_newr 112 rfl (by decide) rfl sh30.1 (Nat.le_of_lt (Nat.lt_of_le_of_lt (gJ.cell sh30.1 t21 rfl).1 (gJ.cell sh30.1 t21 rfl).2.1)) (by omega) (by omega) rfl rfl (by show (0 : Int) ≤ _; omega) (by show _ ≤ (12288 : Int); omega) (fun _ _ => gos_i (by decide) (by decide)) (fun ty33 h34 c35 g36 tc35 lc35 nc35 mc35 ec35 dc35 uc35 => ?_)
    have gac35 : h.1 ≤ c35 := by have h8 := G20.2.1; have h9 := sh30.2.1; omega
    have k37 := sh30.2.1
    have k37b := sh30.2.2.1
    have hl38 : h30.2.2.2.1 co = h16.2.2.2.1 co := congrFun sh30.2.2.2.2.1 co
    have hl39 : h30.2.2.2.1 dm = h16.2.2.2.1 dm := congrFun sh30.2.2.2.2.1 dm
    have hl40 : h30.2.2.2.1 c17 = h16.2.2.2.1 c17 := congrFun sh30.2.2.2.2.1 c17
    have uq41 := uc35 uq19 (Or.inl (by decide))
    have G42 : gSg [112, 113] [] [54002, 54003, 112999, 113999] ty h ty33 h34 := gSg.tr (gSg.ss G20 sh30 (by decide)) g36 (by decide) (by decide) (fun x hx => by cases hx)
    have t43 : ty33 x = 54 := gSg.typ g36 sh30.1 t21 rfl
    have t44 : ty33 co = 112 := gSg.typ g36 sh30.1 t22 rfl
    have hl45 : h34.2.2.2.1 co = h30.2.2.2.1 co := gSg.len g36 sh30.1 t22 rfl
    have t46 : ty33 dm = 113 := gSg.typ g36 sh30.1 t24 rfl
    have hl47 : h34.2.2.2.1 dm = h30.2.2.2.1 dm := gSg.len g36 sh30.1 t24 rfl
    have t48 : ty33 c17 = 113 := gSg.typ g36 sh30.1 tc17 rfl
    have hl49 : h34.2.2.2.1 c17 = h30.2.2.2.1 c17 := gSg.len g36 sh30.1 tc17 rfl
    have s50 := gSg.at g36 sh30.1 t21 rfl (by decide) s31
    have s51 := gSg.at g36 sh30.1 t21 rfl (by decide) s32
    have s52 := gSg.at g36 sh30.1 t21 rfl (by decide) eh30
    have sS53 : gSs rT 1027 ty33 [54002, 54003, 112999, 113999] h34 h34 := gSs.rf g36.1
    refine gs_ptr rfl (by decide) rfl sS53 t43 rfl rfl (Or.inl rfl) rfl (Or.inl rfl) (by decide) tc35 (fun h54 sh54 eh54 fh54 => ?_)
    have s55 := (fh54 x 8 (fun q => absurd q.2 (by decide))).trans s51
    have s56 := (fh54 x 3 (fun q => absurd q.2 (by decide))).trans s52
    refine gz_s 1 (pc' := 54) (L' := [some (.ref x)]) (S' := []) rfl ?_
    have k57 := sh54.2.1
    have k57b := sh54.2.2.1
    have hl58 : h54.2.2.2.1 co = h34.2.2.2.1 co := congrFun sh54.2.2.2.2.1 co
    have hl59 : h54.2.2.2.1 dm = h34.2.2.2.1 dm := congrFun sh54.2.2.2.2.1 dm
    have hl60 : h54.2.2.2.1 c17 = h34.2.2.2.1 c17 := congrFun sh54.2.2.2.2.1 c17
    have hl61 : h54.2.2.2.1 c35 = h34.2.2.2.1 c35 := congrFun sh54.2.2.2.2.1 c35
    have G62 : gSg [112, 113] [] [54002, 54003, 112999, 113999] ty h ty33 h54 := gSg.ss G42 sh54 (by decide)
    exact gz_end (I := .return_) (len := 1) rfl (Or.inl rfl) ⟨ty33, G62, c35, c17, trivial, eh54, tc35, s56, t48, rfl, (by omega), (by omega), (by omega), (by omega), (by omega)⟩
set_option maxRecDepth 20000 in
set_option maxHeartbeats 4000000 in
theorem cl_Picture_begin (d : Nat) {ty : Nat → Nat} {h : gH} (hJ : gJ rT 1027 ty h) (x : Nat) (tx : ty x = 54) (nw : Int) (rnw : 1 ≤ nw ∧ nw ≤ 64) (nh : Int) (rnh : 1 ≤ nh ∧ nh ≤ 64) (n : Int) (rn : 1 ≤ n ∧ n ≤ 3) (bn : Nat) (ebn : h.2.2.2.2 x 0 = .ref bn) (tbn : ty bn = 57) (b0 : Nat) (eb0 : h.2.2.2.2 bn 0 = .ref b0) (tb0 : ty b0 = 82) (b1 : Nat) (eb1 : h.2.2.2.2 bn 1 = .ref b1) (tb1 : ty b1 = 83) (b2 : Nat) (eb2 : h.2.2.2.2 bn 2 = .ref b2) (tb2 : ty b2 = 84) (co : Nat) (eco : h.2.2.2.2 x 2 = .ref co) (tco : ty co = 112) (dm : Nat) (edm : h.2.2.2.2 x 3 = .ref dm) (tdm : ty dm = 113) (hb0 : Int) (ehb0 : h.2.2.2.2 b0 1 = .int (zi hb0)) (rhb0 : (-1) ≤ hb0 ∧ hb0 ≤ 15) (vb0 : Int) (evb0 : h.2.2.2.2 b0 2 = .int (zi vb0)) (rvb0 : 0 ≤ vb0 ∧ vb0 ≤ 15) (tq0 : Int) (etq0 : h.2.2.2.2 b0 3 = .int (zi tq0)) (rtq0 : (-1) ≤ tq0 ∧ tq0 ≤ 255) (hb1 : Int) (ehb1 : h.2.2.2.2 b1 1 = .int (zi hb1)) (rhb1 : (-1) ≤ hb1 ∧ hb1 ≤ 15) (vb1 : Int) (evb1 : h.2.2.2.2 b1 2 = .int (zi vb1)) (rvb1 : 0 ≤ vb1 ∧ vb1 ≤ 15) (tq1 : Int) (etq1 : h.2.2.2.2 b1 3 = .int (zi tq1)) (rtq1 : (-1) ≤ tq1 ∧ tq1 ≤ 255) (hb2 : Int) (ehb2 : h.2.2.2.2 b2 1 = .int (zi hb2)) (rhb2 : (-1) ≤ hb2 ∧ hb2 ≤ 15) (vb2 : Int) (evb2 : h.2.2.2.2 b2 2 = .int (zi vb2)) (rvb2 : 0 ≤ vb2 ∧ vb2 ≤ 15) (tq2 : Int) (etq2 : h.2.2.2.2 b2 3 = .int (zi tq2)) (rtq2 : (-1) ≤ tq2 ∧ tq2 ≤ 255) (pp0 : 0 < n → (1 ≤ hb0 ∧ hb0 ≤ 2 ∧ 1 ≤ vb0 ∧ vb0 ≤ 2 ∧ 0 ≤ tq0 ∧ tq0 ≤ 3)) (pp1 : 1 < n → (1 ≤ hb1 ∧ hb1 ≤ 2 ∧ 1 ≤ vb1 ∧ vb1 ≤ 2 ∧ 0 ≤ tq1 ∧ tq1 ≤ 3)) (pp2 : 2 < n → (1 ≤ hb2 ∧ hb2 ≤ 2 ∧ 1 ≤ vb2 ∧ vb2 ≤ 2 ∧ 0 ≤ tq2 ∧ tq2 ≤ 3)) (pp3 : (h.2.2.2.1 co : Int) = 64 * (h.2.2.2.1 dm : Int)) (pp4 : n = 1 ∨ n = 3) (uq : gUq ty) : gz gPP gGG gcn (d + 2) gt31 0 (gent [.ref x, .int (zi nw), .int (zi nh), .int (zi n)] 5) [] h (fun q _ => ∃ ty9 : Nat → Nat, gSg [112, 113] [] [54002, 54003, 54005, 54006, 54007, 54008, 54010, 54011, 54012, 54013, 82004, 82005, 82006, 82007, 82008, 83004, 83005, 83006, 83007, 83008, 84004, 84005, 84006, 84007, 84008, 112999, 113999] ty h ty9 q.2.2 ∧ ∃ cn1 ld1 : Int, gfin gt31 q.1 q.2.1 = some none ∧ q.2.2.2.2.2.2 x 7 = .int (zi cn1) ∧ 0 ≤ cn1 ∧ cn1 ≤ 3 ∧ 0 ≤ ld1 ∧ ld1 ≤ 192 ∧ (cn1 = n) ∧ (((q.2.2.1 : Int) - h.1) ≤ 2 * (ld1 - h.2.2.2.1 dm)) ∧ (((q.2.2.2.1 : Int) - h.2.1) ≤ 12480 * (ld1 - h.2.2.2.1 dm)) ∧ ((h.2.2.2.1 dm : Int) ≤ ld1) ∧ (gPC ty9 x b0 b1 b2 ld1 q.2.2)) := by
  have hS : gSs rT 1027 ty [54002, 54003, 54005, 54006, 54007, 54008, 54010, 54011, 54012, 54013, 82004, 82005, 82006, 82007, 82008, 83004, 83005, 83006, 83007, 83008, 84004, 84005, 84006, 84007, 84008, 112999, 113999] h h := gSs.rf hJ
  have G0 : gSg [112, 113] [] [54002, 54003, 54005, 54006, 54007, 54008, 54010, 54011, 54012, 54013, 82004, 82005, 82006, 82007, 82008, 83004, 83005, 83006, 83007, 83008, 84004, 84005, 84006, 84007, 84008, 112999, 113999] ty h ty h := gSg.rf hJ (fun x hx => by cases hx)
  refine gz_s 2 (pc' := 2) (L' := [some (.ref x), some (.int (zi nw)), some (.int (zi nh)), some (.int (zi n)), none]) (S' := [.int (zi nw), .ref x]) rfl ?_
  refine gs_put rfl (by decide) rfl hS tx rfl rfl rfl rfl (Or.inl rfl) (by decide) (by omega) (by omega) (fun h1 sh1 eh1 fh1 => ?_)
  have s2 := (fh1 x 0 (fun q => absurd q.2 (by decide))).trans ebn
  have s3 := (fh1 bn 0 (fun q => absurd (((tbn).symm.trans (congrArg ty q.1)).trans tx) (by decide))).trans eb0
  have s4 := (fh1 bn 1 (fun q => absurd (((tbn).symm.trans (congrArg ty q.1)).trans tx) (by decide))).trans eb1
  have s5 := (fh1 bn 2 (fun q => absurd (((tbn).symm.trans (congrArg ty q.1)).trans tx) (by decide))).trans eb2
  have s6 := (fh1 x 2 (fun q => absurd q.2 (by decide))).trans eco
  have s7 := (fh1 x 3 (fun q => absurd q.2 (by decide))).trans edm
  have s8 := (fh1 b0 1 (fun q => absurd q.2 (by decide))).trans ehb0
  have s9 := (fh1 b0 2 (fun q => absurd q.2 (by decide))).trans evb0
  have s10 := (fh1 b0 3 (fun q => absurd q.2 (by decide))).trans etq0
  have s11 := (fh1 b1 1 (fun q => absurd q.2 (by decide))).trans ehb1
  have s12 := (fh1 b1 2 (fun q => absurd q.2 (by decide))).trans evb1
  have s13 := (fh1 b1 3 (fun q => absurd q.2 (by decide))).trans etq1
  have s14 := (fh1 b2 1 (fun q => absurd q.2 (by decide))).trans ehb2
  have s15 := (fh1 b2 2 (fun q => absurd q.2 (by decide))).trans evb2
  have s16 := (fh1 b2 3 (fun q => absurd q.2 (by decide))).trans etq2
  refine gz_s 2 (pc' := 7) (L' := [some (.ref x), some (.int (zi nw)), some (.int (zi nh)), some (.int (zi n)), none]) (S' := [.int (zi nh), .ref x]) rfl ?_
  refine gs_put rfl (by decide) rfl sh1 tx rfl rfl rfl rfl (Or.inl rfl) (by decide) (by omega) (by omega) (fun h17 sh17 eh17 fh17 => ?_)
  have s18 := (fh17 x 0 (fun q => absurd q.2 (by decide))).trans s2
  have s19 := (fh17 bn 0 (fun q => absurd (((tbn).symm.trans (congrArg ty q.1)).trans tx) (by decide))).trans s3
  have s20 := (fh17 bn 1 (fun q => absurd (((tbn).symm.trans (congrArg ty q.1)).trans tx) (by decide))).trans s4
  have s21 := (fh17 bn 2 (fun q => absurd (((tbn).symm.trans (congrArg ty q.1)).trans tx) (by decide))).trans s5
  have s22 := (fh17 x 2 (fun q => absurd q.2 (by decide))).trans s6
  have s23 := (fh17 x 3 (fun q => absurd q.2 (by decide))).trans s7
  have s24 := (fh17 b0 1 (fun q => absurd q.2 (by decide))).trans s8
  have s25 := (fh17 b0 2 (fun q => absurd q.2 (by decide))).trans s9
  have s26 := (fh17 b0 3 (fun q => absurd q.2 (by decide))).trans s10
  have s27 := (fh17 b1 1 (fun q => absurd q.2 (by decide))).trans s11
  have s28 := (fh17 b1 2 (fun q => absurd q.2 (by decide))).trans s12
  have s29 := (fh17 b1 3 (fun q => absurd q.2 (by decide))).trans s13
  have s30 := (fh17 b2 1 (fun q => absurd q.2 (by decide))).trans s14
  have s31 := (fh17 b2 2 (fun q => absurd q.2 (by decide))).trans s15
  have s32 := (fh17 b2 3 (fun q => absurd q.2 (by decide))).trans s16
  have s33 := (fh17 x 5 (fun q => absurd q.2 (by decide))).trans eh1
  refine gz_s 2 (pc' := 12) (L' := [some (.ref x), some (.int (zi nw)), some (.int (zi nh)), some (.int (zi n)), none]) (S' := [.int (zi n), .ref x]) rfl ?_
  refine gs_put rfl (by decide) rfl sh17 tx rfl rfl rfl rfl (Or.inl rfl) (by decide) (by omega) (by omega) (fun h34 sh34 eh34 fh34 => ?_)
  have s35 := (fh34 x 0 (fun q => absurd q.2 (by decide))).trans s18
  have s36 := (fh34 bn 0 (fun q => absurd (((tbn).symm.trans (congrArg ty q.1)).trans tx) (by decide))).trans s19
  have s37 := (fh34 bn 1 (fun q => absurd (((tbn).symm.trans (congrArg ty q.1)).trans tx) (by decide))).trans s20
  have s38 := (fh34 bn 2 (fun q => absurd (((tbn).symm.trans (congrArg ty q.1)).trans tx) (by decide))).trans s21
  have s39 := (fh34 x 2 (fun q => absurd q.2 (by decide))).trans s22
  have s40 := (fh34 x 3 (fun q => absurd q.2 (by decide))).trans s23
  have s41 := (fh34 b0 1 (fun q => absurd q.2 (by decide))).trans s24
  have s42 := (fh34 b0 2 (fun q => absurd q.2 (by decide))).trans s25
  have s43 := (fh34 b0 3 (fun q => absurd q.2 (by decide))).trans s26
  have s44 := (fh34 b1 1 (fun q => absurd q.2 (by decide))).trans s27
  have s45 := (fh34 b1 2 (fun q => absurd q.2 (by decide))).trans s28
  have s46 := (fh34 b1 3 (fun q => absurd q.2 (by decide))).trans s29
  have s47 := (fh34 b2 1 (fun q => absurd q.2 (by decide))).trans s30
  have s48 := (fh34 b2 2 (fun q => absurd q.2 (by decide))).trans s31
  have s49 := (fh34 b2 3 (fun q => absurd q.2 (by decide))).trans s32
  have s50 := (fh34 x 5 (fun q => absurd q.2 (by decide))).trans s33
  have s51 := (fh34 x 6 (fun q => absurd q.2 (by decide))).trans eh17
  refine gz_s 2 (pc' := 17) (L' := [some (.ref x), some (.int (zi nw)), some (.int (zi nh)), some (.int (zi n)), none]) (S' := [.int (zi 1), .ref x]) rfl ?_
  refine gs_put rfl (by decide) rfl sh34 tx rfl rfl rfl rfl (Or.inl rfl) (by decide) (by omega) (by omega) (fun h52 sh52 eh52 fh52 => ?_)
  have s53 := (fh52 x 0 (fun q => absurd q.2 (by decide))).trans s35
  have s54 := (fh52 bn 0 (fun q => absurd (((tbn).symm.trans (congrArg ty q.1)).trans tx) (by decide))).trans s36
  have s55 := (fh52 bn 1 (fun q => absurd (((tbn).symm.trans (congrArg ty q.1)).trans tx) (by decide))).trans s37
  have s56 := (fh52 bn 2 (fun q => absurd (((tbn).symm.trans (congrArg ty q.1)).trans tx) (by decide))).trans s38
  have s57 := (fh52 x 2 (fun q => absurd q.2 (by decide))).trans s39
  have s58 := (fh52 x 3 (fun q => absurd q.2 (by decide))).trans s40
  have s59 := (fh52 b0 1 (fun q => absurd q.2 (by decide))).trans s41
  have s60 := (fh52 b0 2 (fun q => absurd q.2 (by decide))).trans s42
  have s61 := (fh52 b0 3 (fun q => absurd q.2 (by decide))).trans s43
  have s62 := (fh52 b1 1 (fun q => absurd q.2 (by decide))).trans s44
  have s63 := (fh52 b1 2 (fun q => absurd q.2 (by decide))).trans s45
  have s64 := (fh52 b1 3 (fun q => absurd q.2 (by decide))).trans s46
  have s65 := (fh52 b2 1 (fun q => absurd q.2 (by decide))).trans s47
  have s66 := (fh52 b2 2 (fun q => absurd q.2 (by decide))).trans s48
  have s67 := (fh52 b2 3 (fun q => absurd q.2 (by decide))).trans s49
  have s68 := (fh52 x 5 (fun q => absurd q.2 (by decide))).trans s50
  have s69 := (fh52 x 6 (fun q => absurd q.2 (by decide))).trans s51
  have s70 := (fh52 x 7 (fun q => absurd q.2 (by decide))).trans eh34
  refine gz_s 2 (pc' := 22) (L' := [some (.ref x), some (.int (zi nw)), some (.int (zi nh)), some (.int (zi n)), none]) (S' := [.int (zi 1), .ref x]) rfl ?_
  refine gs_put rfl (by decide) rfl sh52 tx rfl rfl rfl rfl (Or.inl rfl) (by decide) (by omega) (by omega) (fun h71 sh71 eh71 fh71 => ?_)
  have s72 := (fh71 x 0 (fun q => absurd q.2 (by decide))).trans s53
  have s73 := (fh71 bn 0 (fun q => absurd (((tbn).symm.trans (congrArg ty q.1)).trans tx) (by decide))).trans s54
  have s74 := (fh71 bn 1 (fun q => absurd (((tbn).symm.trans (congrArg ty q.1)).trans tx) (by decide))).trans s55
  have s75 := (fh71 bn 2 (fun q => absurd (((tbn).symm.trans (congrArg ty q.1)).trans tx) (by decide))).trans s56
  have s76 := (fh71 x 2 (fun q => absurd q.2 (by decide))).trans s57
  have s77 := (fh71 x 3 (fun q => absurd q.2 (by decide))).trans s58
  have s78 := (fh71 b0 1 (fun q => absurd q.2 (by decide))).trans s59
  have s79 := (fh71 b0 2 (fun q => absurd q.2 (by decide))).trans s60
  have s80 := (fh71 b0 3 (fun q => absurd q.2 (by decide))).trans s61
  have s81 := (fh71 b1 1 (fun q => absurd q.2 (by decide))).trans s62
  have s82 := (fh71 b1 2 (fun q => absurd q.2 (by decide))).trans s63
  have s83 := (fh71 b1 3 (fun q => absurd q.2 (by decide))).trans s64
  have s84 := (fh71 b2 1 (fun q => absurd q.2 (by decide))).trans s65
  have s85 := (fh71 b2 2 (fun q => absurd q.2 (by decide))).trans s66
  have s86 := (fh71 b2 3 (fun q => absurd q.2 (by decide))).trans s67
  have s87 := (fh71 x 5 (fun q => absurd q.2 (by decide))).trans s68
  have s88 := (fh71 x 6 (fun q => absurd q.2 (by decide))).trans s69
  have s89 := (fh71 x 7 (fun q => absurd q.2 (by decide))).trans s70
  have s90 := (fh71 x 10 (fun q => absurd q.2 (by decide))).trans eh52
  refine gz_s 4 (pc' := 31) (L' := [some (.ref x), some (.int (zi nw)), some (.int (zi nh)), some (.int (zi n)), some (.int (zi 0))]) (S' := [.ref x, .int (zi 0)]) rfl ?_
  refine gs_gtk rfl (by decide) rfl sh71.1 tx rfl rfl s89 ?_
  refine gy_icF rfl (by decide) (by decide) (by omega) (by omega) (by first | (simp [zc]; done) | (simp only [zc]; omega)) ?_
  refine gz_s 2 (pc' := 39) (L' := [some (.ref x), some (.int (zi nw)), some (.int (zi nh)), some (.int (zi n)), some (.int (zi 0))]) (S' := [.ref x, .ref x]) rfl ?_
  refine gs_gtk rfl (by decide) rfl sh71.1 tx rfl rfl s90 ?_
  refine gz_s 1 (pc' := 43) (L' := [some (.ref x), some (.int (zi nw)), some (.int (zi nh)), some (.int (zi n)), some (.int (zi 0))]) (S' := [.ref x, .int (zi 1), .ref x]) rfl ?_
  refine gs_gtk rfl (by decide) rfl sh71.1 tx rfl rfl s72 ?_
  refine gz_s 1 (pc' := 48) (L' := [some (.ref x), some (.int (zi nw)), some (.int (zi nh)), some (.int (zi n)), some (.int (zi 0))]) (S' := [.int (zi 0), .ref bn, .int (zi 1), .ref x]) rfl ?_
  have he93 : (0 : Int) = 0 := by omega
  refine gs_aak (j := 0) rfl (by decide) sh71.1 tbn rfl rfl rfl (by decide) he93 (by decide) s73 ?_
  refine gs_gtk rfl (by decide) rfl sh71.1 tb0 rfl rfl s78 ?_
  refine gz_call rfl (by decide) rfl (by decide) (by decide) (gcal_of rfl rfl rfl (Nat.le_of_ble_eq_true rfl) rfl) (cl_Math_max _ sh71.1 1 (by omega) hb0 (by omega) ) (fun q94 _ wq94 => ?_)
  obtain ⟨pq94, oq94, hq94⟩ := q94
  obtain ⟨xq94, zq94, gq94, aq94, bq94, uq94_0, uq94_1, uq94_2⟩ := wq94
  refine ⟨_, gq94, ?_⟩
  show gz gPP gGG gcn _ _ 55 [some (.ref x), some (.int (zi nw)), some (.int (zi nh)), some (.int (zi n)), some (.int (zi 0))] [.int (zi zq94), .ref x] hq94 _
  have sq94 : gSs rT 1027 ty [54002, 54003, 54005, 54006, 54007, 54008, 54010, 54011, 54012, 54013, 82004, 82005, 82006, 82007, 82008, 83004, 83005, 83006, 83007, 83008, 84004, 84005, 84006, 84007, 84008, 112999, 113999] h hq94 := gSs.tr sh71 xq94 (by decide)
  have s95 := (xq94.2.2.2.2.2 x 0 (by rw [tx]; decide)).trans s72
  have s96 := (xq94.2.2.2.2.2 bn 0 (by rw [tbn]; decide)).trans s73
  have s97 := (xq94.2.2.2.2.2 bn 1 (by rw [tbn]; decide)).trans s74
  have s98 := (xq94.2.2.2.2.2 bn 2 (by rw [tbn]; decide)).trans s75
  have s99 := (xq94.2.2.2.2.2 x 2 (by rw [tx]; decide)).trans s76
  have s100 := (xq94.2.2.2.2.2 x 3 (by rw [tx]; decide)).trans s77
  have s101 := (xq94.2.2.2.2.2 b0 1 (by rw [tb0]; decide)).trans s78
  have s102 := (xq94.2.2.2.2.2 b0 2 (by rw [tb0]; decide)).trans s79
  have s103 := (xq94.2.2.2.2.2 b0 3 (by rw [tb0]; decide)).trans s80
  have s104 := (xq94.2.2.2.2.2 b1 1 (by rw [tb1]; decide)).trans s81
  have s105 := (xq94.2.2.2.2.2 b1 2 (by rw [tb1]; decide)).trans s82
  have s106 := (xq94.2.2.2.2.2 b1 3 (by rw [tb1]; decide)).trans s83
  have s107 := (xq94.2.2.2.2.2 b2 1 (by rw [tb2]; decide)).trans s84
  have s108 := (xq94.2.2.2.2.2 b2 2 (by rw [tb2]; decide)).trans s85
  have s109 := (xq94.2.2.2.2.2 b2 3 (by rw [tb2]; decide)).trans s86
  have s110 := (xq94.2.2.2.2.2 x 5 (by rw [tx]; decide)).trans s87
  have s111 := (xq94.2.2.2.2.2 x 6 (by rw [tx]; decide)).trans s88
  have s112 := (xq94.2.2.2.2.2 x 7 (by rw [tx]; decide)).trans s89
  have s113 := (xq94.2.2.2.2.2 x 10 (by rw [tx]; decide)).trans s90
  have s114 := (xq94.2.2.2.2.2 x 11 (by rw [tx]; decide)).trans eh71
  refine gs_put rfl (by decide) rfl sq94 tx rfl rfl rfl rfl (Or.inl rfl) (by decide) (by omega) (by omega) (fun h115 sh115 eh115 fh115 => ?_)
  have s116 := (fh115 x 0 (fun q => absurd q.2 (by decide))).trans s95
  have s117 := (fh115 bn 0 (fun q => absurd (((tbn).symm.trans (congrArg ty q.1)).trans tx) (by decide))).trans s96
  have s118 := (fh115 bn 1 (fun q => absurd (((tbn).symm.trans (congrArg ty q.1)).trans tx) (by decide))).trans s97
  have s119 := (fh115 bn 2 (fun q => absurd (((tbn).symm.trans (congrArg ty q.1)).trans tx) (by decide))).trans s98
  have s120 := (fh115 x 2 (fun q => absurd q.2 (by decide))).trans s99
  have s121 := (fh115 x 3 (fun q => absurd q.2 (by decide))).trans s100
  have s122 := (fh115 b0 1 (fun q => absurd q.2 (by decide))).trans s101
  have s123 := (fh115 b0 2 (fun q => absurd q.2 (by decide))).trans s102
  have s124 := (fh115 b0 3 (fun q => absurd q.2 (by decide))).trans s103
  have s125 := (fh115 b1 1 (fun q => absurd q.2 (by decide))).trans s104
  have s126 := (fh115 b1 2 (fun q => absurd q.2 (by decide))).trans s105
  have s127 := (fh115 b1 3 (fun q => absurd q.2 (by decide))).trans s106
  have s128 := (fh115 b2 1 (fun q => absurd q.2 (by decide))).trans s107
  have s129 := (fh115 b2 2 (fun q => absurd q.2 (by decide))).trans s108
  have s130 := (fh115 b2 3 (fun q => absurd q.2 (by decide))).trans s109
  have s131 := (fh115 x 5 (fun q => absurd q.2 (by decide))).trans s110
  have s132 := (fh115 x 6 (fun q => absurd q.2 (by decide))).trans s111
  have s133 := (fh115 x 7 (fun q => absurd q.2 (by decide))).trans s112
  have s134 := (fh115 x 11 (fun q => absurd q.2 (by decide))).trans s114
  refine gz_s 2 (pc' := 60) (L' := [some (.ref x), some (.int (zi nw)), some (.int (zi nh)), some (.int (zi n)), some (.int (zi 0))]) (S' := [.ref x, .ref x]) rfl ?_
  refine gs_gtk rfl (by decide) rfl sh115.1 tx rfl rfl s134 ?_
  refine gz_s 1 (pc' := 64) (L' := [some (.ref x), some (.int (zi nw)), some (.int (zi nh)), some (.int (zi n)), some (.int (zi 0))]) (S' := [.ref x, .int (zi 1), .ref x]) rfl ?_
  refine gs_gtk rfl (by decide) rfl sh115.1 tx rfl rfl s116 ?_
  refine gz_s 1 (pc' := 69) (L' := [some (.ref x), some (.int (zi nw)), some (.int (zi nh)), some (.int (zi n)), some (.int (zi 0))]) (S' := [.int (zi 0), .ref bn, .int (zi 1), .ref x]) rfl ?_
  have he137 : (0 : Int) = 0 := by omega
  refine gs_aak (j := 0) rfl (by decide) sh115.1 tbn rfl rfl rfl (by decide) he137 (by decide) s117 ?_
  refine gs_gtk rfl (by decide) rfl sh115.1 tb0 rfl rfl s123 ?_
  refine gz_call rfl (by decide) rfl (by decide) (by decide) (gcal_of rfl rfl rfl (Nat.le_of_ble_eq_true rfl) rfl) (cl_Math_max _ sh115.1 1 (by omega) vb0 (by omega) ) (fun q138 _ wq138 => ?_)
  obtain ⟨pq138, oq138, hq138⟩ := q138
  obtain ⟨xq138, zq138, gq138, aq138, bq138, uq138_0, uq138_1, uq138_2⟩ := wq138
  refine ⟨_, gq138, ?_⟩
  show gz gPP gGG gcn _ _ 76 [some (.ref x), some (.int (zi nw)), some (.int (zi nh)), some (.int (zi n)), some (.int (zi 0))] [.int (zi zq138), .ref x] hq138 _
  have sq138 : gSs rT 1027 ty [54002, 54003, 54005, 54006, 54007, 54008, 54010, 54011, 54012, 54013, 82004, 82005, 82006, 82007, 82008, 83004, 83005, 83006, 83007, 83008, 84004, 84005, 84006, 84007, 84008, 112999, 113999] h hq138 := gSs.tr sh115 xq138 (by decide)
  have s139 := (xq138.2.2.2.2.2 x 0 (by rw [tx]; decide)).trans s116
  have s140 := (xq138.2.2.2.2.2 bn 0 (by rw [tbn]; decide)).trans s117
  have s141 := (xq138.2.2.2.2.2 bn 1 (by rw [tbn]; decide)).trans s118
  have s142 := (xq138.2.2.2.2.2 bn 2 (by rw [tbn]; decide)).trans s119
  have s143 := (xq138.2.2.2.2.2 x 2 (by rw [tx]; decide)).trans s120
  have s144 := (xq138.2.2.2.2.2 x 3 (by rw [tx]; decide)).trans s121
  have s145 := (xq138.2.2.2.2.2 b0 1 (by rw [tb0]; decide)).trans s122
  have s146 := (xq138.2.2.2.2.2 b0 2 (by rw [tb0]; decide)).trans s123
  have s147 := (xq138.2.2.2.2.2 b0 3 (by rw [tb0]; decide)).trans s124
  have s148 := (xq138.2.2.2.2.2 b1 1 (by rw [tb1]; decide)).trans s125
  have s149 := (xq138.2.2.2.2.2 b1 2 (by rw [tb1]; decide)).trans s126
  have s150 := (xq138.2.2.2.2.2 b1 3 (by rw [tb1]; decide)).trans s127
  have s151 := (xq138.2.2.2.2.2 b2 1 (by rw [tb2]; decide)).trans s128
  have s152 := (xq138.2.2.2.2.2 b2 2 (by rw [tb2]; decide)).trans s129
  have s153 := (xq138.2.2.2.2.2 b2 3 (by rw [tb2]; decide)).trans s130
  have s154 := (xq138.2.2.2.2.2 x 5 (by rw [tx]; decide)).trans s131
  have s155 := (xq138.2.2.2.2.2 x 6 (by rw [tx]; decide)).trans s132
  have s156 := (xq138.2.2.2.2.2 x 7 (by rw [tx]; decide)).trans s133
  have s157 := (xq138.2.2.2.2.2 x 11 (by rw [tx]; decide)).trans s134
  have s158 := (xq138.2.2.2.2.2 x 10 (by rw [tx]; decide)).trans eh115
  refine gs_put rfl (by decide) rfl sq138 tx rfl rfl rfl rfl (Or.inl rfl) (by decide) (by omega) (by omega) (fun h159 sh159 eh159 fh159 => ?_)
  have s160 := (fh159 x 0 (fun q => absurd q.2 (by decide))).trans s139
  have s161 := (fh159 bn 0 (fun q => absurd (((tbn).symm.trans (congrArg ty q.1)).trans tx) (by decide))).trans s140
  have s162 := (fh159 bn 1 (fun q => absurd (((tbn).symm.trans (congrArg ty q.1)).trans tx) (by decide))).trans s141
  have s163 := (fh159 bn 2 (fun q => absurd (((tbn).symm.trans (congrArg ty q.1)).trans tx) (by decide))).trans s142
  have s164 := (fh159 x 2 (fun q => absurd q.2 (by decide))).trans s143
  have s165 := (fh159 x 3 (fun q => absurd q.2 (by decide))).trans s144
  have s166 := (fh159 b0 1 (fun q => absurd q.2 (by decide))).trans s145
  have s167 := (fh159 b0 2 (fun q => absurd q.2 (by decide))).trans s146
  have s168 := (fh159 b0 3 (fun q => absurd q.2 (by decide))).trans s147
  have s169 := (fh159 b1 1 (fun q => absurd q.2 (by decide))).trans s148
  have s170 := (fh159 b1 2 (fun q => absurd q.2 (by decide))).trans s149
  have s171 := (fh159 b1 3 (fun q => absurd q.2 (by decide))).trans s150
  have s172 := (fh159 b2 1 (fun q => absurd q.2 (by decide))).trans s151
  have s173 := (fh159 b2 2 (fun q => absurd q.2 (by decide))).trans s152
  have s174 := (fh159 b2 3 (fun q => absurd q.2 (by decide))).trans s153
  have s175 := (fh159 x 5 (fun q => absurd q.2 (by decide))).trans s154
  have s176 := (fh159 x 6 (fun q => absurd q.2 (by decide))).trans s155
  have s177 := (fh159 x 7 (fun q => absurd q.2 (by decide))).trans s156
  have s178 := (fh159 x 10 (fun q => absurd q.2 (by decide))).trans s158
  refine gy_s 4 (pc' := 31) (L' := [some (.ref x), some (.int (zi nw)), some (.int (zi nh)), some (.int (zi n)), some (.int ((zi 0) + zi 1))]) (S' := [.ref x, .int ((zi 0) + zi 1)]) (L2 := [some (.ref x), some (.int (zi nw)), some (.int (zi nh)), some (.int (zi n)), some (.int (zi 1))]) (S2 := [.ref x, .int (zi 1)]) rfl (by simp only [zi_add, zi_sub, zi_mul, zi_neg, zi_and1, zi_and7, zi_and15, zi_and31, zi_and255, Int.reduceAdd, Int.reduceMul, Int.reduceSub]) (by simp only [zi_add, zi_sub, zi_mul, zi_neg, zi_and1, zi_and7, zi_and15, zi_and31, zi_and255, Int.reduceAdd, Int.reduceMul, Int.reduceSub]) ?_
  refine gs_gtk rfl (by decide) rfl sh159.1 tx rfl rfl s177 ?_
  by_cases hc179 : (n : Int) ≤ 1
  · refine gy_icT (pc' := 85) rfl (by decide) (by decide) (by omega) (by omega) hc179 ?_
    have hz1 := zup8 (w := nw) (wd := zq94) (by omega) (by omega)
    refine gz_s 2 (pc' := 87) (L' := [some (.ref x), some (.int (zi nw)), some (.int (zi nh)), some (.int (zi n)), some (.int (zi 1))]) (S' := [.ref x, .ref x]) rfl ?_
    refine gs_gtk rfl (by decide) rfl sh159.1 tx rfl rfl s175 ?_
    refine gz_s 2 (pc' := 93) (L' := [some (.ref x), some (.int (zi nw)), some (.int (zi nh)), some (.int (zi n)), some (.int (zi 1))]) (S' := [.ref x, .int (zi 8), .int (zi nw), .ref x]) rfl ?_
    refine gs_gtk rfl (by decide) rfl sh159.1 tx rfl rfl s178 ?_
    refine gy_s 1 (pc' := 97) (L' := [some (.ref x), some (.int (zi nw)), some (.int (zi nh)), some (.int (zi n)), some (.int (zi 1))]) (S' := [.int ((zi 8) * (zi zq94)), .int (zi nw), .ref x]) (L2 := [some (.ref x), some (.int (zi nw)), some (.int (zi nh)), some (.int (zi n)), some (.int (zi 1))]) (S2 := [.int (zi (8 * zq94)), .int (zi nw), .ref x]) rfl (by simp only [zi_add, zi_sub, zi_mul, zi_neg, zi_and1, zi_and7, zi_and15, zi_and31, zi_and255, Int.reduceAdd, Int.reduceMul, Int.reduceSub]) (by simp only [zi_add, zi_sub, zi_mul, zi_neg, zi_and1, zi_and7, zi_and15, zi_and31, zi_and255, Int.reduceAdd, Int.reduceMul, Int.reduceSub]) ?_
    refine gz_call rfl (by decide) rfl (by decide) (by decide) (gcal_of rfl rfl rfl (Nat.le_of_ble_eq_true rfl) rfl) (cl_DctFilter_upward _ sh159.1 nw (by omega) (8 * zq94) (by omega) ) (fun q180 _ wq180 => ?_)
    obtain ⟨pq180, oq180, hq180⟩ := q180
    obtain ⟨xq180, zq180, gq180, aq180, bq180, uq180_0⟩ := wq180
    refine ⟨_, gq180, ?_⟩
    show gz gPP gGG gcn _ _ 100 [some (.ref x), some (.int (zi nw)), some (.int (zi nh)), some (.int (zi n)), some (.int (zi 1))] [.int (zi zq180), .ref x] hq180 _
    have sq180 : gSs rT 1027 ty [54002, 54003, 54005, 54006, 54007, 54008, 54010, 54011, 54012, 54013, 82004, 82005, 82006, 82007, 82008, 83004, 83005, 83006, 83007, 83008, 84004, 84005, 84006, 84007, 84008, 112999, 113999] h hq180 := gSs.tr sh159 xq180 (by decide)
    have s181 := (xq180.2.2.2.2.2 x 0 (by rw [tx]; decide)).trans s160
    have s182 := (xq180.2.2.2.2.2 bn 0 (by rw [tbn]; decide)).trans s161
    have s183 := (xq180.2.2.2.2.2 bn 1 (by rw [tbn]; decide)).trans s162
    have s184 := (xq180.2.2.2.2.2 bn 2 (by rw [tbn]; decide)).trans s163
    have s185 := (xq180.2.2.2.2.2 x 2 (by rw [tx]; decide)).trans s164
    have s186 := (xq180.2.2.2.2.2 x 3 (by rw [tx]; decide)).trans s165
    have s187 := (xq180.2.2.2.2.2 b0 1 (by rw [tb0]; decide)).trans s166
    have s188 := (xq180.2.2.2.2.2 b0 2 (by rw [tb0]; decide)).trans s167
    have s189 := (xq180.2.2.2.2.2 b0 3 (by rw [tb0]; decide)).trans s168
    have s190 := (xq180.2.2.2.2.2 b1 1 (by rw [tb1]; decide)).trans s169
    have s191 := (xq180.2.2.2.2.2 b1 2 (by rw [tb1]; decide)).trans s170
    have s192 := (xq180.2.2.2.2.2 b1 3 (by rw [tb1]; decide)).trans s171
    have s193 := (xq180.2.2.2.2.2 b2 1 (by rw [tb2]; decide)).trans s172
    have s194 := (xq180.2.2.2.2.2 b2 2 (by rw [tb2]; decide)).trans s173
    have s195 := (xq180.2.2.2.2.2 b2 3 (by rw [tb2]; decide)).trans s174
    have s196 := (xq180.2.2.2.2.2 x 5 (by rw [tx]; decide)).trans s175
    have s197 := (xq180.2.2.2.2.2 x 6 (by rw [tx]; decide)).trans s176
    have s198 := (xq180.2.2.2.2.2 x 7 (by rw [tx]; decide)).trans s177
    have s199 := (xq180.2.2.2.2.2 x 10 (by rw [tx]; decide)).trans s178
    have s200 := (xq180.2.2.2.2.2 x 11 (by rw [tx]; decide)).trans eh159
    refine gs_put rfl (by decide) rfl sq180 tx rfl rfl rfl rfl (Or.inl rfl) (by decide) (by omega) (by omega) (fun h201 sh201 eh201 fh201 => ?_)
    have s202 := (fh201 x 0 (fun q => absurd q.2 (by decide))).trans s181
    have s203 := (fh201 bn 0 (fun q => absurd (((tbn).symm.trans (congrArg ty q.1)).trans tx) (by decide))).trans s182
    have s204 := (fh201 bn 1 (fun q => absurd (((tbn).symm.trans (congrArg ty q.1)).trans tx) (by decide))).trans s183
    have s205 := (fh201 bn 2 (fun q => absurd (((tbn).symm.trans (congrArg ty q.1)).trans tx) (by decide))).trans s184
    have s206 := (fh201 x 2 (fun q => absurd q.2 (by decide))).trans s185
    have s207 := (fh201 x 3 (fun q => absurd q.2 (by decide))).trans s186
    have s208 := (fh201 b0 1 (fun q => absurd q.2 (by decide))).trans s187
    have s209 := (fh201 b0 2 (fun q => absurd q.2 (by decide))).trans s188
    have s210 := (fh201 b0 3 (fun q => absurd q.2 (by decide))).trans s189
    have s211 := (fh201 b1 1 (fun q => absurd q.2 (by decide))).trans s190
    have s212 := (fh201 b1 2 (fun q => absurd q.2 (by decide))).trans s191
    have s213 := (fh201 b1 3 (fun q => absurd q.2 (by decide))).trans s192
    have s214 := (fh201 b2 1 (fun q => absurd q.2 (by decide))).trans s193
    have s215 := (fh201 b2 2 (fun q => absurd q.2 (by decide))).trans s194
    have s216 := (fh201 b2 3 (fun q => absurd q.2 (by decide))).trans s195
    have s217 := (fh201 x 5 (fun q => absurd q.2 (by decide))).trans s196
    have s218 := (fh201 x 6 (fun q => absurd q.2 (by decide))).trans s197
    have s219 := (fh201 x 7 (fun q => absurd q.2 (by decide))).trans s198
    have s220 := (fh201 x 10 (fun q => absurd q.2 (by decide))).trans s199
    have s221 := (fh201 x 11 (fun q => absurd q.2 (by decide))).trans s200
    have hz2 := zup8 (w := nh) (wd := zq138) (by omega) (by omega)
    refine gz_s 2 (pc' := 105) (L' := [some (.ref x), some (.int (zi nw)), some (.int (zi nh)), some (.int (zi n)), some (.int (zi 1))]) (S' := [.ref x, .ref x]) rfl ?_
    refine gs_gtk rfl (by decide) rfl sh201.1 tx rfl rfl s218 ?_
    refine gz_s 2 (pc' := 111) (L' := [some (.ref x), some (.int (zi nw)), some (.int (zi nh)), some (.int (zi n)), some (.int (zi 1))]) (S' := [.ref x, .int (zi 8), .int (zi nh), .ref x]) rfl ?_
    refine gs_gtk rfl (by decide) rfl sh201.1 tx rfl rfl s221 ?_
    refine gy_s 1 (pc' := 115) (L' := [some (.ref x), some (.int (zi nw)), some (.int (zi nh)), some (.int (zi n)), some (.int (zi 1))]) (S' := [.int ((zi 8) * (zi zq138)), .int (zi nh), .ref x]) (L2 := [some (.ref x), some (.int (zi nw)), some (.int (zi nh)), some (.int (zi n)), some (.int (zi 1))]) (S2 := [.int (zi (8 * zq138)), .int (zi nh), .ref x]) rfl (by simp only [zi_add, zi_sub, zi_mul, zi_neg, zi_and1, zi_and7, zi_and15, zi_and31, zi_and255, Int.reduceAdd, Int.reduceMul, Int.reduceSub]) (by simp only [zi_add, zi_sub, zi_mul, zi_neg, zi_and1, zi_and7, zi_and15, zi_and31, zi_and255, Int.reduceAdd, Int.reduceMul, Int.reduceSub]) ?_
    refine gz_call rfl (by decide) rfl (by decide) (by decide) (gcal_of rfl rfl rfl (Nat.le_of_ble_eq_true rfl) rfl) (cl_DctFilter_upward _ sh201.1 nh (by omega) (8 * zq138) (by omega) ) (fun q222 _ wq222 => ?_)
    obtain ⟨pq222, oq222, hq222⟩ := q222
    obtain ⟨xq222, zq222, gq222, aq222, bq222, uq222_0⟩ := wq222
    refine ⟨_, gq222, ?_⟩
    show gz gPP gGG gcn _ _ 118 [some (.ref x), some (.int (zi nw)), some (.int (zi nh)), some (.int (zi n)), some (.int (zi 1))] [.int (zi zq222), .ref x] hq222 _
    have sq222 : gSs rT 1027 ty [54002, 54003, 54005, 54006, 54007, 54008, 54010, 54011, 54012, 54013, 82004, 82005, 82006, 82007, 82008, 83004, 83005, 83006, 83007, 83008, 84004, 84005, 84006, 84007, 84008, 112999, 113999] h hq222 := gSs.tr sh201 xq222 (by decide)
    have s223 := (xq222.2.2.2.2.2 x 0 (by rw [tx]; decide)).trans s202
    have s224 := (xq222.2.2.2.2.2 bn 0 (by rw [tbn]; decide)).trans s203
    have s225 := (xq222.2.2.2.2.2 bn 1 (by rw [tbn]; decide)).trans s204
    have s226 := (xq222.2.2.2.2.2 bn 2 (by rw [tbn]; decide)).trans s205
    have s227 := (xq222.2.2.2.2.2 x 2 (by rw [tx]; decide)).trans s206
    have s228 := (xq222.2.2.2.2.2 x 3 (by rw [tx]; decide)).trans s207
    have s229 := (xq222.2.2.2.2.2 b0 1 (by rw [tb0]; decide)).trans s208
    have s230 := (xq222.2.2.2.2.2 b0 2 (by rw [tb0]; decide)).trans s209
    have s231 := (xq222.2.2.2.2.2 b0 3 (by rw [tb0]; decide)).trans s210
    have s232 := (xq222.2.2.2.2.2 b1 1 (by rw [tb1]; decide)).trans s211
    have s233 := (xq222.2.2.2.2.2 b1 2 (by rw [tb1]; decide)).trans s212
    have s234 := (xq222.2.2.2.2.2 b1 3 (by rw [tb1]; decide)).trans s213
    have s235 := (xq222.2.2.2.2.2 b2 1 (by rw [tb2]; decide)).trans s214
    have s236 := (xq222.2.2.2.2.2 b2 2 (by rw [tb2]; decide)).trans s215
    have s237 := (xq222.2.2.2.2.2 b2 3 (by rw [tb2]; decide)).trans s216
    have s238 := (xq222.2.2.2.2.2 x 5 (by rw [tx]; decide)).trans s217
    have s239 := (xq222.2.2.2.2.2 x 6 (by rw [tx]; decide)).trans s218
    have s240 := (xq222.2.2.2.2.2 x 7 (by rw [tx]; decide)).trans s219
    have s241 := (xq222.2.2.2.2.2 x 10 (by rw [tx]; decide)).trans s220
    have s242 := (xq222.2.2.2.2.2 x 11 (by rw [tx]; decide)).trans s221
    have s243 := (xq222.2.2.2.2.2 x 12 (by rw [tx]; decide)).trans eh201
    refine gs_put rfl (by decide) rfl sq222 tx rfl rfl rfl rfl (Or.inl rfl) (by decide) (by omega) (by omega) (fun h244 sh244 eh244 fh244 => ?_)
    have s245 := (fh244 x 0 (fun q => absurd q.2 (by decide))).trans s223
    have s246 := (fh244 bn 0 (fun q => absurd (((tbn).symm.trans (congrArg ty q.1)).trans tx) (by decide))).trans s224
    have s247 := (fh244 bn 1 (fun q => absurd (((tbn).symm.trans (congrArg ty q.1)).trans tx) (by decide))).trans s225
    have s248 := (fh244 bn 2 (fun q => absurd (((tbn).symm.trans (congrArg ty q.1)).trans tx) (by decide))).trans s226
    have s249 := (fh244 x 2 (fun q => absurd q.2 (by decide))).trans s227
    have s250 := (fh244 x 3 (fun q => absurd q.2 (by decide))).trans s228
    have s251 := (fh244 b0 1 (fun q => absurd q.2 (by decide))).trans s229
    have s252 := (fh244 b0 2 (fun q => absurd q.2 (by decide))).trans s230
    have s253 := (fh244 b0 3 (fun q => absurd q.2 (by decide))).trans s231
    have s254 := (fh244 b1 1 (fun q => absurd q.2 (by decide))).trans s232
    have s255 := (fh244 b1 2 (fun q => absurd q.2 (by decide))).trans s233
    have s256 := (fh244 b1 3 (fun q => absurd q.2 (by decide))).trans s234
    have s257 := (fh244 b2 1 (fun q => absurd q.2 (by decide))).trans s235
    have s258 := (fh244 b2 2 (fun q => absurd q.2 (by decide))).trans s236
    have s259 := (fh244 b2 3 (fun q => absurd q.2 (by decide))).trans s237
    have s260 := (fh244 x 5 (fun q => absurd q.2 (by decide))).trans s238
    have s261 := (fh244 x 6 (fun q => absurd q.2 (by decide))).trans s239
    have s262 := (fh244 x 7 (fun q => absurd q.2 (by decide))).trans s240
    have s263 := (fh244 x 10 (fun q => absurd q.2 (by decide))).trans s241
    have s264 := (fh244 x 11 (fun q => absurd q.2 (by decide))).trans s242
    have s265 := (fh244 x 12 (fun q => absurd q.2 (by decide))).trans s243
    refine gz_s 2 (pc' := 123) (L' := [some (.ref x), some (.int (zi nw)), some (.int (zi nh)), some (.int (zi n)), some (.int (zi 1))]) (S' := [.int (zi 0), .ref x]) rfl ?_
    refine gs_put rfl (by decide) rfl sh244 tx rfl rfl rfl rfl (Or.inl rfl) (by decide) (by omega) (by omega) (fun h266 sh266 eh266 fh266 => ?_)
    have s267 := (fh266 x 0 (fun q => absurd q.2 (by decide))).trans s245
    have s268 := (fh266 bn 0 (fun q => absurd (((tbn).symm.trans (congrArg ty q.1)).trans tx) (by decide))).trans s246
    have s269 := (fh266 bn 1 (fun q => absurd (((tbn).symm.trans (congrArg ty q.1)).trans tx) (by decide))).trans s247
    have s270 := (fh266 bn 2 (fun q => absurd (((tbn).symm.trans (congrArg ty q.1)).trans tx) (by decide))).trans s248
    have s271 := (fh266 x 2 (fun q => absurd q.2 (by decide))).trans s249
    have s272 := (fh266 x 3 (fun q => absurd q.2 (by decide))).trans s250
    have s273 := (fh266 b0 1 (fun q => absurd q.2 (by decide))).trans s251
    have s274 := (fh266 b0 2 (fun q => absurd q.2 (by decide))).trans s252
    have s275 := (fh266 b0 3 (fun q => absurd q.2 (by decide))).trans s253
    have s276 := (fh266 b1 1 (fun q => absurd q.2 (by decide))).trans s254
    have s277 := (fh266 b1 2 (fun q => absurd q.2 (by decide))).trans s255
    have s278 := (fh266 b1 3 (fun q => absurd q.2 (by decide))).trans s256
    have s279 := (fh266 b2 1 (fun q => absurd q.2 (by decide))).trans s257
    have s280 := (fh266 b2 2 (fun q => absurd q.2 (by decide))).trans s258
    have s281 := (fh266 b2 3 (fun q => absurd q.2 (by decide))).trans s259
    have s282 := (fh266 x 5 (fun q => absurd q.2 (by decide))).trans s260
    have s283 := (fh266 x 6 (fun q => absurd q.2 (by decide))).trans s261
    have s284 := (fh266 x 7 (fun q => absurd q.2 (by decide))).trans s262
    have s285 := (fh266 x 10 (fun q => absurd q.2 (by decide))).trans s263
    have s286 := (fh266 x 11 (fun q => absurd q.2 (by decide))).trans s264
    have s287 := (fh266 x 12 (fun q => absurd q.2 (by decide))).trans s265
    have s288 := (fh266 x 13 (fun q => absurd q.2 (by decide))).trans eh244
    refine gz_s 4 (pc' := 132) (L' := [some (.ref x), some (.int (zi nw)), some (.int (zi nh)), some (.int (zi n)), some (.int (zi 0))]) (S' := [.ref x, .int (zi 0)]) rfl ?_
    refine gs_gtk rfl (by decide) rfl sh266.1 tx rfl rfl s284 ?_
    refine gy_icF rfl (by decide) (by decide) (by omega) (by omega) (by first | (simp [zc]; done) | (simp only [zc]; omega)) ?_
    refine gz_s 2 (pc' := 140) (L' := [some (.ref x), some (.int (zi nw)), some (.int (zi nh)), some (.int (zi n)), some (.int (zi 0))]) (S' := [.ref x, .ref x]) rfl ?_
    refine gs_gtk rfl (by decide) rfl sh266.1 tx rfl rfl s267 ?_
    refine gz_s 1 (pc' := 145) (L' := [some (.ref x), some (.int (zi nw)), some (.int (zi nh)), some (.int (zi n)), some (.int (zi 0))]) (S' := [.int (zi 0), .ref bn, .ref x]) rfl ?_
    have he291 : (0 : Int) = 0 := by omega
    refine gs_aak (j := 0) rfl (by decide) sh266.1 tbn rfl rfl rfl (by decide) he291 (by decide) s268 ?_
    refine gz_call rfl (by decide) rfl (by decide) (by decide) (gcal_of rfl rfl rfl (Nat.le_of_ble_eq_true rfl) (gJ.recv (G := gGG) sh266.1 tx rfl rfl)) (cl_placeBand0 _ sh266.1 x tx b0 tb0 zq180 s287 (by omega) zq222 s288 (by omega) 0 eh266 (by omega) nw s282 (by omega) nh s283 (by omega) zq94 s285 (by omega) zq138 s286 (by omega) hb0 s273 (by omega) vb0 s274 (by omega) (by omega) (by omega) (by omega) (by omega) uq) (fun q292 _ wq292 => ?_)
    obtain ⟨pq292, oq292, hq292⟩ := q292
    obtain ⟨xq292, fq292_0, fq292_1, fq292_2, fq292_3, fq292_4, fq292_5, gq292, efq292_0, afq292_0, bfq292_0, efq292_1, afq292_1, bfq292_1, efq292_2, afq292_2, bfq292_2, efq292_3, afq292_3, bfq292_3, efq292_4, afq292_4, bfq292_4, efq292_5, afq292_5, bfq292_5, uq292_0, uq292_1, uq292_2, uq292_3, uq292_4, uq292_5, uq292_6, uq292_7, uq292_8, uq292_9, uq292_10, uq292_11⟩ := wq292
    refine ⟨_, gq292, ?_⟩
    show gz gPP gGG gcn _ _ 149 [some (.ref x), some (.int (zi nw)), some (.int (zi nh)), some (.int (zi n)), some (.int (zi 0))] [] hq292 _
    have sq292 : gSs rT 1027 ty [54002, 54003, 54005, 54006, 54007, 54008, 54010, 54011, 54012, 54013, 82004, 82005, 82006, 82007, 82008, 83004, 83005, 83006, 83007, 83008, 84004, 84005, 84006, 84007, 84008, 112999, 113999] h hq292 := gSs.tr sh266 xq292 (by decide)
    have s293 := (xq292.2.2.2.2.2 x 0 (by rw [tx]; decide)).trans s267
    have s294 := (xq292.2.2.2.2.2 bn 0 (by rw [tbn]; decide)).trans s268
    have s295 := (xq292.2.2.2.2.2 bn 1 (by rw [tbn]; decide)).trans s269
    have s296 := (xq292.2.2.2.2.2 bn 2 (by rw [tbn]; decide)).trans s270
    have s297 := (xq292.2.2.2.2.2 x 2 (by rw [tx]; decide)).trans s271
    have s298 := (xq292.2.2.2.2.2 x 3 (by rw [tx]; decide)).trans s272
    have s299 := (xq292.2.2.2.2.2 b0 1 (by rw [tb0]; decide)).trans s273
    have s300 := (xq292.2.2.2.2.2 b0 2 (by rw [tb0]; decide)).trans s274
    have s301 := (xq292.2.2.2.2.2 b0 3 (by rw [tb0]; decide)).trans s275
    have s302 := (xq292.2.2.2.2.2 b1 1 (by rw [tb1]; decide)).trans s276
    have s303 := (xq292.2.2.2.2.2 b1 2 (by rw [tb1]; decide)).trans s277
    have s304 := (xq292.2.2.2.2.2 b1 3 (by rw [tb1]; decide)).trans s278
    have s305 := (xq292.2.2.2.2.2 b2 1 (by rw [tb2]; decide)).trans s279
    have s306 := (xq292.2.2.2.2.2 b2 2 (by rw [tb2]; decide)).trans s280
    have s307 := (xq292.2.2.2.2.2 b2 3 (by rw [tb2]; decide)).trans s281
    have s308 := (xq292.2.2.2.2.2 x 5 (by rw [tx]; decide)).trans s282
    have s309 := (xq292.2.2.2.2.2 x 6 (by rw [tx]; decide)).trans s283
    have s310 := (xq292.2.2.2.2.2 x 7 (by rw [tx]; decide)).trans s284
    have s311 := (xq292.2.2.2.2.2 x 10 (by rw [tx]; decide)).trans s285
    have s312 := (xq292.2.2.2.2.2 x 11 (by rw [tx]; decide)).trans s286
    have s313 := (xq292.2.2.2.2.2 x 12 (by rw [tx]; decide)).trans s287
    have s314 := (xq292.2.2.2.2.2 x 13 (by rw [tx]; decide)).trans s288
    refine gy_s 4 (pc' := 132) (L' := [some (.ref x), some (.int (zi nw)), some (.int (zi nh)), some (.int (zi n)), some (.int ((zi 0) + zi 1))]) (S' := [.ref x, .int ((zi 0) + zi 1)]) (L2 := [some (.ref x), some (.int (zi nw)), some (.int (zi nh)), some (.int (zi n)), some (.int (zi 1))]) (S2 := [.ref x, .int (zi 1)]) rfl (by simp only [zi_add, zi_sub, zi_mul, zi_neg, zi_and1, zi_and7, zi_and15, zi_and31, zi_and255, Int.reduceAdd, Int.reduceMul, Int.reduceSub]) (by simp only [zi_add, zi_sub, zi_mul, zi_neg, zi_and1, zi_and7, zi_and15, zi_and31, zi_and255, Int.reduceAdd, Int.reduceMul, Int.reduceSub]) ?_
    refine gs_gtk rfl (by decide) rfl sq292.1 tx rfl rfl s310 ?_
    refine gy_icT (pc' := 155) rfl (by decide) (by decide) (by omega) (by omega) (by first | (simp [zc]; done) | (simp only [zc]; omega)) ?_
    refine gz_s 1 (pc' := 156) (L' := [some (.ref x), some (.int (zi nw)), some (.int (zi nh)), some (.int (zi n)), some (.int (zi 1))]) (S' := [.ref x]) rfl ?_
    have k315 := sq292.2.1
    have k315b := sq292.2.2.1
    have hl316 : hq292.2.2.2.1 co = h.2.2.2.1 co := congrFun sq292.2.2.2.2.1 co
    have hl317 : hq292.2.2.2.1 dm = h.2.2.2.1 dm := congrFun sq292.2.2.2.2.1 dm
    have hl318 : hq292.2.2.2.1 co = h.2.2.2.1 co := congrFun sq292.2.2.2.2.1 co
    have hl319 : hq292.2.2.2.1 dm = h.2.2.2.1 dm := congrFun sq292.2.2.2.2.1 dm
    refine gz_call rfl (by decide) rfl (by decide) (by decide) (gcal_of rfl rfl rfl (Nat.le_of_ble_eq_true rfl) (gJ.recv (G := gGG) sq292.1 tx rfl rfl)) (cl_Picture_clearBlocks _ sq292.1 x tx co s297 tco dm s298 tdm fq292_5 efq292_5 (by omega) (by omega) uq) (fun q320 _ wq320 => ?_)
    obtain ⟨pq320, oq320, hq320⟩ := q320
    obtain ⟨tyq320, xq320, cq320_0, cq320_1, ttq320, ecq320_0, tcq320_0, ecq320_1, tcq320_1, gq320, uq320_0, uq320_1, uq320_2, uq320_3, uq320_4⟩ := wq320
    refine ⟨_, gq320, ?_⟩
    show gz gPP gGG gcn _ _ 159 [some (.ref x), some (.int (zi nw)), some (.int (zi nh)), some (.int (zi n)), some (.int (zi 1))] [] hq320 _
    have G321 : gSg [112, 113] [] [54002, 54003, 54005, 54006, 54007, 54008, 54010, 54011, 54012, 54013, 82004, 82005, 82006, 82007, 82008, 83004, 83005, 83006, 83007, 83008, 84004, 84005, 84006, 84007, 84008, 112999, 113999] ty h tyq320 hq320 := gSg.tr (gSg.ss G0 sq292 (by decide)) xq320 (by decide) (by decide) (fun x hx => by cases hx)
    have t322 : tyq320 x = 54 := gSg.typ xq320 sq292.1 tx rfl
    have t323 : tyq320 bn = 57 := gSg.typ xq320 sq292.1 tbn rfl
    have t324 : tyq320 b0 = 82 := gSg.typ xq320 sq292.1 tb0 rfl
    have t325 : tyq320 b1 = 83 := gSg.typ xq320 sq292.1 tb1 rfl
    have t326 : tyq320 b2 = 84 := gSg.typ xq320 sq292.1 tb2 rfl
    have t327 : tyq320 co = 112 := gSg.typ xq320 sq292.1 tco rfl
    have hl328 : hq320.2.2.2.1 co = hq292.2.2.2.1 co := gSg.len xq320 sq292.1 tco rfl
    have t329 : tyq320 dm = 113 := gSg.typ xq320 sq292.1 tdm rfl
    have hl330 : hq320.2.2.2.1 dm = hq292.2.2.2.1 dm := gSg.len xq320 sq292.1 tdm rfl
    have s331 := gSg.at xq320 sq292.1 tx rfl (by decide) s293
    have s332 := gSg.at xq320 sq292.1 tbn rfl (by decide) s294
    have s333 := gSg.at xq320 sq292.1 tbn rfl (by decide) s295
    have s334 := gSg.at xq320 sq292.1 tbn rfl (by decide) s296
    have s335 := gSg.at xq320 sq292.1 tb0 rfl (by decide) s299
    have s336 := gSg.at xq320 sq292.1 tb0 rfl (by decide) s300
    have s337 := gSg.at xq320 sq292.1 tb0 rfl (by decide) s301
    have s338 := gSg.at xq320 sq292.1 tb1 rfl (by decide) s302
    have s339 := gSg.at xq320 sq292.1 tb1 rfl (by decide) s303
    have s340 := gSg.at xq320 sq292.1 tb1 rfl (by decide) s304
    have s341 := gSg.at xq320 sq292.1 tb2 rfl (by decide) s305
    have s342 := gSg.at xq320 sq292.1 tb2 rfl (by decide) s306
    have s343 := gSg.at xq320 sq292.1 tb2 rfl (by decide) s307
    have s344 := gSg.at xq320 sq292.1 tx rfl (by decide) s308
    have s345 := gSg.at xq320 sq292.1 tx rfl (by decide) s309
    have s346 := gSg.at xq320 sq292.1 tx rfl (by decide) s310
    have s347 := gSg.at xq320 sq292.1 tx rfl (by decide) s311
    have s348 := gSg.at xq320 sq292.1 tx rfl (by decide) s312
    have s349 := gSg.at xq320 sq292.1 tx rfl (by decide) s313
    have s350 := gSg.at xq320 sq292.1 tx rfl (by decide) s314
    have s351 := gSg.at xq320 sq292.1 tb0 rfl (by decide) efq292_0
    have s352 := gSg.at xq320 sq292.1 tb0 rfl (by decide) efq292_1
    have s353 := gSg.at xq320 sq292.1 tb0 rfl (by decide) efq292_2
    have s354 := gSg.at xq320 sq292.1 tb0 rfl (by decide) efq292_3
    have s355 := gSg.at xq320 sq292.1 tb0 rfl (by decide) efq292_4
    have s356 := gSg.at xq320 sq292.1 tx rfl (by decide) efq292_5
    have uq357 := gSg.uq xq320 uq (by decide)
    have sS358 : gSs rT 1027 tyq320 [54002, 54003, 54005, 54006, 54007, 54008, 54010, 54011, 54012, 54013, 82004, 82005, 82006, 82007, 82008, 83004, 83005, 83006, 83007, 83008, 84004, 84005, 84006, 84007, 84008, 112999, 113999] hq320 hq320 := gSs.rf xq320.1
    obtain ⟨z359, ez359, az359, bz359⟩ := gJ.int (k := 4) (G := gGG) sS358.1 t325 rfl rfl rfl
    obtain ⟨z360, ez360, az360, bz360⟩ := gJ.int (k := 5) (G := gGG) sS358.1 t325 rfl rfl rfl
    obtain ⟨z361, ez361, az361, bz361⟩ := gJ.int (k := 6) (G := gGG) sS358.1 t325 rfl rfl rfl
    obtain ⟨z362, ez362, az362, bz362⟩ := gJ.int (k := 7) (G := gGG) sS358.1 t325 rfl rfl rfl
    obtain ⟨z363, ez363, az363, bz363⟩ := gJ.int (k := 8) (G := gGG) sS358.1 t325 rfl rfl rfl
    obtain ⟨z364, ez364, az364, bz364⟩ := gJ.int (k := 4) (G := gGG) sS358.1 t326 rfl rfl rfl
    obtain ⟨z365, ez365, az365, bz365⟩ := gJ.int (k := 5) (G := gGG) sS358.1 t326 rfl rfl rfl
    obtain ⟨z366, ez366, az366, bz366⟩ := gJ.int (k := 6) (G := gGG) sS358.1 t326 rfl rfl rfl
    obtain ⟨z367, ez367, az367, bz367⟩ := gJ.int (k := 7) (G := gGG) sS358.1 t326 rfl rfl rfl
    obtain ⟨z368, ez368, az368, bz368⟩ := gJ.int (k := 8) (G := gGG) sS358.1 t326 rfl rfl rfl
    have hpc369 : gPC tyq320 x b0 b1 b2 (hq320.2.2.2.1 cq320_1 : Int) hq320 := gPC.mk ⟨t322, t324, t325, t326⟩ ⟨t323, tcq320_0, tcq320_1⟩ ⟨s331, s332, s333, s334, ecq320_0, ecq320_1⟩ s346 s349 s350 s356 s344 s345 s347 s348 s335 s336 s337 s351 s352 s353 s354 s355 s338 s339 s340 ez359 ez360 ez361 ez362 ez363 s341 s342 s343 ez364 ez365 ez366 ez367 ez368 ⟨by omega, by omega⟩ ⟨by omega, by omega⟩ ⟨by omega, by omega⟩ ⟨by omega, by omega⟩ ⟨by omega, by omega⟩ ⟨by omega, by omega⟩ ⟨by omega, by omega⟩ ⟨by omega, by omega⟩ ⟨by omega, by omega⟩ ⟨by omega, by omega⟩ ⟨by omega, by omega⟩ ⟨by omega, by omega⟩ ⟨by omega, by omega⟩ ⟨by omega, by omega⟩ ⟨by omega, by omega⟩ ⟨by omega, by omega⟩ ⟨by omega, by omega⟩ ⟨by omega, by omega⟩ ⟨by omega, by omega⟩ ⟨by omega, by omega⟩ ⟨by omega, by omega⟩ ⟨by omega, by omega⟩ ⟨by omega, by omega⟩ ⟨by omega, by omega⟩ ⟨by omega, by omega⟩ ⟨by omega, by omega⟩ ⟨by omega, by omega⟩ ⟨by omega, by omega⟩ ⟨by omega, by omega⟩ ⟨by omega, by omega⟩ ⟨by omega, by omega⟩ ⟨by omega, by omega⟩ (fun w => by unfold gPq; (repeat' apply And.intro) <;> omega) (fun w => by unfold gPq; (repeat' apply And.intro) <;> omega) (fun w => by unfold gPq; (repeat' apply And.intro) <;> omega) (fun w => by (repeat' apply And.intro) <;> omega) (fun w => by (repeat' apply And.intro) <;> omega) (fun w => by (repeat' apply And.intro) <;> omega) (fun w => by (repeat' apply And.intro) <;> omega) (by omega) (by omega) (by omega) (by omega)
    have G370 : gSg [112, 113] [] [54002, 54003, 54005, 54006, 54007, 54008, 54010, 54011, 54012, 54013, 82004, 82005, 82006, 82007, 82008, 83004, 83005, 83006, 83007, 83008, 84004, 84005, 84006, 84007, 84008, 112999, 113999] ty h tyq320 hq320 := gSg.ss G321 sS358 (by decide)
    exact gz_end (I := .return_) (len := 1) rfl (Or.inl rfl) ⟨tyq320, G370, n, (hq320.2.2.2.1 cq320_1 : Int), rfl, s346, (by omega), (by omega), (by omega), (by omega), (by omega), (by omega), (by omega), (by omega), hpc369⟩
  · refine gy_icF rfl (by decide) (by decide) (by omega) (by omega) hc179 ?_
    refine gz_s 2 (pc' := 39) (L' := [some (.ref x), some (.int (zi nw)), some (.int (zi nh)), some (.int (zi n)), some (.int (zi 1))]) (S' := [.ref x, .ref x]) rfl ?_
    refine gs_gtk rfl (by decide) rfl sh159.1 tx rfl rfl s178 ?_
    refine gz_s 1 (pc' := 43) (L' := [some (.ref x), some (.int (zi nw)), some (.int (zi nh)), some (.int (zi n)), some (.int (zi 1))]) (S' := [.ref x, .int (zi zq94), .ref x]) rfl ?_
    refine gs_gtk rfl (by decide) rfl sh159.1 tx rfl rfl s160 ?_
    refine gz_s 1 (pc' := 48) (L' := [some (.ref x), some (.int (zi nw)), some (.int (zi nh)), some (.int (zi n)), some (.int (zi 1))]) (S' := [.int (zi 1), .ref bn, .int (zi zq94), .ref x]) rfl ?_
    have he373 : (1 : Int) = 1 := by omega
    refine gs_aak (j := 1) rfl (by decide) sh159.1 tbn rfl rfl rfl (by decide) he373 (by decide) s162 ?_
    refine gs_gtk rfl (by decide) rfl sh159.1 tb1 rfl rfl s169 ?_
    refine gz_call rfl (by decide) rfl (by decide) (by decide) (gcal_of rfl rfl rfl (Nat.le_of_ble_eq_true rfl) rfl) (cl_Math_max _ sh159.1 zq94 (by omega) hb1 (by omega) ) (fun q374 _ wq374 => ?_)
    obtain ⟨pq374, oq374, hq374⟩ := q374
    obtain ⟨xq374, zq374, gq374, aq374, bq374, uq374_0, uq374_1, uq374_2⟩ := wq374
    refine ⟨_, gq374, ?_⟩
    show gz gPP gGG gcn _ _ 55 [some (.ref x), some (.int (zi nw)), some (.int (zi nh)), some (.int (zi n)), some (.int (zi 1))] [.int (zi zq374), .ref x] hq374 _
    have sq374 : gSs rT 1027 ty [54002, 54003, 54005, 54006, 54007, 54008, 54010, 54011, 54012, 54013, 82004, 82005, 82006, 82007, 82008, 83004, 83005, 83006, 83007, 83008, 84004, 84005, 84006, 84007, 84008, 112999, 113999] h hq374 := gSs.tr sh159 xq374 (by decide)
    have s375 := (xq374.2.2.2.2.2 x 0 (by rw [tx]; decide)).trans s160
    have s376 := (xq374.2.2.2.2.2 bn 0 (by rw [tbn]; decide)).trans s161
    have s377 := (xq374.2.2.2.2.2 bn 1 (by rw [tbn]; decide)).trans s162
    have s378 := (xq374.2.2.2.2.2 bn 2 (by rw [tbn]; decide)).trans s163
    have s379 := (xq374.2.2.2.2.2 x 2 (by rw [tx]; decide)).trans s164
    have s380 := (xq374.2.2.2.2.2 x 3 (by rw [tx]; decide)).trans s165
    have s381 := (xq374.2.2.2.2.2 b0 1 (by rw [tb0]; decide)).trans s166
    have s382 := (xq374.2.2.2.2.2 b0 2 (by rw [tb0]; decide)).trans s167
    have s383 := (xq374.2.2.2.2.2 b0 3 (by rw [tb0]; decide)).trans s168
    have s384 := (xq374.2.2.2.2.2 b1 1 (by rw [tb1]; decide)).trans s169
    have s385 := (xq374.2.2.2.2.2 b1 2 (by rw [tb1]; decide)).trans s170
    have s386 := (xq374.2.2.2.2.2 b1 3 (by rw [tb1]; decide)).trans s171
    have s387 := (xq374.2.2.2.2.2 b2 1 (by rw [tb2]; decide)).trans s172
    have s388 := (xq374.2.2.2.2.2 b2 2 (by rw [tb2]; decide)).trans s173
    have s389 := (xq374.2.2.2.2.2 b2 3 (by rw [tb2]; decide)).trans s174
    have s390 := (xq374.2.2.2.2.2 x 5 (by rw [tx]; decide)).trans s175
    have s391 := (xq374.2.2.2.2.2 x 6 (by rw [tx]; decide)).trans s176
    have s392 := (xq374.2.2.2.2.2 x 7 (by rw [tx]; decide)).trans s177
    have s393 := (xq374.2.2.2.2.2 x 10 (by rw [tx]; decide)).trans s178
    have s394 := (xq374.2.2.2.2.2 x 11 (by rw [tx]; decide)).trans eh159
    refine gs_put rfl (by decide) rfl sq374 tx rfl rfl rfl rfl (Or.inl rfl) (by decide) (by omega) (by omega) (fun h395 sh395 eh395 fh395 => ?_)
    have s396 := (fh395 x 0 (fun q => absurd q.2 (by decide))).trans s375
    have s397 := (fh395 bn 0 (fun q => absurd (((tbn).symm.trans (congrArg ty q.1)).trans tx) (by decide))).trans s376
    have s398 := (fh395 bn 1 (fun q => absurd (((tbn).symm.trans (congrArg ty q.1)).trans tx) (by decide))).trans s377
    have s399 := (fh395 bn 2 (fun q => absurd (((tbn).symm.trans (congrArg ty q.1)).trans tx) (by decide))).trans s378
    have s400 := (fh395 x 2 (fun q => absurd q.2 (by decide))).trans s379
    have s401 := (fh395 x 3 (fun q => absurd q.2 (by decide))).trans s380
    have s402 := (fh395 b0 1 (fun q => absurd q.2 (by decide))).trans s381
    have s403 := (fh395 b0 2 (fun q => absurd q.2 (by decide))).trans s382
    have s404 := (fh395 b0 3 (fun q => absurd q.2 (by decide))).trans s383
    have s405 := (fh395 b1 1 (fun q => absurd q.2 (by decide))).trans s384
    have s406 := (fh395 b1 2 (fun q => absurd q.2 (by decide))).trans s385
    have s407 := (fh395 b1 3 (fun q => absurd q.2 (by decide))).trans s386
    have s408 := (fh395 b2 1 (fun q => absurd q.2 (by decide))).trans s387
    have s409 := (fh395 b2 2 (fun q => absurd q.2 (by decide))).trans s388
    have s410 := (fh395 b2 3 (fun q => absurd q.2 (by decide))).trans s389
    have s411 := (fh395 x 5 (fun q => absurd q.2 (by decide))).trans s390
    have s412 := (fh395 x 6 (fun q => absurd q.2 (by decide))).trans s391
    have s413 := (fh395 x 7 (fun q => absurd q.2 (by decide))).trans s392
    have s414 := (fh395 x 11 (fun q => absurd q.2 (by decide))).trans s394
    refine gz_s 2 (pc' := 60) (L' := [some (.ref x), some (.int (zi nw)), some (.int (zi nh)), some (.int (zi n)), some (.int (zi 1))]) (S' := [.ref x, .ref x]) rfl ?_
    refine gs_gtk rfl (by decide) rfl sh395.1 tx rfl rfl s414 ?_
    refine gz_s 1 (pc' := 64) (L' := [some (.ref x), some (.int (zi nw)), some (.int (zi nh)), some (.int (zi n)), some (.int (zi 1))]) (S' := [.ref x, .int (zi zq138), .ref x]) rfl ?_
    refine gs_gtk rfl (by decide) rfl sh395.1 tx rfl rfl s396 ?_
    refine gz_s 1 (pc' := 69) (L' := [some (.ref x), some (.int (zi nw)), some (.int (zi nh)), some (.int (zi n)), some (.int (zi 1))]) (S' := [.int (zi 1), .ref bn, .int (zi zq138), .ref x]) rfl ?_
    have he417 : (1 : Int) = 1 := by omega
    refine gs_aak (j := 1) rfl (by decide) sh395.1 tbn rfl rfl rfl (by decide) he417 (by decide) s398 ?_
    refine gs_gtk rfl (by decide) rfl sh395.1 tb1 rfl rfl s406 ?_
    refine gz_call rfl (by decide) rfl (by decide) (by decide) (gcal_of rfl rfl rfl (Nat.le_of_ble_eq_true rfl) rfl) (cl_Math_max _ sh395.1 zq138 (by omega) vb1 (by omega) ) (fun q418 _ wq418 => ?_)
    obtain ⟨pq418, oq418, hq418⟩ := q418
    obtain ⟨xq418, zq418, gq418, aq418, bq418, uq418_0, uq418_1, uq418_2⟩ := wq418
    refine ⟨_, gq418, ?_⟩
    show gz gPP gGG gcn _ _ 76 [some (.ref x), some (.int (zi nw)), some (.int (zi nh)), some (.int (zi n)), some (.int (zi 1))] [.int (zi zq418), .ref x] hq418 _
    have sq418 : gSs rT 1027 ty [54002, 54003, 54005, 54006, 54007, 54008, 54010, 54011, 54012, 54013, 82004, 82005, 82006, 82007, 82008, 83004, 83005, 83006, 83007, 83008, 84004, 84005, 84006, 84007, 84008, 112999, 113999] h hq418 := gSs.tr sh395 xq418 (by decide)
    have s419 := (xq418.2.2.2.2.2 x 0 (by rw [tx]; decide)).trans s396
    have s420 := (xq418.2.2.2.2.2 bn 0 (by rw [tbn]; decide)).trans s397
    have s421 := (xq418.2.2.2.2.2 bn 1 (by rw [tbn]; decide)).trans s398
    have s422 := (xq418.2.2.2.2.2 bn 2 (by rw [tbn]; decide)).trans s399
    have s423 := (xq418.2.2.2.2.2 x 2 (by rw [tx]; decide)).trans s400
    have s424 := (xq418.2.2.2.2.2 x 3 (by rw [tx]; decide)).trans s401
    have s425 := (xq418.2.2.2.2.2 b0 1 (by rw [tb0]; decide)).trans s402
    have s426 := (xq418.2.2.2.2.2 b0 2 (by rw [tb0]; decide)).trans s403
    have s427 := (xq418.2.2.2.2.2 b0 3 (by rw [tb0]; decide)).trans s404
    have s428 := (xq418.2.2.2.2.2 b1 1 (by rw [tb1]; decide)).trans s405
    have s429 := (xq418.2.2.2.2.2 b1 2 (by rw [tb1]; decide)).trans s406
    have s430 := (xq418.2.2.2.2.2 b1 3 (by rw [tb1]; decide)).trans s407
    have s431 := (xq418.2.2.2.2.2 b2 1 (by rw [tb2]; decide)).trans s408
    have s432 := (xq418.2.2.2.2.2 b2 2 (by rw [tb2]; decide)).trans s409
    have s433 := (xq418.2.2.2.2.2 b2 3 (by rw [tb2]; decide)).trans s410
    have s434 := (xq418.2.2.2.2.2 x 5 (by rw [tx]; decide)).trans s411
    have s435 := (xq418.2.2.2.2.2 x 6 (by rw [tx]; decide)).trans s412
    have s436 := (xq418.2.2.2.2.2 x 7 (by rw [tx]; decide)).trans s413
    have s437 := (xq418.2.2.2.2.2 x 11 (by rw [tx]; decide)).trans s414
    have s438 := (xq418.2.2.2.2.2 x 10 (by rw [tx]; decide)).trans eh395
    refine gs_put rfl (by decide) rfl sq418 tx rfl rfl rfl rfl (Or.inl rfl) (by decide) (by omega) (by omega) (fun h439 sh439 eh439 fh439 => ?_)
    have s440 := (fh439 x 0 (fun q => absurd q.2 (by decide))).trans s419
    have s441 := (fh439 bn 0 (fun q => absurd (((tbn).symm.trans (congrArg ty q.1)).trans tx) (by decide))).trans s420
    have s442 := (fh439 bn 1 (fun q => absurd (((tbn).symm.trans (congrArg ty q.1)).trans tx) (by decide))).trans s421
    have s443 := (fh439 bn 2 (fun q => absurd (((tbn).symm.trans (congrArg ty q.1)).trans tx) (by decide))).trans s422
    have s444 := (fh439 x 2 (fun q => absurd q.2 (by decide))).trans s423
    have s445 := (fh439 x 3 (fun q => absurd q.2 (by decide))).trans s424
    have s446 := (fh439 b0 1 (fun q => absurd q.2 (by decide))).trans s425
    have s447 := (fh439 b0 2 (fun q => absurd q.2 (by decide))).trans s426
    have s448 := (fh439 b0 3 (fun q => absurd q.2 (by decide))).trans s427
    have s449 := (fh439 b1 1 (fun q => absurd q.2 (by decide))).trans s428
    have s450 := (fh439 b1 2 (fun q => absurd q.2 (by decide))).trans s429
    have s451 := (fh439 b1 3 (fun q => absurd q.2 (by decide))).trans s430
    have s452 := (fh439 b2 1 (fun q => absurd q.2 (by decide))).trans s431
    have s453 := (fh439 b2 2 (fun q => absurd q.2 (by decide))).trans s432
    have s454 := (fh439 b2 3 (fun q => absurd q.2 (by decide))).trans s433
    have s455 := (fh439 x 5 (fun q => absurd q.2 (by decide))).trans s434
    have s456 := (fh439 x 6 (fun q => absurd q.2 (by decide))).trans s435
    have s457 := (fh439 x 7 (fun q => absurd q.2 (by decide))).trans s436
    have s458 := (fh439 x 10 (fun q => absurd q.2 (by decide))).trans s438
    refine gy_s 4 (pc' := 31) (L' := [some (.ref x), some (.int (zi nw)), some (.int (zi nh)), some (.int (zi n)), some (.int ((zi 1) + zi 1))]) (S' := [.ref x, .int ((zi 1) + zi 1)]) (L2 := [some (.ref x), some (.int (zi nw)), some (.int (zi nh)), some (.int (zi n)), some (.int (zi 2))]) (S2 := [.ref x, .int (zi 2)]) rfl (by simp only [zi_add, zi_sub, zi_mul, zi_neg, zi_and1, zi_and7, zi_and15, zi_and31, zi_and255, Int.reduceAdd, Int.reduceMul, Int.reduceSub]) (by simp only [zi_add, zi_sub, zi_mul, zi_neg, zi_and1, zi_and7, zi_and15, zi_and31, zi_and255, Int.reduceAdd, Int.reduceMul, Int.reduceSub]) ?_
    refine gs_gtk rfl (by decide) rfl sh439.1 tx rfl rfl s457 ?_
    by_cases hc459 : (n : Int) ≤ 2
    · refine gy_icT (pc' := 85) rfl (by decide) (by decide) (by omega) (by omega) hc459 ?_
      have hz1 := zup8 (w := nw) (wd := zq374) (by omega) (by omega)
      refine gz_s 2 (pc' := 87) (L' := [some (.ref x), some (.int (zi nw)), some (.int (zi nh)), some (.int (zi n)), some (.int (zi 2))]) (S' := [.ref x, .ref x]) rfl ?_
      refine gs_gtk rfl (by decide) rfl sh439.1 tx rfl rfl s455 ?_
      refine gz_s 2 (pc' := 93) (L' := [some (.ref x), some (.int (zi nw)), some (.int (zi nh)), some (.int (zi n)), some (.int (zi 2))]) (S' := [.ref x, .int (zi 8), .int (zi nw), .ref x]) rfl ?_
      refine gs_gtk rfl (by decide) rfl sh439.1 tx rfl rfl s458 ?_
      refine gy_s 1 (pc' := 97) (L' := [some (.ref x), some (.int (zi nw)), some (.int (zi nh)), some (.int (zi n)), some (.int (zi 2))]) (S' := [.int ((zi 8) * (zi zq374)), .int (zi nw), .ref x]) (L2 := [some (.ref x), some (.int (zi nw)), some (.int (zi nh)), some (.int (zi n)), some (.int (zi 2))]) (S2 := [.int (zi (8 * zq374)), .int (zi nw), .ref x]) rfl (by simp only [zi_add, zi_sub, zi_mul, zi_neg, zi_and1, zi_and7, zi_and15, zi_and31, zi_and255, Int.reduceAdd, Int.reduceMul, Int.reduceSub]) (by simp only [zi_add, zi_sub, zi_mul, zi_neg, zi_and1, zi_and7, zi_and15, zi_and31, zi_and255, Int.reduceAdd, Int.reduceMul, Int.reduceSub]) ?_
      refine gz_call rfl (by decide) rfl (by decide) (by decide) (gcal_of rfl rfl rfl (Nat.le_of_ble_eq_true rfl) rfl) (cl_DctFilter_upward _ sh439.1 nw (by omega) (8 * zq374) (by omega) ) (fun q460 _ wq460 => ?_)
      obtain ⟨pq460, oq460, hq460⟩ := q460
      obtain ⟨xq460, zq460, gq460, aq460, bq460, uq460_0⟩ := wq460
      refine ⟨_, gq460, ?_⟩
      show gz gPP gGG gcn _ _ 100 [some (.ref x), some (.int (zi nw)), some (.int (zi nh)), some (.int (zi n)), some (.int (zi 2))] [.int (zi zq460), .ref x] hq460 _
      have sq460 : gSs rT 1027 ty [54002, 54003, 54005, 54006, 54007, 54008, 54010, 54011, 54012, 54013, 82004, 82005, 82006, 82007, 82008, 83004, 83005, 83006, 83007, 83008, 84004, 84005, 84006, 84007, 84008, 112999, 113999] h hq460 := gSs.tr sh439 xq460 (by decide)
      have s461 := (xq460.2.2.2.2.2 x 0 (by rw [tx]; decide)).trans s440
      have s462 := (xq460.2.2.2.2.2 bn 0 (by rw [tbn]; decide)).trans s441
      have s463 := (xq460.2.2.2.2.2 bn 1 (by rw [tbn]; decide)).trans s442
      have s464 := (xq460.2.2.2.2.2 bn 2 (by rw [tbn]; decide)).trans s443
      have s465 := (xq460.2.2.2.2.2 x 2 (by rw [tx]; decide)).trans s444
      have s466 := (xq460.2.2.2.2.2 x 3 (by rw [tx]; decide)).trans s445
      have s467 := (xq460.2.2.2.2.2 b0 1 (by rw [tb0]; decide)).trans s446
      have s468 := (xq460.2.2.2.2.2 b0 2 (by rw [tb0]; decide)).trans s447
      have s469 := (xq460.2.2.2.2.2 b0 3 (by rw [tb0]; decide)).trans s448
      have s470 := (xq460.2.2.2.2.2 b1 1 (by rw [tb1]; decide)).trans s449
      have s471 := (xq460.2.2.2.2.2 b1 2 (by rw [tb1]; decide)).trans s450
      have s472 := (xq460.2.2.2.2.2 b1 3 (by rw [tb1]; decide)).trans s451
      have s473 := (xq460.2.2.2.2.2 b2 1 (by rw [tb2]; decide)).trans s452
      have s474 := (xq460.2.2.2.2.2 b2 2 (by rw [tb2]; decide)).trans s453
      have s475 := (xq460.2.2.2.2.2 b2 3 (by rw [tb2]; decide)).trans s454
      have s476 := (xq460.2.2.2.2.2 x 5 (by rw [tx]; decide)).trans s455
      have s477 := (xq460.2.2.2.2.2 x 6 (by rw [tx]; decide)).trans s456
      have s478 := (xq460.2.2.2.2.2 x 7 (by rw [tx]; decide)).trans s457
      have s479 := (xq460.2.2.2.2.2 x 10 (by rw [tx]; decide)).trans s458
      have s480 := (xq460.2.2.2.2.2 x 11 (by rw [tx]; decide)).trans eh439
      refine gs_put rfl (by decide) rfl sq460 tx rfl rfl rfl rfl (Or.inl rfl) (by decide) (by omega) (by omega) (fun h481 sh481 eh481 fh481 => ?_)
      have s482 := (fh481 x 0 (fun q => absurd q.2 (by decide))).trans s461
      have s483 := (fh481 bn 0 (fun q => absurd (((tbn).symm.trans (congrArg ty q.1)).trans tx) (by decide))).trans s462
      have s484 := (fh481 bn 1 (fun q => absurd (((tbn).symm.trans (congrArg ty q.1)).trans tx) (by decide))).trans s463
      have s485 := (fh481 bn 2 (fun q => absurd (((tbn).symm.trans (congrArg ty q.1)).trans tx) (by decide))).trans s464
      have s486 := (fh481 x 2 (fun q => absurd q.2 (by decide))).trans s465
      have s487 := (fh481 x 3 (fun q => absurd q.2 (by decide))).trans s466
      have s488 := (fh481 b0 1 (fun q => absurd q.2 (by decide))).trans s467
      have s489 := (fh481 b0 2 (fun q => absurd q.2 (by decide))).trans s468
      have s490 := (fh481 b0 3 (fun q => absurd q.2 (by decide))).trans s469
      have s491 := (fh481 b1 1 (fun q => absurd q.2 (by decide))).trans s470
      have s492 := (fh481 b1 2 (fun q => absurd q.2 (by decide))).trans s471
      have s493 := (fh481 b1 3 (fun q => absurd q.2 (by decide))).trans s472
      have s494 := (fh481 b2 1 (fun q => absurd q.2 (by decide))).trans s473
      have s495 := (fh481 b2 2 (fun q => absurd q.2 (by decide))).trans s474
      have s496 := (fh481 b2 3 (fun q => absurd q.2 (by decide))).trans s475
      have s497 := (fh481 x 5 (fun q => absurd q.2 (by decide))).trans s476
      have s498 := (fh481 x 6 (fun q => absurd q.2 (by decide))).trans s477
      have s499 := (fh481 x 7 (fun q => absurd q.2 (by decide))).trans s478
      have s500 := (fh481 x 10 (fun q => absurd q.2 (by decide))).trans s479
      have s501 := (fh481 x 11 (fun q => absurd q.2 (by decide))).trans s480
      have hz2 := zup8 (w := nh) (wd := zq418) (by omega) (by omega)
      refine gz_s 2 (pc' := 105) (L' := [some (.ref x), some (.int (zi nw)), some (.int (zi nh)), some (.int (zi n)), some (.int (zi 2))]) (S' := [.ref x, .ref x]) rfl ?_
      refine gs_gtk rfl (by decide) rfl sh481.1 tx rfl rfl s498 ?_
      refine gz_s 2 (pc' := 111) (L' := [some (.ref x), some (.int (zi nw)), some (.int (zi nh)), some (.int (zi n)), some (.int (zi 2))]) (S' := [.ref x, .int (zi 8), .int (zi nh), .ref x]) rfl ?_
      refine gs_gtk rfl (by decide) rfl sh481.1 tx rfl rfl s501 ?_
      refine gy_s 1 (pc' := 115) (L' := [some (.ref x), some (.int (zi nw)), some (.int (zi nh)), some (.int (zi n)), some (.int (zi 2))]) (S' := [.int ((zi 8) * (zi zq418)), .int (zi nh), .ref x]) (L2 := [some (.ref x), some (.int (zi nw)), some (.int (zi nh)), some (.int (zi n)), some (.int (zi 2))]) (S2 := [.int (zi (8 * zq418)), .int (zi nh), .ref x]) rfl (by simp only [zi_add, zi_sub, zi_mul, zi_neg, zi_and1, zi_and7, zi_and15, zi_and31, zi_and255, Int.reduceAdd, Int.reduceMul, Int.reduceSub]) (by simp only [zi_add, zi_sub, zi_mul, zi_neg, zi_and1, zi_and7, zi_and15, zi_and31, zi_and255, Int.reduceAdd, Int.reduceMul, Int.reduceSub]) ?_
      refine gz_call rfl (by decide) rfl (by decide) (by decide) (gcal_of rfl rfl rfl (Nat.le_of_ble_eq_true rfl) rfl) (cl_DctFilter_upward _ sh481.1 nh (by omega) (8 * zq418) (by omega) ) (fun q502 _ wq502 => ?_)
      obtain ⟨pq502, oq502, hq502⟩ := q502
      obtain ⟨xq502, zq502, gq502, aq502, bq502, uq502_0⟩ := wq502
      refine ⟨_, gq502, ?_⟩
      show gz gPP gGG gcn _ _ 118 [some (.ref x), some (.int (zi nw)), some (.int (zi nh)), some (.int (zi n)), some (.int (zi 2))] [.int (zi zq502), .ref x] hq502 _
      have sq502 : gSs rT 1027 ty [54002, 54003, 54005, 54006, 54007, 54008, 54010, 54011, 54012, 54013, 82004, 82005, 82006, 82007, 82008, 83004, 83005, 83006, 83007, 83008, 84004, 84005, 84006, 84007, 84008, 112999, 113999] h hq502 := gSs.tr sh481 xq502 (by decide)
      have s503 := (xq502.2.2.2.2.2 x 0 (by rw [tx]; decide)).trans s482
      have s504 := (xq502.2.2.2.2.2 bn 0 (by rw [tbn]; decide)).trans s483
      have s505 := (xq502.2.2.2.2.2 bn 1 (by rw [tbn]; decide)).trans s484
      have s506 := (xq502.2.2.2.2.2 bn 2 (by rw [tbn]; decide)).trans s485
      have s507 := (xq502.2.2.2.2.2 x 2 (by rw [tx]; decide)).trans s486
      have s508 := (xq502.2.2.2.2.2 x 3 (by rw [tx]; decide)).trans s487
      have s509 := (xq502.2.2.2.2.2 b0 1 (by rw [tb0]; decide)).trans s488
      have s510 := (xq502.2.2.2.2.2 b0 2 (by rw [tb0]; decide)).trans s489
      have s511 := (xq502.2.2.2.2.2 b0 3 (by rw [tb0]; decide)).trans s490
      have s512 := (xq502.2.2.2.2.2 b1 1 (by rw [tb1]; decide)).trans s491
      have s513 := (xq502.2.2.2.2.2 b1 2 (by rw [tb1]; decide)).trans s492
      have s514 := (xq502.2.2.2.2.2 b1 3 (by rw [tb1]; decide)).trans s493
      have s515 := (xq502.2.2.2.2.2 b2 1 (by rw [tb2]; decide)).trans s494
      have s516 := (xq502.2.2.2.2.2 b2 2 (by rw [tb2]; decide)).trans s495
      have s517 := (xq502.2.2.2.2.2 b2 3 (by rw [tb2]; decide)).trans s496
      have s518 := (xq502.2.2.2.2.2 x 5 (by rw [tx]; decide)).trans s497
      have s519 := (xq502.2.2.2.2.2 x 6 (by rw [tx]; decide)).trans s498
      have s520 := (xq502.2.2.2.2.2 x 7 (by rw [tx]; decide)).trans s499
      have s521 := (xq502.2.2.2.2.2 x 10 (by rw [tx]; decide)).trans s500
      have s522 := (xq502.2.2.2.2.2 x 11 (by rw [tx]; decide)).trans s501
      have s523 := (xq502.2.2.2.2.2 x 12 (by rw [tx]; decide)).trans eh481
      refine gs_put rfl (by decide) rfl sq502 tx rfl rfl rfl rfl (Or.inl rfl) (by decide) (by omega) (by omega) (fun h524 sh524 eh524 fh524 => ?_)
      have s525 := (fh524 x 0 (fun q => absurd q.2 (by decide))).trans s503
      have s526 := (fh524 bn 0 (fun q => absurd (((tbn).symm.trans (congrArg ty q.1)).trans tx) (by decide))).trans s504
      have s527 := (fh524 bn 1 (fun q => absurd (((tbn).symm.trans (congrArg ty q.1)).trans tx) (by decide))).trans s505
      have s528 := (fh524 bn 2 (fun q => absurd (((tbn).symm.trans (congrArg ty q.1)).trans tx) (by decide))).trans s506
      have s529 := (fh524 x 2 (fun q => absurd q.2 (by decide))).trans s507
      have s530 := (fh524 x 3 (fun q => absurd q.2 (by decide))).trans s508
      have s531 := (fh524 b0 1 (fun q => absurd q.2 (by decide))).trans s509
      have s532 := (fh524 b0 2 (fun q => absurd q.2 (by decide))).trans s510
      have s533 := (fh524 b0 3 (fun q => absurd q.2 (by decide))).trans s511
      have s534 := (fh524 b1 1 (fun q => absurd q.2 (by decide))).trans s512
      have s535 := (fh524 b1 2 (fun q => absurd q.2 (by decide))).trans s513
      have s536 := (fh524 b1 3 (fun q => absurd q.2 (by decide))).trans s514
      have s537 := (fh524 b2 1 (fun q => absurd q.2 (by decide))).trans s515
      have s538 := (fh524 b2 2 (fun q => absurd q.2 (by decide))).trans s516
      have s539 := (fh524 b2 3 (fun q => absurd q.2 (by decide))).trans s517
      have s540 := (fh524 x 5 (fun q => absurd q.2 (by decide))).trans s518
      have s541 := (fh524 x 6 (fun q => absurd q.2 (by decide))).trans s519
      have s542 := (fh524 x 7 (fun q => absurd q.2 (by decide))).trans s520
      have s543 := (fh524 x 10 (fun q => absurd q.2 (by decide))).trans s521
      have s544 := (fh524 x 11 (fun q => absurd q.2 (by decide))).trans s522
      have s545 := (fh524 x 12 (fun q => absurd q.2 (by decide))).trans s523
      refine gz_s 2 (pc' := 123) (L' := [some (.ref x), some (.int (zi nw)), some (.int (zi nh)), some (.int (zi n)), some (.int (zi 2))]) (S' := [.int (zi 0), .ref x]) rfl ?_
      refine gs_put rfl (by decide) rfl sh524 tx rfl rfl rfl rfl (Or.inl rfl) (by decide) (by omega) (by omega) (fun h546 sh546 eh546 fh546 => ?_)
      have s547 := (fh546 x 0 (fun q => absurd q.2 (by decide))).trans s525
      have s548 := (fh546 bn 0 (fun q => absurd (((tbn).symm.trans (congrArg ty q.1)).trans tx) (by decide))).trans s526
      have s549 := (fh546 bn 1 (fun q => absurd (((tbn).symm.trans (congrArg ty q.1)).trans tx) (by decide))).trans s527
      have s550 := (fh546 bn 2 (fun q => absurd (((tbn).symm.trans (congrArg ty q.1)).trans tx) (by decide))).trans s528
      have s551 := (fh546 x 2 (fun q => absurd q.2 (by decide))).trans s529
      have s552 := (fh546 x 3 (fun q => absurd q.2 (by decide))).trans s530
      have s553 := (fh546 b0 1 (fun q => absurd q.2 (by decide))).trans s531
      have s554 := (fh546 b0 2 (fun q => absurd q.2 (by decide))).trans s532
      have s555 := (fh546 b0 3 (fun q => absurd q.2 (by decide))).trans s533
      have s556 := (fh546 b1 1 (fun q => absurd q.2 (by decide))).trans s534
      have s557 := (fh546 b1 2 (fun q => absurd q.2 (by decide))).trans s535
      have s558 := (fh546 b1 3 (fun q => absurd q.2 (by decide))).trans s536
      have s559 := (fh546 b2 1 (fun q => absurd q.2 (by decide))).trans s537
      have s560 := (fh546 b2 2 (fun q => absurd q.2 (by decide))).trans s538
      have s561 := (fh546 b2 3 (fun q => absurd q.2 (by decide))).trans s539
      have s562 := (fh546 x 5 (fun q => absurd q.2 (by decide))).trans s540
      have s563 := (fh546 x 6 (fun q => absurd q.2 (by decide))).trans s541
      have s564 := (fh546 x 7 (fun q => absurd q.2 (by decide))).trans s542
      have s565 := (fh546 x 10 (fun q => absurd q.2 (by decide))).trans s543
      have s566 := (fh546 x 11 (fun q => absurd q.2 (by decide))).trans s544
      have s567 := (fh546 x 12 (fun q => absurd q.2 (by decide))).trans s545
      have s568 := (fh546 x 13 (fun q => absurd q.2 (by decide))).trans eh524
      refine gz_s 4 (pc' := 132) (L' := [some (.ref x), some (.int (zi nw)), some (.int (zi nh)), some (.int (zi n)), some (.int (zi 0))]) (S' := [.ref x, .int (zi 0)]) rfl ?_
      refine gs_gtk rfl (by decide) rfl sh546.1 tx rfl rfl s564 ?_
      refine gy_icF rfl (by decide) (by decide) (by omega) (by omega) (by first | (simp [zc]; done) | (simp only [zc]; omega)) ?_
      refine gz_s 2 (pc' := 140) (L' := [some (.ref x), some (.int (zi nw)), some (.int (zi nh)), some (.int (zi n)), some (.int (zi 0))]) (S' := [.ref x, .ref x]) rfl ?_
      refine gs_gtk rfl (by decide) rfl sh546.1 tx rfl rfl s547 ?_
      refine gz_s 1 (pc' := 145) (L' := [some (.ref x), some (.int (zi nw)), some (.int (zi nh)), some (.int (zi n)), some (.int (zi 0))]) (S' := [.int (zi 0), .ref bn, .ref x]) rfl ?_
      have he571 : (0 : Int) = 0 := by omega
      refine gs_aak (j := 0) rfl (by decide) sh546.1 tbn rfl rfl rfl (by decide) he571 (by decide) s548 ?_
      refine gz_call rfl (by decide) rfl (by decide) (by decide) (gcal_of rfl rfl rfl (Nat.le_of_ble_eq_true rfl) (gJ.recv (G := gGG) sh546.1 tx rfl rfl)) (cl_placeBand0 _ sh546.1 x tx b0 tb0 zq460 s567 (by omega) zq502 s568 (by omega) 0 eh546 (by omega) nw s562 (by omega) nh s563 (by omega) zq374 s565 (by omega) zq418 s566 (by omega) hb0 s553 (by omega) vb0 s554 (by omega) (by omega) (by omega) (by omega) (by omega) uq) (fun q572 _ wq572 => ?_)
      obtain ⟨pq572, oq572, hq572⟩ := q572
      obtain ⟨xq572, fq572_0, fq572_1, fq572_2, fq572_3, fq572_4, fq572_5, gq572, efq572_0, afq572_0, bfq572_0, efq572_1, afq572_1, bfq572_1, efq572_2, afq572_2, bfq572_2, efq572_3, afq572_3, bfq572_3, efq572_4, afq572_4, bfq572_4, efq572_5, afq572_5, bfq572_5, uq572_0, uq572_1, uq572_2, uq572_3, uq572_4, uq572_5, uq572_6, uq572_7, uq572_8, uq572_9, uq572_10, uq572_11⟩ := wq572
      refine ⟨_, gq572, ?_⟩
      show gz gPP gGG gcn _ _ 149 [some (.ref x), some (.int (zi nw)), some (.int (zi nh)), some (.int (zi n)), some (.int (zi 0))] [] hq572 _
      have sq572 : gSs rT 1027 ty [54002, 54003, 54005, 54006, 54007, 54008, 54010, 54011, 54012, 54013, 82004, 82005, 82006, 82007, 82008, 83004, 83005, 83006, 83007, 83008, 84004, 84005, 84006, 84007, 84008, 112999, 113999] h hq572 := gSs.tr sh546 xq572 (by decide)
      have s573 := (xq572.2.2.2.2.2 x 0 (by rw [tx]; decide)).trans s547
      have s574 := (xq572.2.2.2.2.2 bn 0 (by rw [tbn]; decide)).trans s548
      have s575 := (xq572.2.2.2.2.2 bn 1 (by rw [tbn]; decide)).trans s549
      have s576 := (xq572.2.2.2.2.2 bn 2 (by rw [tbn]; decide)).trans s550
      have s577 := (xq572.2.2.2.2.2 x 2 (by rw [tx]; decide)).trans s551
      have s578 := (xq572.2.2.2.2.2 x 3 (by rw [tx]; decide)).trans s552
      have s579 := (xq572.2.2.2.2.2 b0 1 (by rw [tb0]; decide)).trans s553
      have s580 := (xq572.2.2.2.2.2 b0 2 (by rw [tb0]; decide)).trans s554
      have s581 := (xq572.2.2.2.2.2 b0 3 (by rw [tb0]; decide)).trans s555
      have s582 := (xq572.2.2.2.2.2 b1 1 (by rw [tb1]; decide)).trans s556
      have s583 := (xq572.2.2.2.2.2 b1 2 (by rw [tb1]; decide)).trans s557
      have s584 := (xq572.2.2.2.2.2 b1 3 (by rw [tb1]; decide)).trans s558
      have s585 := (xq572.2.2.2.2.2 b2 1 (by rw [tb2]; decide)).trans s559
      have s586 := (xq572.2.2.2.2.2 b2 2 (by rw [tb2]; decide)).trans s560
      have s587 := (xq572.2.2.2.2.2 b2 3 (by rw [tb2]; decide)).trans s561
      have s588 := (xq572.2.2.2.2.2 x 5 (by rw [tx]; decide)).trans s562
      have s589 := (xq572.2.2.2.2.2 x 6 (by rw [tx]; decide)).trans s563
      have s590 := (xq572.2.2.2.2.2 x 7 (by rw [tx]; decide)).trans s564
      have s591 := (xq572.2.2.2.2.2 x 10 (by rw [tx]; decide)).trans s565
      have s592 := (xq572.2.2.2.2.2 x 11 (by rw [tx]; decide)).trans s566
      have s593 := (xq572.2.2.2.2.2 x 12 (by rw [tx]; decide)).trans s567
      have s594 := (xq572.2.2.2.2.2 x 13 (by rw [tx]; decide)).trans s568
      refine gy_s 4 (pc' := 132) (L' := [some (.ref x), some (.int (zi nw)), some (.int (zi nh)), some (.int (zi n)), some (.int ((zi 0) + zi 1))]) (S' := [.ref x, .int ((zi 0) + zi 1)]) (L2 := [some (.ref x), some (.int (zi nw)), some (.int (zi nh)), some (.int (zi n)), some (.int (zi 1))]) (S2 := [.ref x, .int (zi 1)]) rfl (by simp only [zi_add, zi_sub, zi_mul, zi_neg, zi_and1, zi_and7, zi_and15, zi_and31, zi_and255, Int.reduceAdd, Int.reduceMul, Int.reduceSub]) (by simp only [zi_add, zi_sub, zi_mul, zi_neg, zi_and1, zi_and7, zi_and15, zi_and31, zi_and255, Int.reduceAdd, Int.reduceMul, Int.reduceSub]) ?_
      refine gs_gtk rfl (by decide) rfl sq572.1 tx rfl rfl s590 ?_
      refine gy_icF rfl (by decide) (by decide) (by omega) (by omega) (by first | (simp [zc]; done) | (simp only [zc]; omega)) ?_
      refine gz_s 2 (pc' := 140) (L' := [some (.ref x), some (.int (zi nw)), some (.int (zi nh)), some (.int (zi n)), some (.int (zi 1))]) (S' := [.ref x, .ref x]) rfl ?_
      refine gs_gtk rfl (by decide) rfl sq572.1 tx rfl rfl s573 ?_
      refine gz_s 1 (pc' := 145) (L' := [some (.ref x), some (.int (zi nw)), some (.int (zi nh)), some (.int (zi n)), some (.int (zi 1))]) (S' := [.int (zi 1), .ref bn, .ref x]) rfl ?_
      have he597 : (1 : Int) = 1 := by omega
      refine gs_aak (j := 1) rfl (by decide) sq572.1 tbn rfl rfl rfl (by decide) he597 (by decide) s575 ?_
      refine gz_call rfl (by decide) rfl (by decide) (by decide) (gcal_of rfl rfl rfl (Nat.le_of_ble_eq_true rfl) (gJ.recv (G := gGG) sq572.1 tx rfl rfl)) (cl_placeBand1 _ sq572.1 x tx b1 tb1 zq460 s593 (by omega) zq502 s594 (by omega) fq572_5 efq572_5 (by omega) nw s588 (by omega) nh s589 (by omega) zq374 s591 (by omega) zq418 s592 (by omega) hb1 s582 (by omega) vb1 s583 (by omega) (by omega) (by omega) (by omega) (by omega) uq) (fun q598 _ wq598 => ?_)
      obtain ⟨pq598, oq598, hq598⟩ := q598
      obtain ⟨xq598, fq598_0, fq598_1, fq598_2, fq598_3, fq598_4, fq598_5, gq598, efq598_0, afq598_0, bfq598_0, efq598_1, afq598_1, bfq598_1, efq598_2, afq598_2, bfq598_2, efq598_3, afq598_3, bfq598_3, efq598_4, afq598_4, bfq598_4, efq598_5, afq598_5, bfq598_5, uq598_0, uq598_1, uq598_2, uq598_3, uq598_4, uq598_5, uq598_6, uq598_7, uq598_8, uq598_9, uq598_10, uq598_11⟩ := wq598
      refine ⟨_, gq598, ?_⟩
      show gz gPP gGG gcn _ _ 149 [some (.ref x), some (.int (zi nw)), some (.int (zi nh)), some (.int (zi n)), some (.int (zi 1))] [] hq598 _
      have sq598 : gSs rT 1027 ty [54002, 54003, 54005, 54006, 54007, 54008, 54010, 54011, 54012, 54013, 82004, 82005, 82006, 82007, 82008, 83004, 83005, 83006, 83007, 83008, 84004, 84005, 84006, 84007, 84008, 112999, 113999] h hq598 := gSs.tr sq572 xq598 (by decide)
      have s599 := (xq598.2.2.2.2.2 x 0 (by rw [tx]; decide)).trans s573
      have s600 := (xq598.2.2.2.2.2 bn 0 (by rw [tbn]; decide)).trans s574
      have s601 := (xq598.2.2.2.2.2 bn 1 (by rw [tbn]; decide)).trans s575
      have s602 := (xq598.2.2.2.2.2 bn 2 (by rw [tbn]; decide)).trans s576
      have s603 := (xq598.2.2.2.2.2 x 2 (by rw [tx]; decide)).trans s577
      have s604 := (xq598.2.2.2.2.2 x 3 (by rw [tx]; decide)).trans s578
      have s605 := (xq598.2.2.2.2.2 b0 1 (by rw [tb0]; decide)).trans s579
      have s606 := (xq598.2.2.2.2.2 b0 2 (by rw [tb0]; decide)).trans s580
      have s607 := (xq598.2.2.2.2.2 b0 3 (by rw [tb0]; decide)).trans s581
      have s608 := (xq598.2.2.2.2.2 b1 1 (by rw [tb1]; decide)).trans s582
      have s609 := (xq598.2.2.2.2.2 b1 2 (by rw [tb1]; decide)).trans s583
      have s610 := (xq598.2.2.2.2.2 b1 3 (by rw [tb1]; decide)).trans s584
      have s611 := (xq598.2.2.2.2.2 b2 1 (by rw [tb2]; decide)).trans s585
      have s612 := (xq598.2.2.2.2.2 b2 2 (by rw [tb2]; decide)).trans s586
      have s613 := (xq598.2.2.2.2.2 b2 3 (by rw [tb2]; decide)).trans s587
      have s614 := (xq598.2.2.2.2.2 x 5 (by rw [tx]; decide)).trans s588
      have s615 := (xq598.2.2.2.2.2 x 6 (by rw [tx]; decide)).trans s589
      have s616 := (xq598.2.2.2.2.2 x 7 (by rw [tx]; decide)).trans s590
      have s617 := (xq598.2.2.2.2.2 x 10 (by rw [tx]; decide)).trans s591
      have s618 := (xq598.2.2.2.2.2 x 11 (by rw [tx]; decide)).trans s592
      have s619 := (xq598.2.2.2.2.2 x 12 (by rw [tx]; decide)).trans s593
      have s620 := (xq598.2.2.2.2.2 x 13 (by rw [tx]; decide)).trans s594
      have s621 := (xq598.2.2.2.2.2 b0 4 (by rw [tb0]; decide)).trans efq572_0
      have s622 := (xq598.2.2.2.2.2 b0 5 (by rw [tb0]; decide)).trans efq572_1
      have s623 := (xq598.2.2.2.2.2 b0 6 (by rw [tb0]; decide)).trans efq572_2
      have s624 := (xq598.2.2.2.2.2 b0 7 (by rw [tb0]; decide)).trans efq572_3
      have s625 := (xq598.2.2.2.2.2 b0 8 (by rw [tb0]; decide)).trans efq572_4
      refine gy_s 4 (pc' := 132) (L' := [some (.ref x), some (.int (zi nw)), some (.int (zi nh)), some (.int (zi n)), some (.int ((zi 1) + zi 1))]) (S' := [.ref x, .int ((zi 1) + zi 1)]) (L2 := [some (.ref x), some (.int (zi nw)), some (.int (zi nh)), some (.int (zi n)), some (.int (zi 2))]) (S2 := [.ref x, .int (zi 2)]) rfl (by simp only [zi_add, zi_sub, zi_mul, zi_neg, zi_and1, zi_and7, zi_and15, zi_and31, zi_and255, Int.reduceAdd, Int.reduceMul, Int.reduceSub]) (by simp only [zi_add, zi_sub, zi_mul, zi_neg, zi_and1, zi_and7, zi_and15, zi_and31, zi_and255, Int.reduceAdd, Int.reduceMul, Int.reduceSub]) ?_
      refine gs_gtk rfl (by decide) rfl sq598.1 tx rfl rfl s616 ?_
      refine gy_icT (pc' := 155) rfl (by decide) (by decide) (by omega) (by omega) (by first | (simp [zc]; done) | (simp only [zc]; omega)) ?_
      refine gz_s 1 (pc' := 156) (L' := [some (.ref x), some (.int (zi nw)), some (.int (zi nh)), some (.int (zi n)), some (.int (zi 2))]) (S' := [.ref x]) rfl ?_
      have k626 := sq598.2.1
      have k626b := sq598.2.2.1
      have hl627 : hq598.2.2.2.1 co = h.2.2.2.1 co := congrFun sq598.2.2.2.2.1 co
      have hl628 : hq598.2.2.2.1 dm = h.2.2.2.1 dm := congrFun sq598.2.2.2.2.1 dm
      have hl629 : hq598.2.2.2.1 co = h.2.2.2.1 co := congrFun sq598.2.2.2.2.1 co
      have hl630 : hq598.2.2.2.1 dm = h.2.2.2.1 dm := congrFun sq598.2.2.2.2.1 dm
      refine gz_call rfl (by decide) rfl (by decide) (by decide) (gcal_of rfl rfl rfl (Nat.le_of_ble_eq_true rfl) (gJ.recv (G := gGG) sq598.1 tx rfl rfl)) (cl_Picture_clearBlocks _ sq598.1 x tx co s603 tco dm s604 tdm fq598_5 efq598_5 (by omega) (by omega) uq) (fun q631 _ wq631 => ?_)
      obtain ⟨pq631, oq631, hq631⟩ := q631
      obtain ⟨tyq631, xq631, cq631_0, cq631_1, ttq631, ecq631_0, tcq631_0, ecq631_1, tcq631_1, gq631, uq631_0, uq631_1, uq631_2, uq631_3, uq631_4⟩ := wq631
      refine ⟨_, gq631, ?_⟩
      show gz gPP gGG gcn _ _ 159 [some (.ref x), some (.int (zi nw)), some (.int (zi nh)), some (.int (zi n)), some (.int (zi 2))] [] hq631 _
      have G632 : gSg [112, 113] [] [54002, 54003, 54005, 54006, 54007, 54008, 54010, 54011, 54012, 54013, 82004, 82005, 82006, 82007, 82008, 83004, 83005, 83006, 83007, 83008, 84004, 84005, 84006, 84007, 84008, 112999, 113999] ty h tyq631 hq631 := gSg.tr (gSg.ss G0 sq598 (by decide)) xq631 (by decide) (by decide) (fun x hx => by cases hx)
      have t633 : tyq631 x = 54 := gSg.typ xq631 sq598.1 tx rfl
      have t634 : tyq631 bn = 57 := gSg.typ xq631 sq598.1 tbn rfl
      have t635 : tyq631 b0 = 82 := gSg.typ xq631 sq598.1 tb0 rfl
      have t636 : tyq631 b1 = 83 := gSg.typ xq631 sq598.1 tb1 rfl
      have t637 : tyq631 b2 = 84 := gSg.typ xq631 sq598.1 tb2 rfl
      have t638 : tyq631 co = 112 := gSg.typ xq631 sq598.1 tco rfl
      have hl639 : hq631.2.2.2.1 co = hq598.2.2.2.1 co := gSg.len xq631 sq598.1 tco rfl
      have t640 : tyq631 dm = 113 := gSg.typ xq631 sq598.1 tdm rfl
      have hl641 : hq631.2.2.2.1 dm = hq598.2.2.2.1 dm := gSg.len xq631 sq598.1 tdm rfl
      have s642 := gSg.at xq631 sq598.1 tx rfl (by decide) s599
      have s643 := gSg.at xq631 sq598.1 tbn rfl (by decide) s600
      have s644 := gSg.at xq631 sq598.1 tbn rfl (by decide) s601
      have s645 := gSg.at xq631 sq598.1 tbn rfl (by decide) s602
      have s646 := gSg.at xq631 sq598.1 tb0 rfl (by decide) s605
      have s647 := gSg.at xq631 sq598.1 tb0 rfl (by decide) s606
      have s648 := gSg.at xq631 sq598.1 tb0 rfl (by decide) s607
      have s649 := gSg.at xq631 sq598.1 tb1 rfl (by decide) s608
      have s650 := gSg.at xq631 sq598.1 tb1 rfl (by decide) s609
      have s651 := gSg.at xq631 sq598.1 tb1 rfl (by decide) s610
      have s652 := gSg.at xq631 sq598.1 tb2 rfl (by decide) s611
      have s653 := gSg.at xq631 sq598.1 tb2 rfl (by decide) s612
      have s654 := gSg.at xq631 sq598.1 tb2 rfl (by decide) s613
      have s655 := gSg.at xq631 sq598.1 tx rfl (by decide) s614
      have s656 := gSg.at xq631 sq598.1 tx rfl (by decide) s615
      have s657 := gSg.at xq631 sq598.1 tx rfl (by decide) s616
      have s658 := gSg.at xq631 sq598.1 tx rfl (by decide) s617
      have s659 := gSg.at xq631 sq598.1 tx rfl (by decide) s618
      have s660 := gSg.at xq631 sq598.1 tx rfl (by decide) s619
      have s661 := gSg.at xq631 sq598.1 tx rfl (by decide) s620
      have s662 := gSg.at xq631 sq598.1 tb0 rfl (by decide) s621
      have s663 := gSg.at xq631 sq598.1 tb0 rfl (by decide) s622
      have s664 := gSg.at xq631 sq598.1 tb0 rfl (by decide) s623
      have s665 := gSg.at xq631 sq598.1 tb0 rfl (by decide) s624
      have s666 := gSg.at xq631 sq598.1 tb0 rfl (by decide) s625
      have s667 := gSg.at xq631 sq598.1 tb1 rfl (by decide) efq598_0
      have s668 := gSg.at xq631 sq598.1 tb1 rfl (by decide) efq598_1
      have s669 := gSg.at xq631 sq598.1 tb1 rfl (by decide) efq598_2
      have s670 := gSg.at xq631 sq598.1 tb1 rfl (by decide) efq598_3
      have s671 := gSg.at xq631 sq598.1 tb1 rfl (by decide) efq598_4
      have s672 := gSg.at xq631 sq598.1 tx rfl (by decide) efq598_5
      have uq673 := gSg.uq xq631 uq (by decide)
      have sS674 : gSs rT 1027 tyq631 [54002, 54003, 54005, 54006, 54007, 54008, 54010, 54011, 54012, 54013, 82004, 82005, 82006, 82007, 82008, 83004, 83005, 83006, 83007, 83008, 84004, 84005, 84006, 84007, 84008, 112999, 113999] hq631 hq631 := gSs.rf xq631.1
      obtain ⟨z675, ez675, az675, bz675⟩ := gJ.int (k := 4) (G := gGG) sS674.1 t637 rfl rfl rfl
      obtain ⟨z676, ez676, az676, bz676⟩ := gJ.int (k := 5) (G := gGG) sS674.1 t637 rfl rfl rfl
      obtain ⟨z677, ez677, az677, bz677⟩ := gJ.int (k := 6) (G := gGG) sS674.1 t637 rfl rfl rfl
      obtain ⟨z678, ez678, az678, bz678⟩ := gJ.int (k := 7) (G := gGG) sS674.1 t637 rfl rfl rfl
      obtain ⟨z679, ez679, az679, bz679⟩ := gJ.int (k := 8) (G := gGG) sS674.1 t637 rfl rfl rfl
      have hpc680 : gPC tyq631 x b0 b1 b2 (hq631.2.2.2.1 cq631_1 : Int) hq631 := gPC.mk ⟨t633, t635, t636, t637⟩ ⟨t634, tcq631_0, tcq631_1⟩ ⟨s642, s643, s644, s645, ecq631_0, ecq631_1⟩ s657 s660 s661 s672 s655 s656 s658 s659 s646 s647 s648 s662 s663 s664 s665 s666 s649 s650 s651 s667 s668 s669 s670 s671 s652 s653 s654 ez675 ez676 ez677 ez678 ez679 ⟨by omega, by omega⟩ ⟨by omega, by omega⟩ ⟨by omega, by omega⟩ ⟨by omega, by omega⟩ ⟨by omega, by omega⟩ ⟨by omega, by omega⟩ ⟨by omega, by omega⟩ ⟨by omega, by omega⟩ ⟨by omega, by omega⟩ ⟨by omega, by omega⟩ ⟨by omega, by omega⟩ ⟨by omega, by omega⟩ ⟨by omega, by omega⟩ ⟨by omega, by omega⟩ ⟨by omega, by omega⟩ ⟨by omega, by omega⟩ ⟨by omega, by omega⟩ ⟨by omega, by omega⟩ ⟨by omega, by omega⟩ ⟨by omega, by omega⟩ ⟨by omega, by omega⟩ ⟨by omega, by omega⟩ ⟨by omega, by omega⟩ ⟨by omega, by omega⟩ ⟨by omega, by omega⟩ ⟨by omega, by omega⟩ ⟨by omega, by omega⟩ ⟨by omega, by omega⟩ ⟨by omega, by omega⟩ ⟨by omega, by omega⟩ ⟨by omega, by omega⟩ ⟨by omega, by omega⟩ (fun w => by unfold gPq; (repeat' apply And.intro) <;> omega) (fun w => by unfold gPq; (repeat' apply And.intro) <;> omega) (fun w => by unfold gPq; (repeat' apply And.intro) <;> omega) (fun w => by (repeat' apply And.intro) <;> omega) (fun w => by (repeat' apply And.intro) <;> omega) (fun w => by (repeat' apply And.intro) <;> omega) (fun w => by (repeat' apply And.intro) <;> omega) (by omega) (by omega) (by omega) (by omega)
      have G681 : gSg [112, 113] [] [54002, 54003, 54005, 54006, 54007, 54008, 54010, 54011, 54012, 54013, 82004, 82005, 82006, 82007, 82008, 83004, 83005, 83006, 83007, 83008, 84004, 84005, 84006, 84007, 84008, 112999, 113999] ty h tyq631 hq631 := gSg.ss G632 sS674 (by decide)
      exact gz_end (I := .return_) (len := 1) rfl (Or.inl rfl) ⟨tyq631, G681, n, (hq631.2.2.2.1 cq631_1 : Int), rfl, s657, (by omega), (by omega), (by omega), (by omega), (by omega), (by omega), (by omega), (by omega), hpc680⟩
    · refine gy_icF rfl (by decide) (by decide) (by omega) (by omega) hc459 ?_
      refine gz_s 2 (pc' := 39) (L' := [some (.ref x), some (.int (zi nw)), some (.int (zi nh)), some (.int (zi n)), some (.int (zi 2))]) (S' := [.ref x, .ref x]) rfl ?_
      refine gs_gtk rfl (by decide) rfl sh439.1 tx rfl rfl s458 ?_
      refine gz_s 1 (pc' := 43) (L' := [some (.ref x), some (.int (zi nw)), some (.int (zi nh)), some (.int (zi n)), some (.int (zi 2))]) (S' := [.ref x, .int (zi zq374), .ref x]) rfl ?_
      refine gs_gtk rfl (by decide) rfl sh439.1 tx rfl rfl s440 ?_
      refine gz_s 1 (pc' := 48) (L' := [some (.ref x), some (.int (zi nw)), some (.int (zi nh)), some (.int (zi n)), some (.int (zi 2))]) (S' := [.int (zi 2), .ref bn, .int (zi zq374), .ref x]) rfl ?_
      have he684 : (2 : Int) = 2 := by omega
      refine gs_aak (j := 2) rfl (by decide) sh439.1 tbn rfl rfl rfl (by decide) he684 (by decide) s443 ?_
      refine gs_gtk rfl (by decide) rfl sh439.1 tb2 rfl rfl s452 ?_
      refine gz_call rfl (by decide) rfl (by decide) (by decide) (gcal_of rfl rfl rfl (Nat.le_of_ble_eq_true rfl) rfl) (cl_Math_max _ sh439.1 zq374 (by omega) hb2 (by omega) ) (fun q685 _ wq685 => ?_)
      obtain ⟨pq685, oq685, hq685⟩ := q685
      obtain ⟨xq685, zq685, gq685, aq685, bq685, uq685_0, uq685_1, uq685_2⟩ := wq685
      refine ⟨_, gq685, ?_⟩
      show gz gPP gGG gcn _ _ 55 [some (.ref x), some (.int (zi nw)), some (.int (zi nh)), some (.int (zi n)), some (.int (zi 2))] [.int (zi zq685), .ref x] hq685 _
      have sq685 : gSs rT 1027 ty [54002, 54003, 54005, 54006, 54007, 54008, 54010, 54011, 54012, 54013, 82004, 82005, 82006, 82007, 82008, 83004, 83005, 83006, 83007, 83008, 84004, 84005, 84006, 84007, 84008, 112999, 113999] h hq685 := gSs.tr sh439 xq685 (by decide)
      have s686 := (xq685.2.2.2.2.2 x 0 (by rw [tx]; decide)).trans s440
      have s687 := (xq685.2.2.2.2.2 bn 0 (by rw [tbn]; decide)).trans s441
      have s688 := (xq685.2.2.2.2.2 bn 1 (by rw [tbn]; decide)).trans s442
      have s689 := (xq685.2.2.2.2.2 bn 2 (by rw [tbn]; decide)).trans s443
      have s690 := (xq685.2.2.2.2.2 x 2 (by rw [tx]; decide)).trans s444
      have s691 := (xq685.2.2.2.2.2 x 3 (by rw [tx]; decide)).trans s445
      have s692 := (xq685.2.2.2.2.2 b0 1 (by rw [tb0]; decide)).trans s446
      have s693 := (xq685.2.2.2.2.2 b0 2 (by rw [tb0]; decide)).trans s447
      have s694 := (xq685.2.2.2.2.2 b0 3 (by rw [tb0]; decide)).trans s448
      have s695 := (xq685.2.2.2.2.2 b1 1 (by rw [tb1]; decide)).trans s449
      have s696 := (xq685.2.2.2.2.2 b1 2 (by rw [tb1]; decide)).trans s450
      have s697 := (xq685.2.2.2.2.2 b1 3 (by rw [tb1]; decide)).trans s451
      have s698 := (xq685.2.2.2.2.2 b2 1 (by rw [tb2]; decide)).trans s452
      have s699 := (xq685.2.2.2.2.2 b2 2 (by rw [tb2]; decide)).trans s453
      have s700 := (xq685.2.2.2.2.2 b2 3 (by rw [tb2]; decide)).trans s454
      have s701 := (xq685.2.2.2.2.2 x 5 (by rw [tx]; decide)).trans s455
      have s702 := (xq685.2.2.2.2.2 x 6 (by rw [tx]; decide)).trans s456
      have s703 := (xq685.2.2.2.2.2 x 7 (by rw [tx]; decide)).trans s457
      have s704 := (xq685.2.2.2.2.2 x 10 (by rw [tx]; decide)).trans s458
      have s705 := (xq685.2.2.2.2.2 x 11 (by rw [tx]; decide)).trans eh439
      refine gs_put rfl (by decide) rfl sq685 tx rfl rfl rfl rfl (Or.inl rfl) (by decide) (by omega) (by omega) (fun h706 sh706 eh706 fh706 => ?_)
      have s707 := (fh706 x 0 (fun q => absurd q.2 (by decide))).trans s686
      have s708 := (fh706 bn 0 (fun q => absurd (((tbn).symm.trans (congrArg ty q.1)).trans tx) (by decide))).trans s687
      have s709 := (fh706 bn 1 (fun q => absurd (((tbn).symm.trans (congrArg ty q.1)).trans tx) (by decide))).trans s688
      have s710 := (fh706 bn 2 (fun q => absurd (((tbn).symm.trans (congrArg ty q.1)).trans tx) (by decide))).trans s689
      have s711 := (fh706 x 2 (fun q => absurd q.2 (by decide))).trans s690
      have s712 := (fh706 x 3 (fun q => absurd q.2 (by decide))).trans s691
      have s713 := (fh706 b0 1 (fun q => absurd q.2 (by decide))).trans s692
      have s714 := (fh706 b0 2 (fun q => absurd q.2 (by decide))).trans s693
      have s715 := (fh706 b0 3 (fun q => absurd q.2 (by decide))).trans s694
      have s716 := (fh706 b1 1 (fun q => absurd q.2 (by decide))).trans s695
      have s717 := (fh706 b1 2 (fun q => absurd q.2 (by decide))).trans s696
      have s718 := (fh706 b1 3 (fun q => absurd q.2 (by decide))).trans s697
      have s719 := (fh706 b2 1 (fun q => absurd q.2 (by decide))).trans s698
      have s720 := (fh706 b2 2 (fun q => absurd q.2 (by decide))).trans s699
      have s721 := (fh706 b2 3 (fun q => absurd q.2 (by decide))).trans s700
      have s722 := (fh706 x 5 (fun q => absurd q.2 (by decide))).trans s701
      have s723 := (fh706 x 6 (fun q => absurd q.2 (by decide))).trans s702
      have s724 := (fh706 x 7 (fun q => absurd q.2 (by decide))).trans s703
      have s725 := (fh706 x 11 (fun q => absurd q.2 (by decide))).trans s705
      refine gz_s 2 (pc' := 60) (L' := [some (.ref x), some (.int (zi nw)), some (.int (zi nh)), some (.int (zi n)), some (.int (zi 2))]) (S' := [.ref x, .ref x]) rfl ?_
      refine gs_gtk rfl (by decide) rfl sh706.1 tx rfl rfl s725 ?_
      refine gz_s 1 (pc' := 64) (L' := [some (.ref x), some (.int (zi nw)), some (.int (zi nh)), some (.int (zi n)), some (.int (zi 2))]) (S' := [.ref x, .int (zi zq418), .ref x]) rfl ?_
      refine gs_gtk rfl (by decide) rfl sh706.1 tx rfl rfl s707 ?_
      refine gz_s 1 (pc' := 69) (L' := [some (.ref x), some (.int (zi nw)), some (.int (zi nh)), some (.int (zi n)), some (.int (zi 2))]) (S' := [.int (zi 2), .ref bn, .int (zi zq418), .ref x]) rfl ?_
      have he728 : (2 : Int) = 2 := by omega
      refine gs_aak (j := 2) rfl (by decide) sh706.1 tbn rfl rfl rfl (by decide) he728 (by decide) s710 ?_
      refine gs_gtk rfl (by decide) rfl sh706.1 tb2 rfl rfl s720 ?_
      refine gz_call rfl (by decide) rfl (by decide) (by decide) (gcal_of rfl rfl rfl (Nat.le_of_ble_eq_true rfl) rfl) (cl_Math_max _ sh706.1 zq418 (by omega) vb2 (by omega) ) (fun q729 _ wq729 => ?_)
      obtain ⟨pq729, oq729, hq729⟩ := q729
      obtain ⟨xq729, zq729, gq729, aq729, bq729, uq729_0, uq729_1, uq729_2⟩ := wq729
      refine ⟨_, gq729, ?_⟩
      show gz gPP gGG gcn _ _ 76 [some (.ref x), some (.int (zi nw)), some (.int (zi nh)), some (.int (zi n)), some (.int (zi 2))] [.int (zi zq729), .ref x] hq729 _
      have sq729 : gSs rT 1027 ty [54002, 54003, 54005, 54006, 54007, 54008, 54010, 54011, 54012, 54013, 82004, 82005, 82006, 82007, 82008, 83004, 83005, 83006, 83007, 83008, 84004, 84005, 84006, 84007, 84008, 112999, 113999] h hq729 := gSs.tr sh706 xq729 (by decide)
      have s730 := (xq729.2.2.2.2.2 x 0 (by rw [tx]; decide)).trans s707
      have s731 := (xq729.2.2.2.2.2 bn 0 (by rw [tbn]; decide)).trans s708
      have s732 := (xq729.2.2.2.2.2 bn 1 (by rw [tbn]; decide)).trans s709
      have s733 := (xq729.2.2.2.2.2 bn 2 (by rw [tbn]; decide)).trans s710
      have s734 := (xq729.2.2.2.2.2 x 2 (by rw [tx]; decide)).trans s711
      have s735 := (xq729.2.2.2.2.2 x 3 (by rw [tx]; decide)).trans s712
      have s736 := (xq729.2.2.2.2.2 b0 1 (by rw [tb0]; decide)).trans s713
      have s737 := (xq729.2.2.2.2.2 b0 2 (by rw [tb0]; decide)).trans s714
      have s738 := (xq729.2.2.2.2.2 b0 3 (by rw [tb0]; decide)).trans s715
      have s739 := (xq729.2.2.2.2.2 b1 1 (by rw [tb1]; decide)).trans s716
      have s740 := (xq729.2.2.2.2.2 b1 2 (by rw [tb1]; decide)).trans s717
      have s741 := (xq729.2.2.2.2.2 b1 3 (by rw [tb1]; decide)).trans s718
      have s742 := (xq729.2.2.2.2.2 b2 1 (by rw [tb2]; decide)).trans s719
      have s743 := (xq729.2.2.2.2.2 b2 2 (by rw [tb2]; decide)).trans s720
      have s744 := (xq729.2.2.2.2.2 b2 3 (by rw [tb2]; decide)).trans s721
      have s745 := (xq729.2.2.2.2.2 x 5 (by rw [tx]; decide)).trans s722
      have s746 := (xq729.2.2.2.2.2 x 6 (by rw [tx]; decide)).trans s723
      have s747 := (xq729.2.2.2.2.2 x 7 (by rw [tx]; decide)).trans s724
      have s748 := (xq729.2.2.2.2.2 x 11 (by rw [tx]; decide)).trans s725
      have s749 := (xq729.2.2.2.2.2 x 10 (by rw [tx]; decide)).trans eh706
      refine gs_put rfl (by decide) rfl sq729 tx rfl rfl rfl rfl (Or.inl rfl) (by decide) (by omega) (by omega) (fun h750 sh750 eh750 fh750 => ?_)
      have s751 := (fh750 x 0 (fun q => absurd q.2 (by decide))).trans s730
      have s752 := (fh750 bn 0 (fun q => absurd (((tbn).symm.trans (congrArg ty q.1)).trans tx) (by decide))).trans s731
      have s753 := (fh750 bn 1 (fun q => absurd (((tbn).symm.trans (congrArg ty q.1)).trans tx) (by decide))).trans s732
      have s754 := (fh750 bn 2 (fun q => absurd (((tbn).symm.trans (congrArg ty q.1)).trans tx) (by decide))).trans s733
      have s755 := (fh750 x 2 (fun q => absurd q.2 (by decide))).trans s734
      have s756 := (fh750 x 3 (fun q => absurd q.2 (by decide))).trans s735
      have s757 := (fh750 b0 1 (fun q => absurd q.2 (by decide))).trans s736
      have s758 := (fh750 b0 2 (fun q => absurd q.2 (by decide))).trans s737
      have s759 := (fh750 b0 3 (fun q => absurd q.2 (by decide))).trans s738
      have s760 := (fh750 b1 1 (fun q => absurd q.2 (by decide))).trans s739
      have s761 := (fh750 b1 2 (fun q => absurd q.2 (by decide))).trans s740
      have s762 := (fh750 b1 3 (fun q => absurd q.2 (by decide))).trans s741
      have s763 := (fh750 b2 1 (fun q => absurd q.2 (by decide))).trans s742
      have s764 := (fh750 b2 2 (fun q => absurd q.2 (by decide))).trans s743
      have s765 := (fh750 b2 3 (fun q => absurd q.2 (by decide))).trans s744
      have s766 := (fh750 x 5 (fun q => absurd q.2 (by decide))).trans s745
      have s767 := (fh750 x 6 (fun q => absurd q.2 (by decide))).trans s746
      have s768 := (fh750 x 7 (fun q => absurd q.2 (by decide))).trans s747
      have s769 := (fh750 x 10 (fun q => absurd q.2 (by decide))).trans s749
      refine gy_s 4 (pc' := 31) (L' := [some (.ref x), some (.int (zi nw)), some (.int (zi nh)), some (.int (zi n)), some (.int ((zi 2) + zi 1))]) (S' := [.ref x, .int ((zi 2) + zi 1)]) (L2 := [some (.ref x), some (.int (zi nw)), some (.int (zi nh)), some (.int (zi n)), some (.int (zi 3))]) (S2 := [.ref x, .int (zi 3)]) rfl (by simp only [zi_add, zi_sub, zi_mul, zi_neg, zi_and1, zi_and7, zi_and15, zi_and31, zi_and255, Int.reduceAdd, Int.reduceMul, Int.reduceSub]) (by simp only [zi_add, zi_sub, zi_mul, zi_neg, zi_and1, zi_and7, zi_and15, zi_and31, zi_and255, Int.reduceAdd, Int.reduceMul, Int.reduceSub]) ?_
      refine gs_gtk rfl (by decide) rfl sh750.1 tx rfl rfl s768 ?_
      refine gy_icT (pc' := 85) rfl (by decide) (by decide) (by omega) (by omega) (by first | (simp [zc]; done) | (simp only [zc]; omega)) ?_
      have hz1 := zup8 (w := nw) (wd := zq685) (by omega) (by omega)
      refine gz_s 2 (pc' := 87) (L' := [some (.ref x), some (.int (zi nw)), some (.int (zi nh)), some (.int (zi n)), some (.int (zi 3))]) (S' := [.ref x, .ref x]) rfl ?_
      refine gs_gtk rfl (by decide) rfl sh750.1 tx rfl rfl s766 ?_
      refine gz_s 2 (pc' := 93) (L' := [some (.ref x), some (.int (zi nw)), some (.int (zi nh)), some (.int (zi n)), some (.int (zi 3))]) (S' := [.ref x, .int (zi 8), .int (zi nw), .ref x]) rfl ?_
      refine gs_gtk rfl (by decide) rfl sh750.1 tx rfl rfl s769 ?_
      refine gy_s 1 (pc' := 97) (L' := [some (.ref x), some (.int (zi nw)), some (.int (zi nh)), some (.int (zi n)), some (.int (zi 3))]) (S' := [.int ((zi 8) * (zi zq685)), .int (zi nw), .ref x]) (L2 := [some (.ref x), some (.int (zi nw)), some (.int (zi nh)), some (.int (zi n)), some (.int (zi 3))]) (S2 := [.int (zi (8 * zq685)), .int (zi nw), .ref x]) rfl (by simp only [zi_add, zi_sub, zi_mul, zi_neg, zi_and1, zi_and7, zi_and15, zi_and31, zi_and255, Int.reduceAdd, Int.reduceMul, Int.reduceSub]) (by simp only [zi_add, zi_sub, zi_mul, zi_neg, zi_and1, zi_and7, zi_and15, zi_and31, zi_and255, Int.reduceAdd, Int.reduceMul, Int.reduceSub]) ?_
      refine gz_call rfl (by decide) rfl (by decide) (by decide) (gcal_of rfl rfl rfl (Nat.le_of_ble_eq_true rfl) rfl) (cl_DctFilter_upward _ sh750.1 nw (by omega) (8 * zq685) (by omega) ) (fun q770 _ wq770 => ?_)
      obtain ⟨pq770, oq770, hq770⟩ := q770
      obtain ⟨xq770, zq770, gq770, aq770, bq770, uq770_0⟩ := wq770
      refine ⟨_, gq770, ?_⟩
      show gz gPP gGG gcn _ _ 100 [some (.ref x), some (.int (zi nw)), some (.int (zi nh)), some (.int (zi n)), some (.int (zi 3))] [.int (zi zq770), .ref x] hq770 _
      have sq770 : gSs rT 1027 ty [54002, 54003, 54005, 54006, 54007, 54008, 54010, 54011, 54012, 54013, 82004, 82005, 82006, 82007, 82008, 83004, 83005, 83006, 83007, 83008, 84004, 84005, 84006, 84007, 84008, 112999, 113999] h hq770 := gSs.tr sh750 xq770 (by decide)
      have s771 := (xq770.2.2.2.2.2 x 0 (by rw [tx]; decide)).trans s751
      have s772 := (xq770.2.2.2.2.2 bn 0 (by rw [tbn]; decide)).trans s752
      have s773 := (xq770.2.2.2.2.2 bn 1 (by rw [tbn]; decide)).trans s753
      have s774 := (xq770.2.2.2.2.2 bn 2 (by rw [tbn]; decide)).trans s754
      have s775 := (xq770.2.2.2.2.2 x 2 (by rw [tx]; decide)).trans s755
      have s776 := (xq770.2.2.2.2.2 x 3 (by rw [tx]; decide)).trans s756
      have s777 := (xq770.2.2.2.2.2 b0 1 (by rw [tb0]; decide)).trans s757
      have s778 := (xq770.2.2.2.2.2 b0 2 (by rw [tb0]; decide)).trans s758
      have s779 := (xq770.2.2.2.2.2 b0 3 (by rw [tb0]; decide)).trans s759
      have s780 := (xq770.2.2.2.2.2 b1 1 (by rw [tb1]; decide)).trans s760
      have s781 := (xq770.2.2.2.2.2 b1 2 (by rw [tb1]; decide)).trans s761
      have s782 := (xq770.2.2.2.2.2 b1 3 (by rw [tb1]; decide)).trans s762
      have s783 := (xq770.2.2.2.2.2 b2 1 (by rw [tb2]; decide)).trans s763
      have s784 := (xq770.2.2.2.2.2 b2 2 (by rw [tb2]; decide)).trans s764
      have s785 := (xq770.2.2.2.2.2 b2 3 (by rw [tb2]; decide)).trans s765
      have s786 := (xq770.2.2.2.2.2 x 5 (by rw [tx]; decide)).trans s766
      have s787 := (xq770.2.2.2.2.2 x 6 (by rw [tx]; decide)).trans s767
      have s788 := (xq770.2.2.2.2.2 x 7 (by rw [tx]; decide)).trans s768
      have s789 := (xq770.2.2.2.2.2 x 10 (by rw [tx]; decide)).trans s769
      have s790 := (xq770.2.2.2.2.2 x 11 (by rw [tx]; decide)).trans eh750
      refine gs_put rfl (by decide) rfl sq770 tx rfl rfl rfl rfl (Or.inl rfl) (by decide) (by omega) (by omega) (fun h791 sh791 eh791 fh791 => ?_)
      have s792 := (fh791 x 0 (fun q => absurd q.2 (by decide))).trans s771
      have s793 := (fh791 bn 0 (fun q => absurd (((tbn).symm.trans (congrArg ty q.1)).trans tx) (by decide))).trans s772
      have s794 := (fh791 bn 1 (fun q => absurd (((tbn).symm.trans (congrArg ty q.1)).trans tx) (by decide))).trans s773
      have s795 := (fh791 bn 2 (fun q => absurd (((tbn).symm.trans (congrArg ty q.1)).trans tx) (by decide))).trans s774
      have s796 := (fh791 x 2 (fun q => absurd q.2 (by decide))).trans s775
      have s797 := (fh791 x 3 (fun q => absurd q.2 (by decide))).trans s776
      have s798 := (fh791 b0 1 (fun q => absurd q.2 (by decide))).trans s777
      have s799 := (fh791 b0 2 (fun q => absurd q.2 (by decide))).trans s778
      have s800 := (fh791 b0 3 (fun q => absurd q.2 (by decide))).trans s779
      have s801 := (fh791 b1 1 (fun q => absurd q.2 (by decide))).trans s780
      have s802 := (fh791 b1 2 (fun q => absurd q.2 (by decide))).trans s781
      have s803 := (fh791 b1 3 (fun q => absurd q.2 (by decide))).trans s782
      have s804 := (fh791 b2 1 (fun q => absurd q.2 (by decide))).trans s783
      have s805 := (fh791 b2 2 (fun q => absurd q.2 (by decide))).trans s784
      have s806 := (fh791 b2 3 (fun q => absurd q.2 (by decide))).trans s785
      have s807 := (fh791 x 5 (fun q => absurd q.2 (by decide))).trans s786
      have s808 := (fh791 x 6 (fun q => absurd q.2 (by decide))).trans s787
      have s809 := (fh791 x 7 (fun q => absurd q.2 (by decide))).trans s788
      have s810 := (fh791 x 10 (fun q => absurd q.2 (by decide))).trans s789
      have s811 := (fh791 x 11 (fun q => absurd q.2 (by decide))).trans s790
      have hz2 := zup8 (w := nh) (wd := zq729) (by omega) (by omega)
      refine gz_s 2 (pc' := 105) (L' := [some (.ref x), some (.int (zi nw)), some (.int (zi nh)), some (.int (zi n)), some (.int (zi 3))]) (S' := [.ref x, .ref x]) rfl ?_
      refine gs_gtk rfl (by decide) rfl sh791.1 tx rfl rfl s808 ?_
      refine gz_s 2 (pc' := 111) (L' := [some (.ref x), some (.int (zi nw)), some (.int (zi nh)), some (.int (zi n)), some (.int (zi 3))]) (S' := [.ref x, .int (zi 8), .int (zi nh), .ref x]) rfl ?_
      refine gs_gtk rfl (by decide) rfl sh791.1 tx rfl rfl s811 ?_
      refine gy_s 1 (pc' := 115) (L' := [some (.ref x), some (.int (zi nw)), some (.int (zi nh)), some (.int (zi n)), some (.int (zi 3))]) (S' := [.int ((zi 8) * (zi zq729)), .int (zi nh), .ref x]) (L2 := [some (.ref x), some (.int (zi nw)), some (.int (zi nh)), some (.int (zi n)), some (.int (zi 3))]) (S2 := [.int (zi (8 * zq729)), .int (zi nh), .ref x]) rfl (by simp only [zi_add, zi_sub, zi_mul, zi_neg, zi_and1, zi_and7, zi_and15, zi_and31, zi_and255, Int.reduceAdd, Int.reduceMul, Int.reduceSub]) (by simp only [zi_add, zi_sub, zi_mul, zi_neg, zi_and1, zi_and7, zi_and15, zi_and31, zi_and255, Int.reduceAdd, Int.reduceMul, Int.reduceSub]) ?_
      refine gz_call rfl (by decide) rfl (by decide) (by decide) (gcal_of rfl rfl rfl (Nat.le_of_ble_eq_true rfl) rfl) (cl_DctFilter_upward _ sh791.1 nh (by omega) (8 * zq729) (by omega) ) (fun q812 _ wq812 => ?_)
      obtain ⟨pq812, oq812, hq812⟩ := q812
      obtain ⟨xq812, zq812, gq812, aq812, bq812, uq812_0⟩ := wq812
      refine ⟨_, gq812, ?_⟩
      show gz gPP gGG gcn _ _ 118 [some (.ref x), some (.int (zi nw)), some (.int (zi nh)), some (.int (zi n)), some (.int (zi 3))] [.int (zi zq812), .ref x] hq812 _
      have sq812 : gSs rT 1027 ty [54002, 54003, 54005, 54006, 54007, 54008, 54010, 54011, 54012, 54013, 82004, 82005, 82006, 82007, 82008, 83004, 83005, 83006, 83007, 83008, 84004, 84005, 84006, 84007, 84008, 112999, 113999] h hq812 := gSs.tr sh791 xq812 (by decide)
      have s813 := (xq812.2.2.2.2.2 x 0 (by rw [tx]; decide)).trans s792
      have s814 := (xq812.2.2.2.2.2 bn 0 (by rw [tbn]; decide)).trans s793
      have s815 := (xq812.2.2.2.2.2 bn 1 (by rw [tbn]; decide)).trans s794
      have s816 := (xq812.2.2.2.2.2 bn 2 (by rw [tbn]; decide)).trans s795
      have s817 := (xq812.2.2.2.2.2 x 2 (by rw [tx]; decide)).trans s796
      have s818 := (xq812.2.2.2.2.2 x 3 (by rw [tx]; decide)).trans s797
      have s819 := (xq812.2.2.2.2.2 b0 1 (by rw [tb0]; decide)).trans s798
      have s820 := (xq812.2.2.2.2.2 b0 2 (by rw [tb0]; decide)).trans s799
      have s821 := (xq812.2.2.2.2.2 b0 3 (by rw [tb0]; decide)).trans s800
      have s822 := (xq812.2.2.2.2.2 b1 1 (by rw [tb1]; decide)).trans s801
      have s823 := (xq812.2.2.2.2.2 b1 2 (by rw [tb1]; decide)).trans s802
      have s824 := (xq812.2.2.2.2.2 b1 3 (by rw [tb1]; decide)).trans s803
      have s825 := (xq812.2.2.2.2.2 b2 1 (by rw [tb2]; decide)).trans s804
      have s826 := (xq812.2.2.2.2.2 b2 2 (by rw [tb2]; decide)).trans s805
      have s827 := (xq812.2.2.2.2.2 b2 3 (by rw [tb2]; decide)).trans s806
      have s828 := (xq812.2.2.2.2.2 x 5 (by rw [tx]; decide)).trans s807
      have s829 := (xq812.2.2.2.2.2 x 6 (by rw [tx]; decide)).trans s808
      have s830 := (xq812.2.2.2.2.2 x 7 (by rw [tx]; decide)).trans s809
      have s831 := (xq812.2.2.2.2.2 x 10 (by rw [tx]; decide)).trans s810
      have s832 := (xq812.2.2.2.2.2 x 11 (by rw [tx]; decide)).trans s811
      have s833 := (xq812.2.2.2.2.2 x 12 (by rw [tx]; decide)).trans eh791
      refine gs_put rfl (by decide) rfl sq812 tx rfl rfl rfl rfl (Or.inl rfl) (by decide) (by omega) (by omega) (fun h834 sh834 eh834 fh834 => ?_)
      have s835 := (fh834 x 0 (fun q => absurd q.2 (by decide))).trans s813
      have s836 := (fh834 bn 0 (fun q => absurd (((tbn).symm.trans (congrArg ty q.1)).trans tx) (by decide))).trans s814
      have s837 := (fh834 bn 1 (fun q => absurd (((tbn).symm.trans (congrArg ty q.1)).trans tx) (by decide))).trans s815
      have s838 := (fh834 bn 2 (fun q => absurd (((tbn).symm.trans (congrArg ty q.1)).trans tx) (by decide))).trans s816
      have s839 := (fh834 x 2 (fun q => absurd q.2 (by decide))).trans s817
      have s840 := (fh834 x 3 (fun q => absurd q.2 (by decide))).trans s818
      have s841 := (fh834 b0 1 (fun q => absurd q.2 (by decide))).trans s819
      have s842 := (fh834 b0 2 (fun q => absurd q.2 (by decide))).trans s820
      have s843 := (fh834 b0 3 (fun q => absurd q.2 (by decide))).trans s821
      have s844 := (fh834 b1 1 (fun q => absurd q.2 (by decide))).trans s822
      have s845 := (fh834 b1 2 (fun q => absurd q.2 (by decide))).trans s823
      have s846 := (fh834 b1 3 (fun q => absurd q.2 (by decide))).trans s824
      have s847 := (fh834 b2 1 (fun q => absurd q.2 (by decide))).trans s825
      have s848 := (fh834 b2 2 (fun q => absurd q.2 (by decide))).trans s826
      have s849 := (fh834 b2 3 (fun q => absurd q.2 (by decide))).trans s827
      have s850 := (fh834 x 5 (fun q => absurd q.2 (by decide))).trans s828
      have s851 := (fh834 x 6 (fun q => absurd q.2 (by decide))).trans s829
      have s852 := (fh834 x 7 (fun q => absurd q.2 (by decide))).trans s830
      have s853 := (fh834 x 10 (fun q => absurd q.2 (by decide))).trans s831
      have s854 := (fh834 x 11 (fun q => absurd q.2 (by decide))).trans s832
      have s855 := (fh834 x 12 (fun q => absurd q.2 (by decide))).trans s833
      refine gz_s 2 (pc' := 123) (L' := [some (.ref x), some (.int (zi nw)), some (.int (zi nh)), some (.int (zi n)), some (.int (zi 3))]) (S' := [.int (zi 0), .ref x]) rfl ?_
      refine gs_put rfl (by decide) rfl sh834 tx rfl rfl rfl rfl (Or.inl rfl) (by decide) (by omega) (by omega) (fun h856 sh856 eh856 fh856 => ?_)
      have s857 := (fh856 x 0 (fun q => absurd q.2 (by decide))).trans s835
      have s858 := (fh856 bn 0 (fun q => absurd (((tbn).symm.trans (congrArg ty q.1)).trans tx) (by decide))).trans s836
      have s859 := (fh856 bn 1 (fun q => absurd (((tbn).symm.trans (congrArg ty q.1)).trans tx) (by decide))).trans s837
      have s860 := (fh856 bn 2 (fun q => absurd (((tbn).symm.trans (congrArg ty q.1)).trans tx) (by decide))).trans s838
      have s861 := (fh856 x 2 (fun q => absurd q.2 (by decide))).trans s839
      have s862 := (fh856 x 3 (fun q => absurd q.2 (by decide))).trans s840
      have s863 := (fh856 b0 1 (fun q => absurd q.2 (by decide))).trans s841
      have s864 := (fh856 b0 2 (fun q => absurd q.2 (by decide))).trans s842
      have s865 := (fh856 b0 3 (fun q => absurd q.2 (by decide))).trans s843
      have s866 := (fh856 b1 1 (fun q => absurd q.2 (by decide))).trans s844
      have s867 := (fh856 b1 2 (fun q => absurd q.2 (by decide))).trans s845
      have s868 := (fh856 b1 3 (fun q => absurd q.2 (by decide))).trans s846
      have s869 := (fh856 b2 1 (fun q => absurd q.2 (by decide))).trans s847
      have s870 := (fh856 b2 2 (fun q => absurd q.2 (by decide))).trans s848
      have s871 := (fh856 b2 3 (fun q => absurd q.2 (by decide))).trans s849
      have s872 := (fh856 x 5 (fun q => absurd q.2 (by decide))).trans s850
      have s873 := (fh856 x 6 (fun q => absurd q.2 (by decide))).trans s851
      have s874 := (fh856 x 7 (fun q => absurd q.2 (by decide))).trans s852
      have s875 := (fh856 x 10 (fun q => absurd q.2 (by decide))).trans s853
      have s876 := (fh856 x 11 (fun q => absurd q.2 (by decide))).trans s854
      have s877 := (fh856 x 12 (fun q => absurd q.2 (by decide))).trans s855
      have s878 := (fh856 x 13 (fun q => absurd q.2 (by decide))).trans eh834
      refine gz_s 4 (pc' := 132) (L' := [some (.ref x), some (.int (zi nw)), some (.int (zi nh)), some (.int (zi n)), some (.int (zi 0))]) (S' := [.ref x, .int (zi 0)]) rfl ?_
      refine gs_gtk rfl (by decide) rfl sh856.1 tx rfl rfl s874 ?_
      refine gy_icF rfl (by decide) (by decide) (by omega) (by omega) (by first | (simp [zc]; done) | (simp only [zc]; omega)) ?_
      refine gz_s 2 (pc' := 140) (L' := [some (.ref x), some (.int (zi nw)), some (.int (zi nh)), some (.int (zi n)), some (.int (zi 0))]) (S' := [.ref x, .ref x]) rfl ?_
      refine gs_gtk rfl (by decide) rfl sh856.1 tx rfl rfl s857 ?_
      refine gz_s 1 (pc' := 145) (L' := [some (.ref x), some (.int (zi nw)), some (.int (zi nh)), some (.int (zi n)), some (.int (zi 0))]) (S' := [.int (zi 0), .ref bn, .ref x]) rfl ?_
      have he881 : (0 : Int) = 0 := by omega
      refine gs_aak (j := 0) rfl (by decide) sh856.1 tbn rfl rfl rfl (by decide) he881 (by decide) s858 ?_
      refine gz_call rfl (by decide) rfl (by decide) (by decide) (gcal_of rfl rfl rfl (Nat.le_of_ble_eq_true rfl) (gJ.recv (G := gGG) sh856.1 tx rfl rfl)) (cl_placeBand0 _ sh856.1 x tx b0 tb0 zq770 s877 (by omega) zq812 s878 (by omega) 0 eh856 (by omega) nw s872 (by omega) nh s873 (by omega) zq685 s875 (by omega) zq729 s876 (by omega) hb0 s863 (by omega) vb0 s864 (by omega) (by omega) (by omega) (by omega) (by omega) uq) (fun q882 _ wq882 => ?_)
      obtain ⟨pq882, oq882, hq882⟩ := q882
      obtain ⟨xq882, fq882_0, fq882_1, fq882_2, fq882_3, fq882_4, fq882_5, gq882, efq882_0, afq882_0, bfq882_0, efq882_1, afq882_1, bfq882_1, efq882_2, afq882_2, bfq882_2, efq882_3, afq882_3, bfq882_3, efq882_4, afq882_4, bfq882_4, efq882_5, afq882_5, bfq882_5, uq882_0, uq882_1, uq882_2, uq882_3, uq882_4, uq882_5, uq882_6, uq882_7, uq882_8, uq882_9, uq882_10, uq882_11⟩ := wq882
      refine ⟨_, gq882, ?_⟩
      show gz gPP gGG gcn _ _ 149 [some (.ref x), some (.int (zi nw)), some (.int (zi nh)), some (.int (zi n)), some (.int (zi 0))] [] hq882 _
      have sq882 : gSs rT 1027 ty [54002, 54003, 54005, 54006, 54007, 54008, 54010, 54011, 54012, 54013, 82004, 82005, 82006, 82007, 82008, 83004, 83005, 83006, 83007, 83008, 84004, 84005, 84006, 84007, 84008, 112999, 113999] h hq882 := gSs.tr sh856 xq882 (by decide)
      have s883 := (xq882.2.2.2.2.2 x 0 (by rw [tx]; decide)).trans s857
      have s884 := (xq882.2.2.2.2.2 bn 0 (by rw [tbn]; decide)).trans s858
      have s885 := (xq882.2.2.2.2.2 bn 1 (by rw [tbn]; decide)).trans s859
      have s886 := (xq882.2.2.2.2.2 bn 2 (by rw [tbn]; decide)).trans s860
      have s887 := (xq882.2.2.2.2.2 x 2 (by rw [tx]; decide)).trans s861
      have s888 := (xq882.2.2.2.2.2 x 3 (by rw [tx]; decide)).trans s862
      have s889 := (xq882.2.2.2.2.2 b0 1 (by rw [tb0]; decide)).trans s863
      have s890 := (xq882.2.2.2.2.2 b0 2 (by rw [tb0]; decide)).trans s864
      have s891 := (xq882.2.2.2.2.2 b0 3 (by rw [tb0]; decide)).trans s865
      have s892 := (xq882.2.2.2.2.2 b1 1 (by rw [tb1]; decide)).trans s866
      have s893 := (xq882.2.2.2.2.2 b1 2 (by rw [tb1]; decide)).trans s867
      have s894 := (xq882.2.2.2.2.2 b1 3 (by rw [tb1]; decide)).trans s868
      have s895 := (xq882.2.2.2.2.2 b2 1 (by rw [tb2]; decide)).trans s869
      have s896 := (xq882.2.2.2.2.2 b2 2 (by rw [tb2]; decide)).trans s870
      have s897 := (xq882.2.2.2.2.2 b2 3 (by rw [tb2]; decide)).trans s871
      have s898 := (xq882.2.2.2.2.2 x 5 (by rw [tx]; decide)).trans s872
      have s899 := (xq882.2.2.2.2.2 x 6 (by rw [tx]; decide)).trans s873
      have s900 := (xq882.2.2.2.2.2 x 7 (by rw [tx]; decide)).trans s874
      have s901 := (xq882.2.2.2.2.2 x 10 (by rw [tx]; decide)).trans s875
      have s902 := (xq882.2.2.2.2.2 x 11 (by rw [tx]; decide)).trans s876
      have s903 := (xq882.2.2.2.2.2 x 12 (by rw [tx]; decide)).trans s877
      have s904 := (xq882.2.2.2.2.2 x 13 (by rw [tx]; decide)).trans s878
      refine gy_s 4 (pc' := 132) (L' := [some (.ref x), some (.int (zi nw)), some (.int (zi nh)), some (.int (zi n)), some (.int ((zi 0) + zi 1))]) (S' := [.ref x, .int ((zi 0) + zi 1)]) (L2 := [some (.ref x), some (.int (zi nw)), some (.int (zi nh)), some (.int (zi n)), some (.int (zi 1))]) (S2 := [.ref x, .int (zi 1)]) rfl (by simp only [zi_add, zi_sub, zi_mul, zi_neg, zi_and1, zi_and7, zi_and15, zi_and31, zi_and255, Int.reduceAdd, Int.reduceMul, Int.reduceSub]) (by simp only [zi_add, zi_sub, zi_mul, zi_neg, zi_and1, zi_and7, zi_and15, zi_and31, zi_and255, Int.reduceAdd, Int.reduceMul, Int.reduceSub]) ?_
      refine gs_gtk rfl (by decide) rfl sq882.1 tx rfl rfl s900 ?_
      refine gy_icF rfl (by decide) (by decide) (by omega) (by omega) (by first | (simp [zc]; done) | (simp only [zc]; omega)) ?_
      refine gz_s 2 (pc' := 140) (L' := [some (.ref x), some (.int (zi nw)), some (.int (zi nh)), some (.int (zi n)), some (.int (zi 1))]) (S' := [.ref x, .ref x]) rfl ?_
      refine gs_gtk rfl (by decide) rfl sq882.1 tx rfl rfl s883 ?_
      refine gz_s 1 (pc' := 145) (L' := [some (.ref x), some (.int (zi nw)), some (.int (zi nh)), some (.int (zi n)), some (.int (zi 1))]) (S' := [.int (zi 1), .ref bn, .ref x]) rfl ?_
      have he907 : (1 : Int) = 1 := by omega
      refine gs_aak (j := 1) rfl (by decide) sq882.1 tbn rfl rfl rfl (by decide) he907 (by decide) s885 ?_
      refine gz_call rfl (by decide) rfl (by decide) (by decide) (gcal_of rfl rfl rfl (Nat.le_of_ble_eq_true rfl) (gJ.recv (G := gGG) sq882.1 tx rfl rfl)) (cl_placeBand1 _ sq882.1 x tx b1 tb1 zq770 s903 (by omega) zq812 s904 (by omega) fq882_5 efq882_5 (by omega) nw s898 (by omega) nh s899 (by omega) zq685 s901 (by omega) zq729 s902 (by omega) hb1 s892 (by omega) vb1 s893 (by omega) (by omega) (by omega) (by omega) (by omega) uq) (fun q908 _ wq908 => ?_)
      obtain ⟨pq908, oq908, hq908⟩ := q908
      obtain ⟨xq908, fq908_0, fq908_1, fq908_2, fq908_3, fq908_4, fq908_5, gq908, efq908_0, afq908_0, bfq908_0, efq908_1, afq908_1, bfq908_1, efq908_2, afq908_2, bfq908_2, efq908_3, afq908_3, bfq908_3, efq908_4, afq908_4, bfq908_4, efq908_5, afq908_5, bfq908_5, uq908_0, uq908_1, uq908_2, uq908_3, uq908_4, uq908_5, uq908_6, uq908_7, uq908_8, uq908_9, uq908_10, uq908_11⟩ := wq908
      refine ⟨_, gq908, ?_⟩
      show gz gPP gGG gcn _ _ 149 [some (.ref x), some (.int (zi nw)), some (.int (zi nh)), some (.int (zi n)), some (.int (zi 1))] [] hq908 _
      have sq908 : gSs rT 1027 ty [54002, 54003, 54005, 54006, 54007, 54008, 54010, 54011, 54012, 54013, 82004, 82005, 82006, 82007, 82008, 83004, 83005, 83006, 83007, 83008, 84004, 84005, 84006, 84007, 84008, 112999, 113999] h hq908 := gSs.tr sq882 xq908 (by decide)
      have s909 := (xq908.2.2.2.2.2 x 0 (by rw [tx]; decide)).trans s883
      have s910 := (xq908.2.2.2.2.2 bn 0 (by rw [tbn]; decide)).trans s884
      have s911 := (xq908.2.2.2.2.2 bn 1 (by rw [tbn]; decide)).trans s885
      have s912 := (xq908.2.2.2.2.2 bn 2 (by rw [tbn]; decide)).trans s886
      have s913 := (xq908.2.2.2.2.2 x 2 (by rw [tx]; decide)).trans s887
      have s914 := (xq908.2.2.2.2.2 x 3 (by rw [tx]; decide)).trans s888
      have s915 := (xq908.2.2.2.2.2 b0 1 (by rw [tb0]; decide)).trans s889
      have s916 := (xq908.2.2.2.2.2 b0 2 (by rw [tb0]; decide)).trans s890
      have s917 := (xq908.2.2.2.2.2 b0 3 (by rw [tb0]; decide)).trans s891
      have s918 := (xq908.2.2.2.2.2 b1 1 (by rw [tb1]; decide)).trans s892
      have s919 := (xq908.2.2.2.2.2 b1 2 (by rw [tb1]; decide)).trans s893
      have s920 := (xq908.2.2.2.2.2 b1 3 (by rw [tb1]; decide)).trans s894
      have s921 := (xq908.2.2.2.2.2 b2 1 (by rw [tb2]; decide)).trans s895
      have s922 := (xq908.2.2.2.2.2 b2 2 (by rw [tb2]; decide)).trans s896
      have s923 := (xq908.2.2.2.2.2 b2 3 (by rw [tb2]; decide)).trans s897
      have s924 := (xq908.2.2.2.2.2 x 5 (by rw [tx]; decide)).trans s898
      have s925 := (xq908.2.2.2.2.2 x 6 (by rw [tx]; decide)).trans s899
      have s926 := (xq908.2.2.2.2.2 x 7 (by rw [tx]; decide)).trans s900
      have s927 := (xq908.2.2.2.2.2 x 10 (by rw [tx]; decide)).trans s901
      have s928 := (xq908.2.2.2.2.2 x 11 (by rw [tx]; decide)).trans s902
      have s929 := (xq908.2.2.2.2.2 x 12 (by rw [tx]; decide)).trans s903
      have s930 := (xq908.2.2.2.2.2 x 13 (by rw [tx]; decide)).trans s904
      have s931 := (xq908.2.2.2.2.2 b0 4 (by rw [tb0]; decide)).trans efq882_0
      have s932 := (xq908.2.2.2.2.2 b0 5 (by rw [tb0]; decide)).trans efq882_1
      have s933 := (xq908.2.2.2.2.2 b0 6 (by rw [tb0]; decide)).trans efq882_2
      have s934 := (xq908.2.2.2.2.2 b0 7 (by rw [tb0]; decide)).trans efq882_3
      have s935 := (xq908.2.2.2.2.2 b0 8 (by rw [tb0]; decide)).trans efq882_4
      refine gy_s 4 (pc' := 132) (L' := [some (.ref x), some (.int (zi nw)), some (.int (zi nh)), some (.int (zi n)), some (.int ((zi 1) + zi 1))]) (S' := [.ref x, .int ((zi 1) + zi 1)]) (L2 := [some (.ref x), some (.int (zi nw)), some (.int (zi nh)), some (.int (zi n)), some (.int (zi 2))]) (S2 := [.ref x, .int (zi 2)]) rfl (by simp only [zi_add, zi_sub, zi_mul, zi_neg, zi_and1, zi_and7, zi_and15, zi_and31, zi_and255, Int.reduceAdd, Int.reduceMul, Int.reduceSub]) (by simp only [zi_add, zi_sub, zi_mul, zi_neg, zi_and1, zi_and7, zi_and15, zi_and31, zi_and255, Int.reduceAdd, Int.reduceMul, Int.reduceSub]) ?_
      refine gs_gtk rfl (by decide) rfl sq908.1 tx rfl rfl s926 ?_
      refine gy_icF rfl (by decide) (by decide) (by omega) (by omega) (by first | (simp [zc]; done) | (simp only [zc]; omega)) ?_
      refine gz_s 2 (pc' := 140) (L' := [some (.ref x), some (.int (zi nw)), some (.int (zi nh)), some (.int (zi n)), some (.int (zi 2))]) (S' := [.ref x, .ref x]) rfl ?_
      refine gs_gtk rfl (by decide) rfl sq908.1 tx rfl rfl s909 ?_
      refine gz_s 1 (pc' := 145) (L' := [some (.ref x), some (.int (zi nw)), some (.int (zi nh)), some (.int (zi n)), some (.int (zi 2))]) (S' := [.int (zi 2), .ref bn, .ref x]) rfl ?_
      have he938 : (2 : Int) = 2 := by omega
      refine gs_aak (j := 2) rfl (by decide) sq908.1 tbn rfl rfl rfl (by decide) he938 (by decide) s912 ?_
      refine gz_call rfl (by decide) rfl (by decide) (by decide) (gcal_of rfl rfl rfl (Nat.le_of_ble_eq_true rfl) (gJ.recv (G := gGG) sq908.1 tx rfl rfl)) (cl_placeBand2 _ sq908.1 x tx b2 tb2 zq770 s929 (by omega) zq812 s930 (by omega) fq908_5 efq908_5 (by omega) nw s924 (by omega) nh s925 (by omega) zq685 s927 (by omega) zq729 s928 (by omega) hb2 s921 (by omega) vb2 s922 (by omega) (by omega) (by omega) (by omega) (by omega) uq) (fun q939 _ wq939 => ?_)
      obtain ⟨pq939, oq939, hq939⟩ := q939
      obtain ⟨xq939, fq939_0, fq939_1, fq939_2, fq939_3, fq939_4, fq939_5, gq939, efq939_0, afq939_0, bfq939_0, efq939_1, afq939_1, bfq939_1, efq939_2, afq939_2, bfq939_2, efq939_3, afq939_3, bfq939_3, efq939_4, afq939_4, bfq939_4, efq939_5, afq939_5, bfq939_5, uq939_0, uq939_1, uq939_2, uq939_3, uq939_4, uq939_5, uq939_6, uq939_7, uq939_8, uq939_9, uq939_10, uq939_11⟩ := wq939
      refine ⟨_, gq939, ?_⟩
      show gz gPP gGG gcn _ _ 149 [some (.ref x), some (.int (zi nw)), some (.int (zi nh)), some (.int (zi n)), some (.int (zi 2))] [] hq939 _
      have sq939 : gSs rT 1027 ty [54002, 54003, 54005, 54006, 54007, 54008, 54010, 54011, 54012, 54013, 82004, 82005, 82006, 82007, 82008, 83004, 83005, 83006, 83007, 83008, 84004, 84005, 84006, 84007, 84008, 112999, 113999] h hq939 := gSs.tr sq908 xq939 (by decide)
      have s940 := (xq939.2.2.2.2.2 x 0 (by rw [tx]; decide)).trans s909
      have s941 := (xq939.2.2.2.2.2 bn 0 (by rw [tbn]; decide)).trans s910
      have s942 := (xq939.2.2.2.2.2 bn 1 (by rw [tbn]; decide)).trans s911
      have s943 := (xq939.2.2.2.2.2 bn 2 (by rw [tbn]; decide)).trans s912
      have s944 := (xq939.2.2.2.2.2 x 2 (by rw [tx]; decide)).trans s913
      have s945 := (xq939.2.2.2.2.2 x 3 (by rw [tx]; decide)).trans s914
      have s946 := (xq939.2.2.2.2.2 b0 1 (by rw [tb0]; decide)).trans s915
      have s947 := (xq939.2.2.2.2.2 b0 2 (by rw [tb0]; decide)).trans s916
      have s948 := (xq939.2.2.2.2.2 b0 3 (by rw [tb0]; decide)).trans s917
      have s949 := (xq939.2.2.2.2.2 b1 1 (by rw [tb1]; decide)).trans s918
      have s950 := (xq939.2.2.2.2.2 b1 2 (by rw [tb1]; decide)).trans s919
      have s951 := (xq939.2.2.2.2.2 b1 3 (by rw [tb1]; decide)).trans s920
      have s952 := (xq939.2.2.2.2.2 b2 1 (by rw [tb2]; decide)).trans s921
      have s953 := (xq939.2.2.2.2.2 b2 2 (by rw [tb2]; decide)).trans s922
      have s954 := (xq939.2.2.2.2.2 b2 3 (by rw [tb2]; decide)).trans s923
      have s955 := (xq939.2.2.2.2.2 x 5 (by rw [tx]; decide)).trans s924
      have s956 := (xq939.2.2.2.2.2 x 6 (by rw [tx]; decide)).trans s925
      have s957 := (xq939.2.2.2.2.2 x 7 (by rw [tx]; decide)).trans s926
      have s958 := (xq939.2.2.2.2.2 x 10 (by rw [tx]; decide)).trans s927
      have s959 := (xq939.2.2.2.2.2 x 11 (by rw [tx]; decide)).trans s928
      have s960 := (xq939.2.2.2.2.2 x 12 (by rw [tx]; decide)).trans s929
      have s961 := (xq939.2.2.2.2.2 x 13 (by rw [tx]; decide)).trans s930
      have s962 := (xq939.2.2.2.2.2 b0 4 (by rw [tb0]; decide)).trans s931
      have s963 := (xq939.2.2.2.2.2 b0 5 (by rw [tb0]; decide)).trans s932
      have s964 := (xq939.2.2.2.2.2 b0 6 (by rw [tb0]; decide)).trans s933
      have s965 := (xq939.2.2.2.2.2 b0 7 (by rw [tb0]; decide)).trans s934
      have s966 := (xq939.2.2.2.2.2 b0 8 (by rw [tb0]; decide)).trans s935
      have s967 := (xq939.2.2.2.2.2 b1 4 (by rw [tb1]; decide)).trans efq908_0
      have s968 := (xq939.2.2.2.2.2 b1 5 (by rw [tb1]; decide)).trans efq908_1
      have s969 := (xq939.2.2.2.2.2 b1 6 (by rw [tb1]; decide)).trans efq908_2
      have s970 := (xq939.2.2.2.2.2 b1 7 (by rw [tb1]; decide)).trans efq908_3
      have s971 := (xq939.2.2.2.2.2 b1 8 (by rw [tb1]; decide)).trans efq908_4
      refine gy_s 4 (pc' := 132) (L' := [some (.ref x), some (.int (zi nw)), some (.int (zi nh)), some (.int (zi n)), some (.int ((zi 2) + zi 1))]) (S' := [.ref x, .int ((zi 2) + zi 1)]) (L2 := [some (.ref x), some (.int (zi nw)), some (.int (zi nh)), some (.int (zi n)), some (.int (zi 3))]) (S2 := [.ref x, .int (zi 3)]) rfl (by simp only [zi_add, zi_sub, zi_mul, zi_neg, zi_and1, zi_and7, zi_and15, zi_and31, zi_and255, Int.reduceAdd, Int.reduceMul, Int.reduceSub]) (by simp only [zi_add, zi_sub, zi_mul, zi_neg, zi_and1, zi_and7, zi_and15, zi_and31, zi_and255, Int.reduceAdd, Int.reduceMul, Int.reduceSub]) ?_
      refine gs_gtk rfl (by decide) rfl sq939.1 tx rfl rfl s957 ?_
      refine gy_icT (pc' := 155) rfl (by decide) (by decide) (by omega) (by omega) (by first | (simp [zc]; done) | (simp only [zc]; omega)) ?_
      refine gz_s 1 (pc' := 156) (L' := [some (.ref x), some (.int (zi nw)), some (.int (zi nh)), some (.int (zi n)), some (.int (zi 3))]) (S' := [.ref x]) rfl ?_
      have k972 := sq939.2.1
      have k972b := sq939.2.2.1
      have hl973 : hq939.2.2.2.1 co = h.2.2.2.1 co := congrFun sq939.2.2.2.2.1 co
      have hl974 : hq939.2.2.2.1 dm = h.2.2.2.1 dm := congrFun sq939.2.2.2.2.1 dm
      have hl975 : hq939.2.2.2.1 co = h.2.2.2.1 co := congrFun sq939.2.2.2.2.1 co
      have hl976 : hq939.2.2.2.1 dm = h.2.2.2.1 dm := congrFun sq939.2.2.2.2.1 dm
      refine gz_call rfl (by decide) rfl (by decide) (by decide) (gcal_of rfl rfl rfl (Nat.le_of_ble_eq_true rfl) (gJ.recv (G := gGG) sq939.1 tx rfl rfl)) (cl_Picture_clearBlocks _ sq939.1 x tx co s944 tco dm s945 tdm fq939_5 efq939_5 (by omega) (by omega) uq) (fun q977 _ wq977 => ?_)
      obtain ⟨pq977, oq977, hq977⟩ := q977
      obtain ⟨tyq977, xq977, cq977_0, cq977_1, ttq977, ecq977_0, tcq977_0, ecq977_1, tcq977_1, gq977, uq977_0, uq977_1, uq977_2, uq977_3, uq977_4⟩ := wq977
      refine ⟨_, gq977, ?_⟩
      show gz gPP gGG gcn _ _ 159 [some (.ref x), some (.int (zi nw)), some (.int (zi nh)), some (.int (zi n)), some (.int (zi 3))] [] hq977 _
      have G978 : gSg [112, 113] [] [54002, 54003, 54005, 54006, 54007, 54008, 54010, 54011, 54012, 54013, 82004, 82005, 82006, 82007, 82008, 83004, 83005, 83006, 83007, 83008, 84004, 84005, 84006, 84007, 84008, 112999, 113999] ty h tyq977 hq977 := gSg.tr (gSg.ss G0 sq939 (by decide)) xq977 (by decide) (by decide) (fun x hx => by cases hx)
      have t979 : tyq977 x = 54 := gSg.typ xq977 sq939.1 tx rfl
      have t980 : tyq977 bn = 57 := gSg.typ xq977 sq939.1 tbn rfl
      have t981 : tyq977 b0 = 82 := gSg.typ xq977 sq939.1 tb0 rfl
      have t982 : tyq977 b1 = 83 := gSg.typ xq977 sq939.1 tb1 rfl
      have t983 : tyq977 b2 = 84 := gSg.typ xq977 sq939.1 tb2 rfl
      have t984 : tyq977 co = 112 := gSg.typ xq977 sq939.1 tco rfl
      have hl985 : hq977.2.2.2.1 co = hq939.2.2.2.1 co := gSg.len xq977 sq939.1 tco rfl
      have t986 : tyq977 dm = 113 := gSg.typ xq977 sq939.1 tdm rfl
      have hl987 : hq977.2.2.2.1 dm = hq939.2.2.2.1 dm := gSg.len xq977 sq939.1 tdm rfl
      have s988 := gSg.at xq977 sq939.1 tx rfl (by decide) s940
      have s989 := gSg.at xq977 sq939.1 tbn rfl (by decide) s941
      have s990 := gSg.at xq977 sq939.1 tbn rfl (by decide) s942
      have s991 := gSg.at xq977 sq939.1 tbn rfl (by decide) s943
      have s992 := gSg.at xq977 sq939.1 tb0 rfl (by decide) s946
      have s993 := gSg.at xq977 sq939.1 tb0 rfl (by decide) s947
      have s994 := gSg.at xq977 sq939.1 tb0 rfl (by decide) s948
      have s995 := gSg.at xq977 sq939.1 tb1 rfl (by decide) s949
      have s996 := gSg.at xq977 sq939.1 tb1 rfl (by decide) s950
      have s997 := gSg.at xq977 sq939.1 tb1 rfl (by decide) s951
      have s998 := gSg.at xq977 sq939.1 tb2 rfl (by decide) s952
      have s999 := gSg.at xq977 sq939.1 tb2 rfl (by decide) s953
      have s1000 := gSg.at xq977 sq939.1 tb2 rfl (by decide) s954
      have s1001 := gSg.at xq977 sq939.1 tx rfl (by decide) s955
      have s1002 := gSg.at xq977 sq939.1 tx rfl (by decide) s956
      have s1003 := gSg.at xq977 sq939.1 tx rfl (by decide) s957
      have s1004 := gSg.at xq977 sq939.1 tx rfl (by decide) s958
      have s1005 := gSg.at xq977 sq939.1 tx rfl (by decide) s959
      have s1006 := gSg.at xq977 sq939.1 tx rfl (by decide) s960
      have s1007 := gSg.at xq977 sq939.1 tx rfl (by decide) s961
      have s1008 := gSg.at xq977 sq939.1 tb0 rfl (by decide) s962
      have s1009 := gSg.at xq977 sq939.1 tb0 rfl (by decide) s963
      have s1010 := gSg.at xq977 sq939.1 tb0 rfl (by decide) s964
      have s1011 := gSg.at xq977 sq939.1 tb0 rfl (by decide) s965
      have s1012 := gSg.at xq977 sq939.1 tb0 rfl (by decide) s966
      have s1013 := gSg.at xq977 sq939.1 tb1 rfl (by decide) s967
      have s1014 := gSg.at xq977 sq939.1 tb1 rfl (by decide) s968
      have s1015 := gSg.at xq977 sq939.1 tb1 rfl (by decide) s969
      have s1016 := gSg.at xq977 sq939.1 tb1 rfl (by decide) s970
      have s1017 := gSg.at xq977 sq939.1 tb1 rfl (by decide) s971
      have s1018 := gSg.at xq977 sq939.1 tb2 rfl (by decide) efq939_0
      have s1019 := gSg.at xq977 sq939.1 tb2 rfl (by decide) efq939_1
      have s1020 := gSg.at xq977 sq939.1 tb2 rfl (by decide) efq939_2
      have s1021 := gSg.at xq977 sq939.1 tb2 rfl (by decide) efq939_3
      have s1022 := gSg.at xq977 sq939.1 tb2 rfl (by decide) efq939_4
      have s1023 := gSg.at xq977 sq939.1 tx rfl (by decide) efq939_5
      have uq1024 := gSg.uq xq977 uq (by decide)
      have sS1025 : gSs rT 1027 tyq977 [54002, 54003, 54005, 54006, 54007, 54008, 54010, 54011, 54012, 54013, 82004, 82005, 82006, 82007, 82008, 83004, 83005, 83006, 83007, 83008, 84004, 84005, 84006, 84007, 84008, 112999, 113999] hq977 hq977 := gSs.rf xq977.1
      have hpc1026 : gPC tyq977 x b0 b1 b2 (hq977.2.2.2.1 cq977_1 : Int) hq977 := gPC.mk ⟨t979, t981, t982, t983⟩ ⟨t980, tcq977_0, tcq977_1⟩ ⟨s988, s989, s990, s991, ecq977_0, ecq977_1⟩ s1003 s1006 s1007 s1023 s1001 s1002 s1004 s1005 s992 s993 s994 s1008 s1009 s1010 s1011 s1012 s995 s996 s997 s1013 s1014 s1015 s1016 s1017 s998 s999 s1000 s1018 s1019 s1020 s1021 s1022 ⟨by omega, by omega⟩ ⟨by omega, by omega⟩ ⟨by omega, by omega⟩ ⟨by omega, by omega⟩ ⟨by omega, by omega⟩ ⟨by omega, by omega⟩ ⟨by omega, by omega⟩ ⟨by omega, by omega⟩ ⟨by omega, by omega⟩ ⟨by omega, by omega⟩ ⟨by omega, by omega⟩ ⟨by omega, by omega⟩ ⟨by omega, by omega⟩ ⟨by omega, by omega⟩ ⟨by omega, by omega⟩ ⟨by omega, by omega⟩ ⟨by omega, by omega⟩ ⟨by omega, by omega⟩ ⟨by omega, by omega⟩ ⟨by omega, by omega⟩ ⟨by omega, by omega⟩ ⟨by omega, by omega⟩ ⟨by omega, by omega⟩ ⟨by omega, by omega⟩ ⟨by omega, by omega⟩ ⟨by omega, by omega⟩ ⟨by omega, by omega⟩ ⟨by omega, by omega⟩ ⟨by omega, by omega⟩ ⟨by omega, by omega⟩ ⟨by omega, by omega⟩ ⟨by omega, by omega⟩ (fun w => by unfold gPq; (repeat' apply And.intro) <;> omega) (fun w => by unfold gPq; (repeat' apply And.intro) <;> omega) (fun w => by unfold gPq; (repeat' apply And.intro) <;> omega) (fun w => by (repeat' apply And.intro) <;> omega) (fun w => by (repeat' apply And.intro) <;> omega) (fun w => by (repeat' apply And.intro) <;> omega) (fun w => by (repeat' apply And.intro) <;> omega) (by omega) (by omega) (by omega) (by omega)
      have G1027 : gSg [112, 113] [] [54002, 54003, 54005, 54006, 54007, 54008, 54010, 54011, 54012, 54013, 82004, 82005, 82006, 82007, 82008, 83004, 83005, 83006, 83007, 83008, 84004, 84005, 84006, 84007, 84008, 112999, 113999] ty h tyq977 hq977 := gSg.ss G978 sS1025 (by decide)
      exact gz_end (I := .return_) (len := 1) rfl (Or.inl rfl) ⟨tyq977, G1027, n, (hq977.2.2.2.1 cq977_1 : Int), rfl, s1003, (by omega), (by omega), (by omega), (by omega), (by omega), (by omega), (by omega), (by omega), hpc1026⟩
set_option maxRecDepth 20000 in
set_option maxHeartbeats 4000000 in
theorem cl_Reader_readFrame (d : Nat) {ty : Nat → Nat} {h : gH} (hJ : gJ rT 1027 ty h) (x : Nat) (tx : ty x = 65) (m : Int) (rm : 0 ≤ m ∧ m ≤ 255) (a : Int) (ra : 0 ≤ a ∧ a ≤ 4100) (n : Int) (rn : 0 ≤ n ∧ n ≤ 65535) (src : Nat) (esrc : h.2.2.2.2 x 0 = .ref src) (tsrc : ty src = 51) (pic : Nat) (epic : h.2.2.2.2 x 1 = .ref pic) (tpic : ty pic = 54) (bn : Nat) (ebn : h.2.2.2.2 pic 0 = .ref bn) (tbn : ty bn = 57) (b0 : Nat) (eb0 : h.2.2.2.2 bn 0 = .ref b0) (tb0 : ty b0 = 82) (b1 : Nat) (eb1 : h.2.2.2.2 bn 1 = .ref b1) (tb1 : ty b1 = 83) (b2 : Nat) (eb2 : h.2.2.2.2 bn 2 = .ref b2) (tb2 : ty b2 = 84) (co : Nat) (eco : h.2.2.2.2 pic 2 = .ref co) (tco : ty co = 112) (dm : Nat) (edm : h.2.2.2.2 pic 3 = .ref dm) (tdm : ty dm = 113) (sz : Int) (esz : h.2.2.2.2 src 1 = .int (zi sz)) (rsz : 0 ≤ sz ∧ sz ≤ 2000) (cn : Int) (ecn : h.2.2.2.2 pic 7 = .int (zi cn)) (rcn : 0 ≤ cn ∧ cn ≤ 0) (bl : Int) (ebl : h.2.2.2.2 pic 8 = .int (zi bl)) (rbl : 0 ≤ bl ∧ bl ≤ 192) (pp0 : (h.2.2.2.1 co : Int) = 64 * (h.2.2.2.1 dm : Int)) (pp1 : bl * 64 ≤ (h.2.2.2.1 co : Int)) (pp2 : bl ≤ (h.2.2.2.1 dm : Int)) (uq : gUq ty) : gz gPP gGG gcn (d + 3) gt28 0 (gent [.ref x, .int (zi m), .int (zi a), .int (zi n)] 10) [] h (fun q _ => ∃ ty9 : Nat → Nat, gSg [112, 113] [] [54002, 54003, 54004, 54005, 54006, 54007, 54008, 54010, 54011, 54012, 54013, 82000, 82001, 82002, 82003, 82004, 82005, 82006, 82007, 82008, 83000, 83001, 83002, 83003, 83004, 83005, 83006, 83007, 83008, 84000, 84001, 84002, 84003, 84004, 84005, 84006, 84007, 84008, 112999, 113999] ty h ty9 q.2.2 ∧ ∃ z cn1 ld1 : Int, gfin gt28 q.1 q.2.1 = some (some (.int (zi z))) ∧ (-1) ≤ z ∧ z ≤ 4400 ∧ q.2.2.2.2.2.2 pic 7 = .int (zi cn1) ∧ 0 ≤ cn1 ∧ cn1 ≤ 3 ∧ 0 ≤ ld1 ∧ ld1 ≤ 192 ∧ (((q.2.2.1 : Int) - h.1) ≤ 2 * (ld1 - h.2.2.2.1 dm)) ∧ (((q.2.2.2.1 : Int) - h.2.1) ≤ 12480 * (ld1 - h.2.2.2.1 dm)) ∧ ((h.2.2.2.1 dm : Int) ≤ ld1) ∧ (gPC ty9 pic b0 b1 b2 ld1 q.2.2)) := by
  have hS : gSs rT 1027 ty [54002, 54003, 54004, 54005, 54006, 54007, 54008, 54010, 54011, 54012, 54013, 82000, 82001, 82002, 82003, 82004, 82005, 82006, 82007, 82008, 83000, 83001, 83002, 83003, 83004, 83005, 83006, 83007, 83008, 84000, 84001, 84002, 84003, 84004, 84005, 84006, 84007, 84008, 112999, 113999] h h := gSs.rf hJ
  have G0 : gSg [112, 113] [] [54002, 54003, 54004, 54005, 54006, 54007, 54008, 54010, 54011, 54012, 54013, 82000, 82001, 82002, 82003, 82004, 82005, 82006, 82007, 82008, 83000, 83001, 83002, 83003, 83004, 83005, 83006, 83007, 83008, 84000, 84001, 84002, 84003, 84004, 84005, 84006, 84007, 84008, 112999, 113999] ty h ty h := gSg.rf hJ (fun x hx => by cases hx)
  refine gz_s 1 (pc' := 1) (L' := [some (.ref x), some (.int (zi m)), some (.int (zi a)), some (.int (zi n)), none, none, none, none, none, none]) (S' := [.ref x]) rfl ?_
  refine gs_gtk rfl (by decide) rfl hS.1 tx rfl rfl esrc ?_
  refine gy_s 3 (pc' := 8) (L' := [some (.ref x), some (.int (zi m)), some (.int (zi a)), some (.int (zi n)), none, none, none, none, none, none]) (S' := [.int ((zi a) + (zi 7)), .ref src]) (L2 := [some (.ref x), some (.int (zi m)), some (.int (zi a)), some (.int (zi n)), none, none, none, none, none, none]) (S2 := [.int (zi (a + 7)), .ref src]) rfl (by simp only [zi_add, zi_sub, zi_mul, zi_neg, zi_and1, zi_and7, zi_and15, zi_and31, zi_and255, Int.reduceAdd, Int.reduceMul, Int.reduceSub]) (by simp only [zi_add, zi_sub, zi_mul, zi_neg, zi_and1, zi_and7, zi_and15, zi_and31, zi_and255, Int.reduceAdd, Int.reduceMul, Int.reduceSub]) ?_
  refine gz_call rfl (by decide) rfl (by decide) (by decide) (gcal_of rfl rfl rfl (Nat.le_of_ble_eq_true rfl) (gJ.recv (G := gGG) hS.1 tsrc rfl rfl)) (cl_Collected_byteAt _ hS.1 src tsrc (a + 7) (by omega) sz esz (by omega) uq) (fun q1 _ wq1 => ?_)
  obtain ⟨pq1, oq1, hq1⟩ := q1
  obtain ⟨xq1, zq1, gq1, aq1, bq1, uq1_0⟩ := wq1
  refine ⟨_, gq1, ?_⟩
  show gz gPP gGG gcn _ _ 11 [some (.ref x), some (.int (zi m)), some (.int (zi a)), some (.int (zi n)), none, none, none, none, none, none] [.int (zi zq1)] hq1 _
  have sq1 : gSs rT 1027 ty [54002, 54003, 54004, 54005, 54006, 54007, 54008, 54010, 54011, 54012, 54013, 82000, 82001, 82002, 82003, 82004, 82005, 82006, 82007, 82008, 83000, 83001, 83002, 83003, 83004, 83005, 83006, 83007, 83008, 84000, 84001, 84002, 84003, 84004, 84005, 84006, 84007, 84008, 112999, 113999] h hq1 := gSs.tr hS xq1 (by decide)
  have s2 := (xq1.2.2.2.2.2 x 0 (by rw [tx]; decide)).trans esrc
  have s3 := (xq1.2.2.2.2.2 x 1 (by rw [tx]; decide)).trans epic
  have s4 := (xq1.2.2.2.2.2 pic 0 (by rw [tpic]; decide)).trans ebn
  have s5 := (xq1.2.2.2.2.2 bn 0 (by rw [tbn]; decide)).trans eb0
  have s6 := (xq1.2.2.2.2.2 bn 1 (by rw [tbn]; decide)).trans eb1
  have s7 := (xq1.2.2.2.2.2 bn 2 (by rw [tbn]; decide)).trans eb2
  have s8 := (xq1.2.2.2.2.2 pic 2 (by rw [tpic]; decide)).trans eco
  have s9 := (xq1.2.2.2.2.2 pic 3 (by rw [tpic]; decide)).trans edm
  have s10 := (xq1.2.2.2.2.2 src 1 (by rw [tsrc]; decide)).trans esz
  have s11 := (xq1.2.2.2.2.2 pic 7 (by rw [tpic]; decide)).trans ecn
  have s12 := (xq1.2.2.2.2.2 pic 8 (by rw [tpic]; decide)).trans ebl
  refine gz_s 3 (pc' := 16) (L' := [some (.ref x), some (.int (zi m)), some (.int (zi a)), some (.int (zi n)), some (.int (zi zq1)), none, none, none, none, none]) (S' := [.int (zi 1), .int (zi zq1)]) rfl ?_
  have jn13 : ∀ (jn13v0 : Int), ((0 ≤ jn13v0) ∧ (jn13v0 ≤ 1) ∧ (jn13v0 = 1 → (zq1 = 1 ∨ zq1 = 3))) → gz gPP gGG gcn (d + 3) gt28 30 [some (.ref x), some (.int (zi m)), some (.int (zi a)), some (.int (zi n)), some (.int (zi zq1)), none, none, none, none, none] [.int (zi jn13v0)] hq1 (fun q _ => ∃ ty9 : Nat → Nat, gSg [112, 113] [] [54002, 54003, 54004, 54005, 54006, 54007, 54008, 54010, 54011, 54012, 54013, 82000, 82001, 82002, 82003, 82004, 82005, 82006, 82007, 82008, 83000, 83001, 83002, 83003, 83004, 83005, 83006, 83007, 83008, 84000, 84001, 84002, 84003, 84004, 84005, 84006, 84007, 84008, 112999, 113999] ty h ty9 q.2.2 ∧ ∃ z cn1 ld1 : Int, gfin gt28 q.1 q.2.1 = some (some (.int (zi z))) ∧ (-1) ≤ z ∧ z ≤ 4400 ∧ q.2.2.2.2.2.2 pic 7 = .int (zi cn1) ∧ 0 ≤ cn1 ∧ cn1 ≤ 3 ∧ 0 ≤ ld1 ∧ ld1 ≤ 192 ∧ (((q.2.2.1 : Int) - h.1) ≤ 2 * (ld1 - h.2.2.2.1 dm)) ∧ (((q.2.2.2.1 : Int) - h.2.1) ≤ 12480 * (ld1 - h.2.2.2.1 dm)) ∧ ((h.2.2.2.1 dm : Int) ≤ ld1) ∧ (gPC ty9 pic b0 b1 b2 ld1 q.2.2)) := by
    intro jn13v0 jn13d
    refine gz_s 3 (pc' := 35) (L' := [some (.ref x), some (.int (zi m)), some (.int (zi a)), some (.int (zi n)), some (.int (zi zq1)), some (.int (zi jn13v0)), none, none, none, none]) (S' := [.int (zi 8), .int (zi n)]) rfl ?_
    by_cases hc14 : (n : Int) < 8
    · refine gy_icT (pc' := 54) rfl (by decide) (by decide) (by omega) (by omega) hc14 ?_
      refine gz_s 1 (pc' := 55) (L' := [some (.ref x), some (.int (zi m)), some (.int (zi a)), some (.int (zi n)), some (.int (zi zq1)), some (.int (zi jn13v0)), none, none, none, none]) (S' := [.int (zi a)]) rfl ?_
      have k15 := sq1.2.1
      have k15b := sq1.2.2.1
      have hl16 : hq1.2.2.2.1 co = h.2.2.2.1 co := congrFun sq1.2.2.2.2.1 co
      have hl17 : hq1.2.2.2.1 dm = h.2.2.2.1 dm := congrFun sq1.2.2.2.2.1 dm
      have k18 := sq1.2.1
      have k18b := sq1.2.2.1
      have hl19 : hq1.2.2.2.1 co = h.2.2.2.1 co := congrFun sq1.2.2.2.2.1 co
      have hl20 : hq1.2.2.2.1 dm = h.2.2.2.1 dm := congrFun sq1.2.2.2.2.1 dm
      have hpc21 : gPC ty pic b0 b1 b2 (hq1.2.2.2.1 dm : Int) hq1 := gPC.zero sq1.1 tpic s4 tbn s5 tb0 s6 tb1 s7 tb2 s8 tco s9 tdm (by rw [(by omega : (0 : Int) = cn)]; exact s11) bl s12 (by omega) (by omega) (by omega) (by omega) (by omega)
      have G22 : gSg [112, 113] [] [54002, 54003, 54004, 54005, 54006, 54007, 54008, 54010, 54011, 54012, 54013, 82000, 82001, 82002, 82003, 82004, 82005, 82006, 82007, 82008, 83000, 83001, 83002, 83003, 83004, 83005, 83006, 83007, 83008, 84000, 84001, 84002, 84003, 84004, 84005, 84006, 84007, 84008, 112999, 113999] ty h ty hq1 := gSg.ss G0 sq1 (by decide)
      exact gz_end (I := .ireturn) (len := 1) rfl (Or.inl rfl) ⟨ty, G22, a, cn, (hq1.2.2.2.1 dm : Int), rfl, (by omega), (by omega), s11, (by omega), (by omega), (by omega), (by omega), (by omega), (by omega), (by omega), hpc21⟩
    · refine gy_icF rfl (by decide) (by decide) (by omega) (by omega) hc14 ?_
      refine gz_s 1 (pc' := 40) (L' := [some (.ref x), some (.int (zi m)), some (.int (zi a)), some (.int (zi n)), some (.int (zi zq1)), some (.int (zi jn13v0)), none, none, none, none]) (S' := [.int (zi jn13v0)]) rfl ?_
      by_cases hc23 : (jn13v0 : Int) = 0
      · refine gy_ifT (pc' := 56) rfl (by decide) (by decide) (by omega) hc23 ?_
        refine gz_s 1 (pc' := 57) (L' := [some (.ref x), some (.int (zi m)), some (.int (zi a)), some (.int (zi n)), some (.int (zi zq1)), some (.int (zi jn13v0)), none, none, none, none]) (S' := [.ref x]) rfl ?_
        refine gs_gtk rfl (by decide) rfl sq1.1 tx rfl rfl s2 ?_
        refine gy_s 3 (pc' := 63) (L' := [some (.ref x), some (.int (zi m)), some (.int (zi a)), some (.int (zi n)), some (.int (zi zq1)), some (.int (zi jn13v0)), none, none, none, none]) (S' := [.int ((zi a) + (zi 2)), .ref src]) (L2 := [some (.ref x), some (.int (zi m)), some (.int (zi a)), some (.int (zi n)), some (.int (zi zq1)), some (.int (zi jn13v0)), none, none, none, none]) (S2 := [.int (zi (a + 2)), .ref src]) rfl (by simp only [zi_add, zi_sub, zi_mul, zi_neg, zi_and1, zi_and7, zi_and15, zi_and31, zi_and255, Int.reduceAdd, Int.reduceMul, Int.reduceSub]) (by simp only [zi_add, zi_sub, zi_mul, zi_neg, zi_and1, zi_and7, zi_and15, zi_and31, zi_and255, Int.reduceAdd, Int.reduceMul, Int.reduceSub]) ?_
        refine gz_call rfl (by decide) rfl (by decide) (by decide) (gcal_of rfl rfl rfl (Nat.le_of_ble_eq_true rfl) (gJ.recv (G := gGG) sq1.1 tsrc rfl rfl)) (cl_Collected_byteAt _ sq1.1 src tsrc (a + 2) (by omega) sz s10 (by omega) uq) (fun q24 _ wq24 => ?_)
        obtain ⟨pq24, oq24, hq24⟩ := q24
        obtain ⟨xq24, zq24, gq24, aq24, bq24, uq24_0⟩ := wq24
        refine ⟨_, gq24, ?_⟩
        show gz gPP gGG gcn _ _ 66 [some (.ref x), some (.int (zi m)), some (.int (zi a)), some (.int (zi n)), some (.int (zi zq1)), some (.int (zi jn13v0)), none, none, none, none] [.int (zi zq24)] hq24 _
        have sq24 : gSs rT 1027 ty [54002, 54003, 54004, 54005, 54006, 54007, 54008, 54010, 54011, 54012, 54013, 82000, 82001, 82002, 82003, 82004, 82005, 82006, 82007, 82008, 83000, 83001, 83002, 83003, 83004, 83005, 83006, 83007, 83008, 84000, 84001, 84002, 84003, 84004, 84005, 84006, 84007, 84008, 112999, 113999] h hq24 := gSs.tr sq1 xq24 (by decide)
        have s25 := (xq24.2.2.2.2.2 x 0 (by rw [tx]; decide)).trans s2
        have s26 := (xq24.2.2.2.2.2 x 1 (by rw [tx]; decide)).trans s3
        have s27 := (xq24.2.2.2.2.2 pic 0 (by rw [tpic]; decide)).trans s4
        have s28 := (xq24.2.2.2.2.2 bn 0 (by rw [tbn]; decide)).trans s5
        have s29 := (xq24.2.2.2.2.2 bn 1 (by rw [tbn]; decide)).trans s6
        have s30 := (xq24.2.2.2.2.2 bn 2 (by rw [tbn]; decide)).trans s7
        have s31 := (xq24.2.2.2.2.2 pic 2 (by rw [tpic]; decide)).trans s8
        have s32 := (xq24.2.2.2.2.2 pic 3 (by rw [tpic]; decide)).trans s9
        have s33 := (xq24.2.2.2.2.2 src 1 (by rw [tsrc]; decide)).trans s10
        have s34 := (xq24.2.2.2.2.2 pic 7 (by rw [tpic]; decide)).trans s11
        have s35 := (xq24.2.2.2.2.2 pic 8 (by rw [tpic]; decide)).trans s12
        refine gz_s 1 (pc' := 68) (L' := [some (.ref x), some (.int (zi m)), some (.int (zi a)), some (.int (zi n)), some (.int (zi zq1)), some (.int (zi jn13v0)), none, none, none, none]) (S' := [.int (zi 8), .int (zi zq24)]) rfl ?_
        by_cases hc36 : (zq24 : Int) = 8
        · refine gy_icT (pc' := 75) rfl (by decide) (by decide) (by omega) (by omega) hc36 ?_
          refine gz_s 1 (pc' := 76) (L' := [some (.ref x), some (.int (zi m)), some (.int (zi a)), some (.int (zi n)), some (.int (zi zq1)), some (.int (zi jn13v0)), none, none, none, none]) (S' := [.ref x]) rfl ?_
          refine gs_gtk rfl (by decide) rfl sq24.1 tx rfl rfl s25 ?_
          refine gy_s 3 (pc' := 82) (L' := [some (.ref x), some (.int (zi m)), some (.int (zi a)), some (.int (zi n)), some (.int (zi zq1)), some (.int (zi jn13v0)), none, none, none, none]) (S' := [.int ((zi a) + (zi 3)), .ref src]) (L2 := [some (.ref x), some (.int (zi m)), some (.int (zi a)), some (.int (zi n)), some (.int (zi zq1)), some (.int (zi jn13v0)), none, none, none, none]) (S2 := [.int (zi (a + 3)), .ref src]) rfl (by simp only [zi_add, zi_sub, zi_mul, zi_neg, zi_and1, zi_and7, zi_and15, zi_and31, zi_and255, Int.reduceAdd, Int.reduceMul, Int.reduceSub]) (by simp only [zi_add, zi_sub, zi_mul, zi_neg, zi_and1, zi_and7, zi_and15, zi_and31, zi_and255, Int.reduceAdd, Int.reduceMul, Int.reduceSub]) ?_
          refine gz_call rfl (by decide) rfl (by decide) (by decide) (gcal_of rfl rfl rfl (Nat.le_of_ble_eq_true rfl) (gJ.recv (G := gGG) sq24.1 tsrc rfl rfl)) (cl_Collected_twoAt _ sq24.1 src tsrc (a + 3) (by omega) sz s33 (by omega) uq) (fun q37 _ wq37 => ?_)
          obtain ⟨pq37, oq37, hq37⟩ := q37
          obtain ⟨xq37, zq37, gq37, aq37, bq37, uq37_0⟩ := wq37
          refine ⟨_, gq37, ?_⟩
          show gz gPP gGG gcn _ _ 85 [some (.ref x), some (.int (zi m)), some (.int (zi a)), some (.int (zi n)), some (.int (zi zq1)), some (.int (zi jn13v0)), none, none, none, none] [.int (zi zq37)] hq37 _
          have sq37 : gSs rT 1027 ty [54002, 54003, 54004, 54005, 54006, 54007, 54008, 54010, 54011, 54012, 54013, 82000, 82001, 82002, 82003, 82004, 82005, 82006, 82007, 82008, 83000, 83001, 83002, 83003, 83004, 83005, 83006, 83007, 83008, 84000, 84001, 84002, 84003, 84004, 84005, 84006, 84007, 84008, 112999, 113999] h hq37 := gSs.tr sq24 xq37 (by decide)
          have s38 := (xq37.2.2.2.2.2 x 0 (by rw [tx]; decide)).trans s25
          have s39 := (xq37.2.2.2.2.2 x 1 (by rw [tx]; decide)).trans s26
          have s40 := (xq37.2.2.2.2.2 pic 0 (by rw [tpic]; decide)).trans s27
          have s41 := (xq37.2.2.2.2.2 bn 0 (by rw [tbn]; decide)).trans s28
          have s42 := (xq37.2.2.2.2.2 bn 1 (by rw [tbn]; decide)).trans s29
          have s43 := (xq37.2.2.2.2.2 bn 2 (by rw [tbn]; decide)).trans s30
          have s44 := (xq37.2.2.2.2.2 pic 2 (by rw [tpic]; decide)).trans s31
          have s45 := (xq37.2.2.2.2.2 pic 3 (by rw [tpic]; decide)).trans s32
          have s46 := (xq37.2.2.2.2.2 src 1 (by rw [tsrc]; decide)).trans s33
          have s47 := (xq37.2.2.2.2.2 pic 7 (by rw [tpic]; decide)).trans s34
          have s48 := (xq37.2.2.2.2.2 pic 8 (by rw [tpic]; decide)).trans s35
          refine gz_s 2 (pc' := 89) (L' := [some (.ref x), some (.int (zi m)), some (.int (zi a)), some (.int (zi n)), some (.int (zi zq1)), some (.int (zi jn13v0)), some (.int (zi zq37)), none, none, none]) (S' := [.int (zi zq37)]) rfl ?_
          by_cases hc49 : ¬ (zq37 : Int) = 0
          · refine gy_ifT (pc' := 101) rfl (by decide) (by decide) (by omega) hc49 ?_
            refine gz_s 2 (pc' := 104) (L' := [some (.ref x), some (.int (zi m)), some (.int (zi a)), some (.int (zi n)), some (.int (zi zq1)), some (.int (zi jn13v0)), some (.int (zi zq37)), none, none, none]) (S' := [.int (zi 1), .int (zi zq37)]) rfl ?_
            by_cases hc50 : (zq37 : Int) < 1
            · refine gy_icT (pc' := 114) rfl (by decide) (by decide) (by omega) (by omega) hc50 ?_
              refine gy_s 3 (pc' := 117) (L' := [some (.ref x), some (.int (zi m)), some (.int (zi a)), some (.int (zi n)), some (.int (zi zq1)), some (.int (zi jn13v0)), some (.int (zi zq37)), none, none, none]) (S' := [.int ((zi a) + (zi 3))]) (L2 := [some (.ref x), some (.int (zi m)), some (.int (zi a)), some (.int (zi n)), some (.int (zi zq1)), some (.int (zi jn13v0)), some (.int (zi zq37)), none, none, none]) (S2 := [.int (zi (a + 3))]) rfl (by simp only [zi_add, zi_sub, zi_mul, zi_neg, zi_and1, zi_and7, zi_and15, zi_and31, zi_and255, Int.reduceAdd, Int.reduceMul, Int.reduceSub]) (by simp only [zi_add, zi_sub, zi_mul, zi_neg, zi_and1, zi_and7, zi_and15, zi_and31, zi_and255, Int.reduceAdd, Int.reduceMul, Int.reduceSub]) ?_
              have k51 := sq37.2.1
              have k51b := sq37.2.2.1
              have hl52 : hq37.2.2.2.1 co = h.2.2.2.1 co := congrFun sq37.2.2.2.2.1 co
              have hl53 : hq37.2.2.2.1 dm = h.2.2.2.1 dm := congrFun sq37.2.2.2.2.1 dm
              have k54 := sq37.2.1
              have k54b := sq37.2.2.1
              have hl55 : hq37.2.2.2.1 co = h.2.2.2.1 co := congrFun sq37.2.2.2.2.1 co
              have hl56 : hq37.2.2.2.1 dm = h.2.2.2.1 dm := congrFun sq37.2.2.2.2.1 dm
              have hpc57 : gPC ty pic b0 b1 b2 (hq37.2.2.2.1 dm : Int) hq37 := gPC.zero sq37.1 tpic s40 tbn s41 tb0 s42 tb1 s43 tb2 s44 tco s45 tdm (by rw [(by omega : (0 : Int) = cn)]; exact s47) bl s48 (by omega) (by omega) (by omega) (by omega) (by omega)
              have G58 : gSg [112, 113] [] [54002, 54003, 54004, 54005, 54006, 54007, 54008, 54010, 54011, 54012, 54013, 82000, 82001, 82002, 82003, 82004, 82005, 82006, 82007, 82008, 83000, 83001, 83002, 83003, 83004, 83005, 83006, 83007, 83008, 84000, 84001, 84002, 84003, 84004, 84005, 84006, 84007, 84008, 112999, 113999] ty h ty hq37 := gSg.ss G0 sq37 (by decide)
              exact gz_end (I := .ireturn) (len := 1) rfl (Or.inl rfl) ⟨ty, G58, a + 3, cn, (hq37.2.2.2.1 dm : Int), rfl, (by omega), (by omega), s47, (by omega), (by omega), (by omega), (by omega), (by omega), (by omega), (by omega), hpc57⟩
            · refine gy_icF rfl (by decide) (by decide) (by omega) (by omega) hc50 ?_
              refine gz_s 2 (pc' := 111) (L' := [some (.ref x), some (.int (zi m)), some (.int (zi a)), some (.int (zi n)), some (.int (zi zq1)), some (.int (zi jn13v0)), some (.int (zi zq37)), none, none, none]) (S' := [.int (zi 64), .int (zi zq37)]) rfl ?_
              by_cases hc59 : (zq37 : Int) ≤ 64
              · refine gy_icT (pc' := 118) rfl (by decide) (by decide) (by omega) (by omega) hc59 ?_
                refine gz_s 1 (pc' := 119) (L' := [some (.ref x), some (.int (zi m)), some (.int (zi a)), some (.int (zi n)), some (.int (zi zq1)), some (.int (zi jn13v0)), some (.int (zi zq37)), none, none, none]) (S' := [.ref x]) rfl ?_
                refine gs_gtk rfl (by decide) rfl sq37.1 tx rfl rfl s38 ?_
                refine gy_s 3 (pc' := 125) (L' := [some (.ref x), some (.int (zi m)), some (.int (zi a)), some (.int (zi n)), some (.int (zi zq1)), some (.int (zi jn13v0)), some (.int (zi zq37)), none, none, none]) (S' := [.int ((zi a) + (zi 5)), .ref src]) (L2 := [some (.ref x), some (.int (zi m)), some (.int (zi a)), some (.int (zi n)), some (.int (zi zq1)), some (.int (zi jn13v0)), some (.int (zi zq37)), none, none, none]) (S2 := [.int (zi (a + 5)), .ref src]) rfl (by simp only [zi_add, zi_sub, zi_mul, zi_neg, zi_and1, zi_and7, zi_and15, zi_and31, zi_and255, Int.reduceAdd, Int.reduceMul, Int.reduceSub]) (by simp only [zi_add, zi_sub, zi_mul, zi_neg, zi_and1, zi_and7, zi_and15, zi_and31, zi_and255, Int.reduceAdd, Int.reduceMul, Int.reduceSub]) ?_
                refine gz_call rfl (by decide) rfl (by decide) (by decide) (gcal_of rfl rfl rfl (Nat.le_of_ble_eq_true rfl) (gJ.recv (G := gGG) sq37.1 tsrc rfl rfl)) (cl_Collected_twoAt _ sq37.1 src tsrc (a + 5) (by omega) sz s46 (by omega) uq) (fun q60 _ wq60 => ?_)
                obtain ⟨pq60, oq60, hq60⟩ := q60
                obtain ⟨xq60, zq60, gq60, aq60, bq60, uq60_0⟩ := wq60
                refine ⟨_, gq60, ?_⟩
                show gz gPP gGG gcn _ _ 128 [some (.ref x), some (.int (zi m)), some (.int (zi a)), some (.int (zi n)), some (.int (zi zq1)), some (.int (zi jn13v0)), some (.int (zi zq37)), none, none, none] [.int (zi zq60)] hq60 _
                have sq60 : gSs rT 1027 ty [54002, 54003, 54004, 54005, 54006, 54007, 54008, 54010, 54011, 54012, 54013, 82000, 82001, 82002, 82003, 82004, 82005, 82006, 82007, 82008, 83000, 83001, 83002, 83003, 83004, 83005, 83006, 83007, 83008, 84000, 84001, 84002, 84003, 84004, 84005, 84006, 84007, 84008, 112999, 113999] h hq60 := gSs.tr sq37 xq60 (by decide)
                have s61 := (xq60.2.2.2.2.2 x 0 (by rw [tx]; decide)).trans s38
                have s62 := (xq60.2.2.2.2.2 x 1 (by rw [tx]; decide)).trans s39
                have s63 := (xq60.2.2.2.2.2 pic 0 (by rw [tpic]; decide)).trans s40
                have s64 := (xq60.2.2.2.2.2 bn 0 (by rw [tbn]; decide)).trans s41
                have s65 := (xq60.2.2.2.2.2 bn 1 (by rw [tbn]; decide)).trans s42
                have s66 := (xq60.2.2.2.2.2 bn 2 (by rw [tbn]; decide)).trans s43
                have s67 := (xq60.2.2.2.2.2 pic 2 (by rw [tpic]; decide)).trans s44
                have s68 := (xq60.2.2.2.2.2 pic 3 (by rw [tpic]; decide)).trans s45
                have s69 := (xq60.2.2.2.2.2 src 1 (by rw [tsrc]; decide)).trans s46
                have s70 := (xq60.2.2.2.2.2 pic 7 (by rw [tpic]; decide)).trans s47
                have s71 := (xq60.2.2.2.2.2 pic 8 (by rw [tpic]; decide)).trans s48
                refine gz_s 3 (pc' := 133) (L' := [some (.ref x), some (.int (zi m)), some (.int (zi a)), some (.int (zi n)), some (.int (zi zq1)), some (.int (zi jn13v0)), some (.int (zi zq37)), some (.int (zi zq60)), none, none]) (S' := [.int (zi 1), .int (zi zq60)]) rfl ?_
                by_cases hc72 : (zq60 : Int) < 1
                · refine gy_icT (pc' := 143) rfl (by decide) (by decide) (by omega) (by omega) hc72 ?_
                  refine gy_s 3 (pc' := 146) (L' := [some (.ref x), some (.int (zi m)), some (.int (zi a)), some (.int (zi n)), some (.int (zi zq1)), some (.int (zi jn13v0)), some (.int (zi zq37)), some (.int (zi zq60)), none, none]) (S' := [.int ((zi a) + (zi 5))]) (L2 := [some (.ref x), some (.int (zi m)), some (.int (zi a)), some (.int (zi n)), some (.int (zi zq1)), some (.int (zi jn13v0)), some (.int (zi zq37)), some (.int (zi zq60)), none, none]) (S2 := [.int (zi (a + 5))]) rfl (by simp only [zi_add, zi_sub, zi_mul, zi_neg, zi_and1, zi_and7, zi_and15, zi_and31, zi_and255, Int.reduceAdd, Int.reduceMul, Int.reduceSub]) (by simp only [zi_add, zi_sub, zi_mul, zi_neg, zi_and1, zi_and7, zi_and15, zi_and31, zi_and255, Int.reduceAdd, Int.reduceMul, Int.reduceSub]) ?_
                  have k73 := sq60.2.1
                  have k73b := sq60.2.2.1
                  have hl74 : hq60.2.2.2.1 co = h.2.2.2.1 co := congrFun sq60.2.2.2.2.1 co
                  have hl75 : hq60.2.2.2.1 dm = h.2.2.2.1 dm := congrFun sq60.2.2.2.2.1 dm
                  have k76 := sq60.2.1
                  have k76b := sq60.2.2.1
                  have hl77 : hq60.2.2.2.1 co = h.2.2.2.1 co := congrFun sq60.2.2.2.2.1 co
                  have hl78 : hq60.2.2.2.1 dm = h.2.2.2.1 dm := congrFun sq60.2.2.2.2.1 dm
                  have hpc79 : gPC ty pic b0 b1 b2 (hq60.2.2.2.1 dm : Int) hq60 := gPC.zero sq60.1 tpic s63 tbn s64 tb0 s65 tb1 s66 tb2 s67 tco s68 tdm (by rw [(by omega : (0 : Int) = cn)]; exact s70) bl s71 (by omega) (by omega) (by omega) (by omega) (by omega)
                  have G80 : gSg [112, 113] [] [54002, 54003, 54004, 54005, 54006, 54007, 54008, 54010, 54011, 54012, 54013, 82000, 82001, 82002, 82003, 82004, 82005, 82006, 82007, 82008, 83000, 83001, 83002, 83003, 83004, 83005, 83006, 83007, 83008, 84000, 84001, 84002, 84003, 84004, 84005, 84006, 84007, 84008, 112999, 113999] ty h ty hq60 := gSg.ss G0 sq60 (by decide)
                  exact gz_end (I := .ireturn) (len := 1) rfl (Or.inl rfl) ⟨ty, G80, a + 5, cn, (hq60.2.2.2.1 dm : Int), rfl, (by omega), (by omega), s70, (by omega), (by omega), (by omega), (by omega), (by omega), (by omega), (by omega), hpc79⟩
                · refine gy_icF rfl (by decide) (by decide) (by omega) (by omega) hc72 ?_
                  refine gz_s 2 (pc' := 140) (L' := [some (.ref x), some (.int (zi m)), some (.int (zi a)), some (.int (zi n)), some (.int (zi zq1)), some (.int (zi jn13v0)), some (.int (zi zq37)), some (.int (zi zq60)), none, none]) (S' := [.int (zi 64), .int (zi zq60)]) rfl ?_
                  by_cases hc81 : (zq60 : Int) ≤ 64
                  · refine gy_icT (pc' := 147) rfl (by decide) (by decide) (by omega) (by omega) hc81 ?_
                    refine gz_s 1 (pc' := 149) (L' := [some (.ref x), some (.int (zi m)), some (.int (zi a)), some (.int (zi n)), some (.int (zi zq1)), some (.int (zi jn13v0)), some (.int (zi zq37)), some (.int (zi zq60)), none, none]) (S' := [.int (zi jn13v0)]) rfl ?_
                    refine gy_ifF rfl (by decide) (by decide) (by omega) (by first | (simp [zc]; done) | (simp only [zc]; omega)) ?_
                    refine gy_s 3 (pc' := 156) (L' := [some (.ref x), some (.int (zi m)), some (.int (zi a)), some (.int (zi n)), some (.int (zi zq1)), some (.int (zi jn13v0)), some (.int (zi zq37)), some (.int (zi zq60)), none, none]) (S' := [.int ((zi a) + (zi 7))]) (L2 := [some (.ref x), some (.int (zi m)), some (.int (zi a)), some (.int (zi n)), some (.int (zi zq1)), some (.int (zi jn13v0)), some (.int (zi zq37)), some (.int (zi zq60)), none, none]) (S2 := [.int (zi (a + 7))]) rfl (by simp only [zi_add, zi_sub, zi_mul, zi_neg, zi_and1, zi_and7, zi_and15, zi_and31, zi_and255, Int.reduceAdd, Int.reduceMul, Int.reduceSub]) (by simp only [zi_add, zi_sub, zi_mul, zi_neg, zi_and1, zi_and7, zi_and15, zi_and31, zi_and255, Int.reduceAdd, Int.reduceMul, Int.reduceSub]) ?_
                    have k82 := sq60.2.1
                    have k82b := sq60.2.2.1
                    have hl83 : hq60.2.2.2.1 co = h.2.2.2.1 co := congrFun sq60.2.2.2.2.1 co
                    have hl84 : hq60.2.2.2.1 dm = h.2.2.2.1 dm := congrFun sq60.2.2.2.2.1 dm
                    have k85 := sq60.2.1
                    have k85b := sq60.2.2.1
                    have hl86 : hq60.2.2.2.1 co = h.2.2.2.1 co := congrFun sq60.2.2.2.2.1 co
                    have hl87 : hq60.2.2.2.1 dm = h.2.2.2.1 dm := congrFun sq60.2.2.2.2.1 dm
                    have hpc88 : gPC ty pic b0 b1 b2 (hq60.2.2.2.1 dm : Int) hq60 := gPC.zero sq60.1 tpic s63 tbn s64 tb0 s65 tb1 s66 tb2 s67 tco s68 tdm (by rw [(by omega : (0 : Int) = cn)]; exact s70) bl s71 (by omega) (by omega) (by omega) (by omega) (by omega)
                    have G89 : gSg [112, 113] [] [54002, 54003, 54004, 54005, 54006, 54007, 54008, 54010, 54011, 54012, 54013, 82000, 82001, 82002, 82003, 82004, 82005, 82006, 82007, 82008, 83000, 83001, 83002, 83003, 83004, 83005, 83006, 83007, 83008, 84000, 84001, 84002, 84003, 84004, 84005, 84006, 84007, 84008, 112999, 113999] ty h ty hq60 := gSg.ss G0 sq60 (by decide)
                    exact gz_end (I := .ireturn) (len := 1) rfl (Or.inl rfl) ⟨ty, G89, a + 7, cn, (hq60.2.2.2.1 dm : Int), rfl, (by omega), (by omega), s70, (by omega), (by omega), (by omega), (by omega), (by omega), (by omega), (by omega), hpc88⟩
                  · refine gy_icF rfl (by decide) (by decide) (by omega) (by omega) hc81 ?_
                    refine gy_s 3 (pc' := 146) (L' := [some (.ref x), some (.int (zi m)), some (.int (zi a)), some (.int (zi n)), some (.int (zi zq1)), some (.int (zi jn13v0)), some (.int (zi zq37)), some (.int (zi zq60)), none, none]) (S' := [.int ((zi a) + (zi 5))]) (L2 := [some (.ref x), some (.int (zi m)), some (.int (zi a)), some (.int (zi n)), some (.int (zi zq1)), some (.int (zi jn13v0)), some (.int (zi zq37)), some (.int (zi zq60)), none, none]) (S2 := [.int (zi (a + 5))]) rfl (by simp only [zi_add, zi_sub, zi_mul, zi_neg, zi_and1, zi_and7, zi_and15, zi_and31, zi_and255, Int.reduceAdd, Int.reduceMul, Int.reduceSub]) (by simp only [zi_add, zi_sub, zi_mul, zi_neg, zi_and1, zi_and7, zi_and15, zi_and31, zi_and255, Int.reduceAdd, Int.reduceMul, Int.reduceSub]) ?_
                    have k90 := sq60.2.1
                    have k90b := sq60.2.2.1
                    have hl91 : hq60.2.2.2.1 co = h.2.2.2.1 co := congrFun sq60.2.2.2.2.1 co
                    have hl92 : hq60.2.2.2.1 dm = h.2.2.2.1 dm := congrFun sq60.2.2.2.2.1 dm
                    have k93 := sq60.2.1
                    have k93b := sq60.2.2.1
                    have hl94 : hq60.2.2.2.1 co = h.2.2.2.1 co := congrFun sq60.2.2.2.2.1 co
                    have hl95 : hq60.2.2.2.1 dm = h.2.2.2.1 dm := congrFun sq60.2.2.2.2.1 dm
                    have hpc96 : gPC ty pic b0 b1 b2 (hq60.2.2.2.1 dm : Int) hq60 := gPC.zero sq60.1 tpic s63 tbn s64 tb0 s65 tb1 s66 tb2 s67 tco s68 tdm (by rw [(by omega : (0 : Int) = cn)]; exact s70) bl s71 (by omega) (by omega) (by omega) (by omega) (by omega)
                    have G97 : gSg [112, 113] [] [54002, 54003, 54004, 54005, 54006, 54007, 54008, 54010, 54011, 54012, 54013, 82000, 82001, 82002, 82003, 82004, 82005, 82006, 82007, 82008, 83000, 83001, 83002, 83003, 83004, 83005, 83006, 83007, 83008, 84000, 84001, 84002, 84003, 84004, 84005, 84006, 84007, 84008, 112999, 113999] ty h ty hq60 := gSg.ss G0 sq60 (by decide)
                    exact gz_end (I := .ireturn) (len := 1) rfl (Or.inl rfl) ⟨ty, G97, a + 5, cn, (hq60.2.2.2.1 dm : Int), rfl, (by omega), (by omega), s70, (by omega), (by omega), (by omega), (by omega), (by omega), (by omega), (by omega), hpc96⟩
              · refine gy_icF rfl (by decide) (by decide) (by omega) (by omega) hc59 ?_
                refine gy_s 3 (pc' := 117) (L' := [some (.ref x), some (.int (zi m)), some (.int (zi a)), some (.int (zi n)), some (.int (zi zq1)), some (.int (zi jn13v0)), some (.int (zi zq37)), none, none, none]) (S' := [.int ((zi a) + (zi 3))]) (L2 := [some (.ref x), some (.int (zi m)), some (.int (zi a)), some (.int (zi n)), some (.int (zi zq1)), some (.int (zi jn13v0)), some (.int (zi zq37)), none, none, none]) (S2 := [.int (zi (a + 3))]) rfl (by simp only [zi_add, zi_sub, zi_mul, zi_neg, zi_and1, zi_and7, zi_and15, zi_and31, zi_and255, Int.reduceAdd, Int.reduceMul, Int.reduceSub]) (by simp only [zi_add, zi_sub, zi_mul, zi_neg, zi_and1, zi_and7, zi_and15, zi_and31, zi_and255, Int.reduceAdd, Int.reduceMul, Int.reduceSub]) ?_
                have k98 := sq37.2.1
                have k98b := sq37.2.2.1
                have hl99 : hq37.2.2.2.1 co = h.2.2.2.1 co := congrFun sq37.2.2.2.2.1 co
                have hl100 : hq37.2.2.2.1 dm = h.2.2.2.1 dm := congrFun sq37.2.2.2.2.1 dm
                have k101 := sq37.2.1
                have k101b := sq37.2.2.1
                have hl102 : hq37.2.2.2.1 co = h.2.2.2.1 co := congrFun sq37.2.2.2.2.1 co
                have hl103 : hq37.2.2.2.1 dm = h.2.2.2.1 dm := congrFun sq37.2.2.2.2.1 dm
                have hpc104 : gPC ty pic b0 b1 b2 (hq37.2.2.2.1 dm : Int) hq37 := gPC.zero sq37.1 tpic s40 tbn s41 tb0 s42 tb1 s43 tb2 s44 tco s45 tdm (by rw [(by omega : (0 : Int) = cn)]; exact s47) bl s48 (by omega) (by omega) (by omega) (by omega) (by omega)
                have G105 : gSg [112, 113] [] [54002, 54003, 54004, 54005, 54006, 54007, 54008, 54010, 54011, 54012, 54013, 82000, 82001, 82002, 82003, 82004, 82005, 82006, 82007, 82008, 83000, 83001, 83002, 83003, 83004, 83005, 83006, 83007, 83008, 84000, 84001, 84002, 84003, 84004, 84005, 84006, 84007, 84008, 112999, 113999] ty h ty hq37 := gSg.ss G0 sq37 (by decide)
                exact gz_end (I := .ireturn) (len := 1) rfl (Or.inl rfl) ⟨ty, G105, a + 3, cn, (hq37.2.2.2.1 dm : Int), rfl, (by omega), (by omega), s47, (by omega), (by omega), (by omega), (by omega), (by omega), (by omega), (by omega), hpc104⟩
          · refine gy_ifF rfl (by decide) (by decide) (by omega) hc49 ?_
            refine gy_s 4 (pc' := 96) (L' := [some (.ref x), some (.int (zi m)), some (.int (zi a)), some (.int (zi n)), some (.int (zi zq1)), some (.int (zi jn13v0)), some (.int (zi zq37)), none, none, none]) (S' := [.int ((zi a) + (zi 5)), .ref x]) (L2 := [some (.ref x), some (.int (zi m)), some (.int (zi a)), some (.int (zi n)), some (.int (zi zq1)), some (.int (zi jn13v0)), some (.int (zi zq37)), none, none, none]) (S2 := [.int (zi (a + 5)), .ref x]) rfl (by simp only [zi_add, zi_sub, zi_mul, zi_neg, zi_and1, zi_and7, zi_and15, zi_and31, zi_and255, Int.reduceAdd, Int.reduceMul, Int.reduceSub]) (by simp only [zi_add, zi_sub, zi_mul, zi_neg, zi_and1, zi_and7, zi_and15, zi_and31, zi_and255, Int.reduceAdd, Int.reduceMul, Int.reduceSub]) ?_
            refine gz_call rfl (by decide) rfl (by decide) (by decide) (gcal_of rfl rfl rfl (Nat.le_of_ble_eq_true rfl) (gJ.recv (G := gGG) sq37.1 tx rfl rfl)) (cl_Reader_heightBehind _ sq37.1 x tx (a + 5) (by omega) src s38 tsrc sz s46 (by omega) uq) (fun q106 _ wq106 => ?_)
            obtain ⟨pq106, oq106, hq106⟩ := q106
            obtain ⟨xq106, zq106, gq106, aq106, bq106⟩ := wq106
            refine ⟨_, gq106, ?_⟩
            show gz gPP gGG gcn _ _ 99 [some (.ref x), some (.int (zi m)), some (.int (zi a)), some (.int (zi n)), some (.int (zi zq1)), some (.int (zi jn13v0)), some (.int (zi zq37)), none, none, none] [.int (zi zq106)] hq106 _
            have sq106 : gSs rT 1027 ty [54002, 54003, 54004, 54005, 54006, 54007, 54008, 54010, 54011, 54012, 54013, 82000, 82001, 82002, 82003, 82004, 82005, 82006, 82007, 82008, 83000, 83001, 83002, 83003, 83004, 83005, 83006, 83007, 83008, 84000, 84001, 84002, 84003, 84004, 84005, 84006, 84007, 84008, 112999, 113999] h hq106 := gSs.tr sq37 xq106 (by decide)
            have s107 := (xq106.2.2.2.2.2 x 0 (by rw [tx]; decide)).trans s38
            have s108 := (xq106.2.2.2.2.2 x 1 (by rw [tx]; decide)).trans s39
            have s109 := (xq106.2.2.2.2.2 pic 0 (by rw [tpic]; decide)).trans s40
            have s110 := (xq106.2.2.2.2.2 bn 0 (by rw [tbn]; decide)).trans s41
            have s111 := (xq106.2.2.2.2.2 bn 1 (by rw [tbn]; decide)).trans s42
            have s112 := (xq106.2.2.2.2.2 bn 2 (by rw [tbn]; decide)).trans s43
            have s113 := (xq106.2.2.2.2.2 pic 2 (by rw [tpic]; decide)).trans s44
            have s114 := (xq106.2.2.2.2.2 pic 3 (by rw [tpic]; decide)).trans s45
            have s115 := (xq106.2.2.2.2.2 src 1 (by rw [tsrc]; decide)).trans s46
            have s116 := (xq106.2.2.2.2.2 pic 7 (by rw [tpic]; decide)).trans s47
            have s117 := (xq106.2.2.2.2.2 pic 8 (by rw [tpic]; decide)).trans s48
            refine gz_s 3 (pc' := 104) (L' := [some (.ref x), some (.int (zi m)), some (.int (zi a)), some (.int (zi n)), some (.int (zi zq1)), some (.int (zi jn13v0)), some (.int (zi zq106)), none, none, none]) (S' := [.int (zi 1), .int (zi zq106)]) rfl ?_
            by_cases hc118 : (zq106 : Int) < 1
            · refine gy_icT (pc' := 114) rfl (by decide) (by decide) (by omega) (by omega) hc118 ?_
              refine gy_s 3 (pc' := 117) (L' := [some (.ref x), some (.int (zi m)), some (.int (zi a)), some (.int (zi n)), some (.int (zi zq1)), some (.int (zi jn13v0)), some (.int (zi zq106)), none, none, none]) (S' := [.int ((zi a) + (zi 3))]) (L2 := [some (.ref x), some (.int (zi m)), some (.int (zi a)), some (.int (zi n)), some (.int (zi zq1)), some (.int (zi jn13v0)), some (.int (zi zq106)), none, none, none]) (S2 := [.int (zi (a + 3))]) rfl (by simp only [zi_add, zi_sub, zi_mul, zi_neg, zi_and1, zi_and7, zi_and15, zi_and31, zi_and255, Int.reduceAdd, Int.reduceMul, Int.reduceSub]) (by simp only [zi_add, zi_sub, zi_mul, zi_neg, zi_and1, zi_and7, zi_and15, zi_and31, zi_and255, Int.reduceAdd, Int.reduceMul, Int.reduceSub]) ?_
              have k119 := sq106.2.1
              have k119b := sq106.2.2.1
              have hl120 : hq106.2.2.2.1 co = h.2.2.2.1 co := congrFun sq106.2.2.2.2.1 co
              have hl121 : hq106.2.2.2.1 dm = h.2.2.2.1 dm := congrFun sq106.2.2.2.2.1 dm
              have k122 := sq106.2.1
              have k122b := sq106.2.2.1
              have hl123 : hq106.2.2.2.1 co = h.2.2.2.1 co := congrFun sq106.2.2.2.2.1 co
              have hl124 : hq106.2.2.2.1 dm = h.2.2.2.1 dm := congrFun sq106.2.2.2.2.1 dm
              have hpc125 : gPC ty pic b0 b1 b2 (hq106.2.2.2.1 dm : Int) hq106 := gPC.zero sq106.1 tpic s109 tbn s110 tb0 s111 tb1 s112 tb2 s113 tco s114 tdm (by rw [(by omega : (0 : Int) = cn)]; exact s116) bl s117 (by omega) (by omega) (by omega) (by omega) (by omega)
              have G126 : gSg [112, 113] [] [54002, 54003, 54004, 54005, 54006, 54007, 54008, 54010, 54011, 54012, 54013, 82000, 82001, 82002, 82003, 82004, 82005, 82006, 82007, 82008, 83000, 83001, 83002, 83003, 83004, 83005, 83006, 83007, 83008, 84000, 84001, 84002, 84003, 84004, 84005, 84006, 84007, 84008, 112999, 113999] ty h ty hq106 := gSg.ss G0 sq106 (by decide)
              exact gz_end (I := .ireturn) (len := 1) rfl (Or.inl rfl) ⟨ty, G126, a + 3, cn, (hq106.2.2.2.1 dm : Int), rfl, (by omega), (by omega), s116, (by omega), (by omega), (by omega), (by omega), (by omega), (by omega), (by omega), hpc125⟩
            · refine gy_icF rfl (by decide) (by decide) (by omega) (by omega) hc118 ?_
              refine gz_s 2 (pc' := 111) (L' := [some (.ref x), some (.int (zi m)), some (.int (zi a)), some (.int (zi n)), some (.int (zi zq1)), some (.int (zi jn13v0)), some (.int (zi zq106)), none, none, none]) (S' := [.int (zi 64), .int (zi zq106)]) rfl ?_
              by_cases hc127 : (zq106 : Int) ≤ 64
              · refine gy_icT (pc' := 118) rfl (by decide) (by decide) (by omega) (by omega) hc127 ?_
                refine gz_s 1 (pc' := 119) (L' := [some (.ref x), some (.int (zi m)), some (.int (zi a)), some (.int (zi n)), some (.int (zi zq1)), some (.int (zi jn13v0)), some (.int (zi zq106)), none, none, none]) (S' := [.ref x]) rfl ?_
                refine gs_gtk rfl (by decide) rfl sq106.1 tx rfl rfl s107 ?_
                refine gy_s 3 (pc' := 125) (L' := [some (.ref x), some (.int (zi m)), some (.int (zi a)), some (.int (zi n)), some (.int (zi zq1)), some (.int (zi jn13v0)), some (.int (zi zq106)), none, none, none]) (S' := [.int ((zi a) + (zi 5)), .ref src]) (L2 := [some (.ref x), some (.int (zi m)), some (.int (zi a)), some (.int (zi n)), some (.int (zi zq1)), some (.int (zi jn13v0)), some (.int (zi zq106)), none, none, none]) (S2 := [.int (zi (a + 5)), .ref src]) rfl (by simp only [zi_add, zi_sub, zi_mul, zi_neg, zi_and1, zi_and7, zi_and15, zi_and31, zi_and255, Int.reduceAdd, Int.reduceMul, Int.reduceSub]) (by simp only [zi_add, zi_sub, zi_mul, zi_neg, zi_and1, zi_and7, zi_and15, zi_and31, zi_and255, Int.reduceAdd, Int.reduceMul, Int.reduceSub]) ?_
                refine gz_call rfl (by decide) rfl (by decide) (by decide) (gcal_of rfl rfl rfl (Nat.le_of_ble_eq_true rfl) (gJ.recv (G := gGG) sq106.1 tsrc rfl rfl)) (cl_Collected_twoAt _ sq106.1 src tsrc (a + 5) (by omega) sz s115 (by omega) uq) (fun q128 _ wq128 => ?_)
                obtain ⟨pq128, oq128, hq128⟩ := q128
                obtain ⟨xq128, zq128, gq128, aq128, bq128, uq128_0⟩ := wq128
                refine ⟨_, gq128, ?_⟩
                show gz gPP gGG gcn _ _ 128 [some (.ref x), some (.int (zi m)), some (.int (zi a)), some (.int (zi n)), some (.int (zi zq1)), some (.int (zi jn13v0)), some (.int (zi zq106)), none, none, none] [.int (zi zq128)] hq128 _
                have sq128 : gSs rT 1027 ty [54002, 54003, 54004, 54005, 54006, 54007, 54008, 54010, 54011, 54012, 54013, 82000, 82001, 82002, 82003, 82004, 82005, 82006, 82007, 82008, 83000, 83001, 83002, 83003, 83004, 83005, 83006, 83007, 83008, 84000, 84001, 84002, 84003, 84004, 84005, 84006, 84007, 84008, 112999, 113999] h hq128 := gSs.tr sq106 xq128 (by decide)
                have s129 := (xq128.2.2.2.2.2 x 0 (by rw [tx]; decide)).trans s107
                have s130 := (xq128.2.2.2.2.2 x 1 (by rw [tx]; decide)).trans s108
                have s131 := (xq128.2.2.2.2.2 pic 0 (by rw [tpic]; decide)).trans s109
                have s132 := (xq128.2.2.2.2.2 bn 0 (by rw [tbn]; decide)).trans s110
                have s133 := (xq128.2.2.2.2.2 bn 1 (by rw [tbn]; decide)).trans s111
                have s134 := (xq128.2.2.2.2.2 bn 2 (by rw [tbn]; decide)).trans s112
                have s135 := (xq128.2.2.2.2.2 pic 2 (by rw [tpic]; decide)).trans s113
                have s136 := (xq128.2.2.2.2.2 pic 3 (by rw [tpic]; decide)).trans s114
                have s137 := (xq128.2.2.2.2.2 src 1 (by rw [tsrc]; decide)).trans s115
                have s138 := (xq128.2.2.2.2.2 pic 7 (by rw [tpic]; decide)).trans s116
                have s139 := (xq128.2.2.2.2.2 pic 8 (by rw [tpic]; decide)).trans s117
                refine gz_s 3 (pc' := 133) (L' := [some (.ref x), some (.int (zi m)), some (.int (zi a)), some (.int (zi n)), some (.int (zi zq1)), some (.int (zi jn13v0)), some (.int (zi zq106)), some (.int (zi zq128)), none, none]) (S' := [.int (zi 1), .int (zi zq128)]) rfl ?_
                by_cases hc140 : (zq128 : Int) < 1
                · refine gy_icT (pc' := 143) rfl (by decide) (by decide) (by omega) (by omega) hc140 ?_
                  refine gy_s 3 (pc' := 146) (L' := [some (.ref x), some (.int (zi m)), some (.int (zi a)), some (.int (zi n)), some (.int (zi zq1)), some (.int (zi jn13v0)), some (.int (zi zq106)), some (.int (zi zq128)), none, none]) (S' := [.int ((zi a) + (zi 5))]) (L2 := [some (.ref x), some (.int (zi m)), some (.int (zi a)), some (.int (zi n)), some (.int (zi zq1)), some (.int (zi jn13v0)), some (.int (zi zq106)), some (.int (zi zq128)), none, none]) (S2 := [.int (zi (a + 5))]) rfl (by simp only [zi_add, zi_sub, zi_mul, zi_neg, zi_and1, zi_and7, zi_and15, zi_and31, zi_and255, Int.reduceAdd, Int.reduceMul, Int.reduceSub]) (by simp only [zi_add, zi_sub, zi_mul, zi_neg, zi_and1, zi_and7, zi_and15, zi_and31, zi_and255, Int.reduceAdd, Int.reduceMul, Int.reduceSub]) ?_
                  have k141 := sq128.2.1
                  have k141b := sq128.2.2.1
                  have hl142 : hq128.2.2.2.1 co = h.2.2.2.1 co := congrFun sq128.2.2.2.2.1 co
                  have hl143 : hq128.2.2.2.1 dm = h.2.2.2.1 dm := congrFun sq128.2.2.2.2.1 dm
                  have k144 := sq128.2.1
                  have k144b := sq128.2.2.1
                  have hl145 : hq128.2.2.2.1 co = h.2.2.2.1 co := congrFun sq128.2.2.2.2.1 co
                  have hl146 : hq128.2.2.2.1 dm = h.2.2.2.1 dm := congrFun sq128.2.2.2.2.1 dm
                  have hpc147 : gPC ty pic b0 b1 b2 (hq128.2.2.2.1 dm : Int) hq128 := gPC.zero sq128.1 tpic s131 tbn s132 tb0 s133 tb1 s134 tb2 s135 tco s136 tdm (by rw [(by omega : (0 : Int) = cn)]; exact s138) bl s139 (by omega) (by omega) (by omega) (by omega) (by omega)
                  have G148 : gSg [112, 113] [] [54002, 54003, 54004, 54005, 54006, 54007, 54008, 54010, 54011, 54012, 54013, 82000, 82001, 82002, 82003, 82004, 82005, 82006, 82007, 82008, 83000, 83001, 83002, 83003, 83004, 83005, 83006, 83007, 83008, 84000, 84001, 84002, 84003, 84004, 84005, 84006, 84007, 84008, 112999, 113999] ty h ty hq128 := gSg.ss G0 sq128 (by decide)
                  exact gz_end (I := .ireturn) (len := 1) rfl (Or.inl rfl) ⟨ty, G148, a + 5, cn, (hq128.2.2.2.1 dm : Int), rfl, (by omega), (by omega), s138, (by omega), (by omega), (by omega), (by omega), (by omega), (by omega), (by omega), hpc147⟩
                · refine gy_icF rfl (by decide) (by decide) (by omega) (by omega) hc140 ?_
                  refine gz_s 2 (pc' := 140) (L' := [some (.ref x), some (.int (zi m)), some (.int (zi a)), some (.int (zi n)), some (.int (zi zq1)), some (.int (zi jn13v0)), some (.int (zi zq106)), some (.int (zi zq128)), none, none]) (S' := [.int (zi 64), .int (zi zq128)]) rfl ?_
                  by_cases hc149 : (zq128 : Int) ≤ 64
                  · refine gy_icT (pc' := 147) rfl (by decide) (by decide) (by omega) (by omega) hc149 ?_
                    refine gz_s 1 (pc' := 149) (L' := [some (.ref x), some (.int (zi m)), some (.int (zi a)), some (.int (zi n)), some (.int (zi zq1)), some (.int (zi jn13v0)), some (.int (zi zq106)), some (.int (zi zq128)), none, none]) (S' := [.int (zi jn13v0)]) rfl ?_
                    refine gy_ifF rfl (by decide) (by decide) (by omega) (by first | (simp [zc]; done) | (simp only [zc]; omega)) ?_
                    refine gy_s 3 (pc' := 156) (L' := [some (.ref x), some (.int (zi m)), some (.int (zi a)), some (.int (zi n)), some (.int (zi zq1)), some (.int (zi jn13v0)), some (.int (zi zq106)), some (.int (zi zq128)), none, none]) (S' := [.int ((zi a) + (zi 7))]) (L2 := [some (.ref x), some (.int (zi m)), some (.int (zi a)), some (.int (zi n)), some (.int (zi zq1)), some (.int (zi jn13v0)), some (.int (zi zq106)), some (.int (zi zq128)), none, none]) (S2 := [.int (zi (a + 7))]) rfl (by simp only [zi_add, zi_sub, zi_mul, zi_neg, zi_and1, zi_and7, zi_and15, zi_and31, zi_and255, Int.reduceAdd, Int.reduceMul, Int.reduceSub]) (by simp only [zi_add, zi_sub, zi_mul, zi_neg, zi_and1, zi_and7, zi_and15, zi_and31, zi_and255, Int.reduceAdd, Int.reduceMul, Int.reduceSub]) ?_
                    have k150 := sq128.2.1
                    have k150b := sq128.2.2.1
                    have hl151 : hq128.2.2.2.1 co = h.2.2.2.1 co := congrFun sq128.2.2.2.2.1 co
                    have hl152 : hq128.2.2.2.1 dm = h.2.2.2.1 dm := congrFun sq128.2.2.2.2.1 dm
                    have k153 := sq128.2.1
                    have k153b := sq128.2.2.1
                    have hl154 : hq128.2.2.2.1 co = h.2.2.2.1 co := congrFun sq128.2.2.2.2.1 co
                    have hl155 : hq128.2.2.2.1 dm = h.2.2.2.1 dm := congrFun sq128.2.2.2.2.1 dm
                    have hpc156 : gPC ty pic b0 b1 b2 (hq128.2.2.2.1 dm : Int) hq128 := gPC.zero sq128.1 tpic s131 tbn s132 tb0 s133 tb1 s134 tb2 s135 tco s136 tdm (by rw [(by omega : (0 : Int) = cn)]; exact s138) bl s139 (by omega) (by omega) (by omega) (by omega) (by omega)
                    have G157 : gSg [112, 113] [] [54002, 54003, 54004, 54005, 54006, 54007, 54008, 54010, 54011, 54012, 54013, 82000, 82001, 82002, 82003, 82004, 82005, 82006, 82007, 82008, 83000, 83001, 83002, 83003, 83004, 83005, 83006, 83007, 83008, 84000, 84001, 84002, 84003, 84004, 84005, 84006, 84007, 84008, 112999, 113999] ty h ty hq128 := gSg.ss G0 sq128 (by decide)
                    exact gz_end (I := .ireturn) (len := 1) rfl (Or.inl rfl) ⟨ty, G157, a + 7, cn, (hq128.2.2.2.1 dm : Int), rfl, (by omega), (by omega), s138, (by omega), (by omega), (by omega), (by omega), (by omega), (by omega), (by omega), hpc156⟩
                  · refine gy_icF rfl (by decide) (by decide) (by omega) (by omega) hc149 ?_
                    refine gy_s 3 (pc' := 146) (L' := [some (.ref x), some (.int (zi m)), some (.int (zi a)), some (.int (zi n)), some (.int (zi zq1)), some (.int (zi jn13v0)), some (.int (zi zq106)), some (.int (zi zq128)), none, none]) (S' := [.int ((zi a) + (zi 5))]) (L2 := [some (.ref x), some (.int (zi m)), some (.int (zi a)), some (.int (zi n)), some (.int (zi zq1)), some (.int (zi jn13v0)), some (.int (zi zq106)), some (.int (zi zq128)), none, none]) (S2 := [.int (zi (a + 5))]) rfl (by simp only [zi_add, zi_sub, zi_mul, zi_neg, zi_and1, zi_and7, zi_and15, zi_and31, zi_and255, Int.reduceAdd, Int.reduceMul, Int.reduceSub]) (by simp only [zi_add, zi_sub, zi_mul, zi_neg, zi_and1, zi_and7, zi_and15, zi_and31, zi_and255, Int.reduceAdd, Int.reduceMul, Int.reduceSub]) ?_
                    have k158 := sq128.2.1
                    have k158b := sq128.2.2.1
                    have hl159 : hq128.2.2.2.1 co = h.2.2.2.1 co := congrFun sq128.2.2.2.2.1 co
                    have hl160 : hq128.2.2.2.1 dm = h.2.2.2.1 dm := congrFun sq128.2.2.2.2.1 dm
                    have k161 := sq128.2.1
                    have k161b := sq128.2.2.1
                    have hl162 : hq128.2.2.2.1 co = h.2.2.2.1 co := congrFun sq128.2.2.2.2.1 co
                    have hl163 : hq128.2.2.2.1 dm = h.2.2.2.1 dm := congrFun sq128.2.2.2.2.1 dm
                    have hpc164 : gPC ty pic b0 b1 b2 (hq128.2.2.2.1 dm : Int) hq128 := gPC.zero sq128.1 tpic s131 tbn s132 tb0 s133 tb1 s134 tb2 s135 tco s136 tdm (by rw [(by omega : (0 : Int) = cn)]; exact s138) bl s139 (by omega) (by omega) (by omega) (by omega) (by omega)
                    have G165 : gSg [112, 113] [] [54002, 54003, 54004, 54005, 54006, 54007, 54008, 54010, 54011, 54012, 54013, 82000, 82001, 82002, 82003, 82004, 82005, 82006, 82007, 82008, 83000, 83001, 83002, 83003, 83004, 83005, 83006, 83007, 83008, 84000, 84001, 84002, 84003, 84004, 84005, 84006, 84007, 84008, 112999, 113999] ty h ty hq128 := gSg.ss G0 sq128 (by decide)
                    exact gz_end (I := .ireturn) (len := 1) rfl (Or.inl rfl) ⟨ty, G165, a + 5, cn, (hq128.2.2.2.1 dm : Int), rfl, (by omega), (by omega), s138, (by omega), (by omega), (by omega), (by omega), (by omega), (by omega), (by omega), hpc164⟩
              · refine gy_icF rfl (by decide) (by decide) (by omega) (by omega) hc127 ?_
                refine gy_s 3 (pc' := 117) (L' := [some (.ref x), some (.int (zi m)), some (.int (zi a)), some (.int (zi n)), some (.int (zi zq1)), some (.int (zi jn13v0)), some (.int (zi zq106)), none, none, none]) (S' := [.int ((zi a) + (zi 3))]) (L2 := [some (.ref x), some (.int (zi m)), some (.int (zi a)), some (.int (zi n)), some (.int (zi zq1)), some (.int (zi jn13v0)), some (.int (zi zq106)), none, none, none]) (S2 := [.int (zi (a + 3))]) rfl (by simp only [zi_add, zi_sub, zi_mul, zi_neg, zi_and1, zi_and7, zi_and15, zi_and31, zi_and255, Int.reduceAdd, Int.reduceMul, Int.reduceSub]) (by simp only [zi_add, zi_sub, zi_mul, zi_neg, zi_and1, zi_and7, zi_and15, zi_and31, zi_and255, Int.reduceAdd, Int.reduceMul, Int.reduceSub]) ?_
                have k166 := sq106.2.1
                have k166b := sq106.2.2.1
                have hl167 : hq106.2.2.2.1 co = h.2.2.2.1 co := congrFun sq106.2.2.2.2.1 co
                have hl168 : hq106.2.2.2.1 dm = h.2.2.2.1 dm := congrFun sq106.2.2.2.2.1 dm
                have k169 := sq106.2.1
                have k169b := sq106.2.2.1
                have hl170 : hq106.2.2.2.1 co = h.2.2.2.1 co := congrFun sq106.2.2.2.2.1 co
                have hl171 : hq106.2.2.2.1 dm = h.2.2.2.1 dm := congrFun sq106.2.2.2.2.1 dm
                have hpc172 : gPC ty pic b0 b1 b2 (hq106.2.2.2.1 dm : Int) hq106 := gPC.zero sq106.1 tpic s109 tbn s110 tb0 s111 tb1 s112 tb2 s113 tco s114 tdm (by rw [(by omega : (0 : Int) = cn)]; exact s116) bl s117 (by omega) (by omega) (by omega) (by omega) (by omega)
                have G173 : gSg [112, 113] [] [54002, 54003, 54004, 54005, 54006, 54007, 54008, 54010, 54011, 54012, 54013, 82000, 82001, 82002, 82003, 82004, 82005, 82006, 82007, 82008, 83000, 83001, 83002, 83003, 83004, 83005, 83006, 83007, 83008, 84000, 84001, 84002, 84003, 84004, 84005, 84006, 84007, 84008, 112999, 113999] ty h ty hq106 := gSg.ss G0 sq106 (by decide)
                exact gz_end (I := .ireturn) (len := 1) rfl (Or.inl rfl) ⟨ty, G173, a + 3, cn, (hq106.2.2.2.1 dm : Int), rfl, (by omega), (by omega), s116, (by omega), (by omega), (by omega), (by omega), (by omega), (by omega), (by omega), hpc172⟩
        · refine gy_icF rfl (by decide) (by decide) (by omega) (by omega) hc36 ?_
          refine gy_s 3 (pc' := 74) (L' := [some (.ref x), some (.int (zi m)), some (.int (zi a)), some (.int (zi n)), some (.int (zi zq1)), some (.int (zi jn13v0)), none, none, none, none]) (S' := [.int ((zi a) + (zi 2))]) (L2 := [some (.ref x), some (.int (zi m)), some (.int (zi a)), some (.int (zi n)), some (.int (zi zq1)), some (.int (zi jn13v0)), none, none, none, none]) (S2 := [.int (zi (a + 2))]) rfl (by simp only [zi_add, zi_sub, zi_mul, zi_neg, zi_and1, zi_and7, zi_and15, zi_and31, zi_and255, Int.reduceAdd, Int.reduceMul, Int.reduceSub]) (by simp only [zi_add, zi_sub, zi_mul, zi_neg, zi_and1, zi_and7, zi_and15, zi_and31, zi_and255, Int.reduceAdd, Int.reduceMul, Int.reduceSub]) ?_
          have k174 := sq24.2.1
          have k174b := sq24.2.2.1
          have hl175 : hq24.2.2.2.1 co = h.2.2.2.1 co := congrFun sq24.2.2.2.2.1 co
          have hl176 : hq24.2.2.2.1 dm = h.2.2.2.1 dm := congrFun sq24.2.2.2.2.1 dm
          have k177 := sq24.2.1
          have k177b := sq24.2.2.1
          have hl178 : hq24.2.2.2.1 co = h.2.2.2.1 co := congrFun sq24.2.2.2.2.1 co
          have hl179 : hq24.2.2.2.1 dm = h.2.2.2.1 dm := congrFun sq24.2.2.2.2.1 dm
          have hpc180 : gPC ty pic b0 b1 b2 (hq24.2.2.2.1 dm : Int) hq24 := gPC.zero sq24.1 tpic s27 tbn s28 tb0 s29 tb1 s30 tb2 s31 tco s32 tdm (by rw [(by omega : (0 : Int) = cn)]; exact s34) bl s35 (by omega) (by omega) (by omega) (by omega) (by omega)
          have G181 : gSg [112, 113] [] [54002, 54003, 54004, 54005, 54006, 54007, 54008, 54010, 54011, 54012, 54013, 82000, 82001, 82002, 82003, 82004, 82005, 82006, 82007, 82008, 83000, 83001, 83002, 83003, 83004, 83005, 83006, 83007, 83008, 84000, 84001, 84002, 84003, 84004, 84005, 84006, 84007, 84008, 112999, 113999] ty h ty hq24 := gSg.ss G0 sq24 (by decide)
          exact gz_end (I := .ireturn) (len := 1) rfl (Or.inl rfl) ⟨ty, G181, a + 2, cn, (hq24.2.2.2.1 dm : Int), rfl, (by omega), (by omega), s34, (by omega), (by omega), (by omega), (by omega), (by omega), (by omega), (by omega), hpc180⟩
      · refine gy_ifF rfl (by decide) (by decide) (by omega) hc23 ?_
        refine gy_s 6 (pc' := 51) (L' := [some (.ref x), some (.int (zi m)), some (.int (zi a)), some (.int (zi n)), some (.int (zi zq1)), some (.int (zi jn13v0)), none, none, none, none]) (S' := [.int ((zi 8) + ((zi 3) * (zi zq1))), .int (zi n)]) (L2 := [some (.ref x), some (.int (zi m)), some (.int (zi a)), some (.int (zi n)), some (.int (zi zq1)), some (.int (zi jn13v0)), none, none, none, none]) (S2 := [.int (zi (8 + (3 * zq1))), .int (zi n)]) rfl (by simp only [zi_add, zi_sub, zi_mul, zi_neg, zi_and1, zi_and7, zi_and15, zi_and31, zi_and255, Int.reduceAdd, Int.reduceMul, Int.reduceSub]) (by simp only [zi_add, zi_sub, zi_mul, zi_neg, zi_and1, zi_and7, zi_and15, zi_and31, zi_and255, Int.reduceAdd, Int.reduceMul, Int.reduceSub]) ?_
        by_cases hc182 : (n : Int) = 8 + (3 * zq1)
        · refine gy_icT (pc' := 56) rfl (by decide) (by decide) (by omega) (by omega) hc182 ?_
          refine gz_s 1 (pc' := 57) (L' := [some (.ref x), some (.int (zi m)), some (.int (zi a)), some (.int (zi n)), some (.int (zi zq1)), some (.int (zi jn13v0)), none, none, none, none]) (S' := [.ref x]) rfl ?_
          refine gs_gtk rfl (by decide) rfl sq1.1 tx rfl rfl s2 ?_
          refine gy_s 3 (pc' := 63) (L' := [some (.ref x), some (.int (zi m)), some (.int (zi a)), some (.int (zi n)), some (.int (zi zq1)), some (.int (zi jn13v0)), none, none, none, none]) (S' := [.int ((zi a) + (zi 2)), .ref src]) (L2 := [some (.ref x), some (.int (zi m)), some (.int (zi a)), some (.int (zi n)), some (.int (zi zq1)), some (.int (zi jn13v0)), none, none, none, none]) (S2 := [.int (zi (a + 2)), .ref src]) rfl (by simp only [zi_add, zi_sub, zi_mul, zi_neg, zi_and1, zi_and7, zi_and15, zi_and31, zi_and255, Int.reduceAdd, Int.reduceMul, Int.reduceSub]) (by simp only [zi_add, zi_sub, zi_mul, zi_neg, zi_and1, zi_and7, zi_and15, zi_and31, zi_and255, Int.reduceAdd, Int.reduceMul, Int.reduceSub]) ?_
          refine gz_call rfl (by decide) rfl (by decide) (by decide) (gcal_of rfl rfl rfl (Nat.le_of_ble_eq_true rfl) (gJ.recv (G := gGG) sq1.1 tsrc rfl rfl)) (cl_Collected_byteAt _ sq1.1 src tsrc (a + 2) (by omega) sz s10 (by omega) uq) (fun q183 _ wq183 => ?_)
          obtain ⟨pq183, oq183, hq183⟩ := q183
          obtain ⟨xq183, zq183, gq183, aq183, bq183, uq183_0⟩ := wq183
          refine ⟨_, gq183, ?_⟩
          show gz gPP gGG gcn _ _ 66 [some (.ref x), some (.int (zi m)), some (.int (zi a)), some (.int (zi n)), some (.int (zi zq1)), some (.int (zi jn13v0)), none, none, none, none] [.int (zi zq183)] hq183 _
          have sq183 : gSs rT 1027 ty [54002, 54003, 54004, 54005, 54006, 54007, 54008, 54010, 54011, 54012, 54013, 82000, 82001, 82002, 82003, 82004, 82005, 82006, 82007, 82008, 83000, 83001, 83002, 83003, 83004, 83005, 83006, 83007, 83008, 84000, 84001, 84002, 84003, 84004, 84005, 84006, 84007, 84008, 112999, 113999] h hq183 := gSs.tr sq1 xq183 (by decide)
          have s184 := (xq183.2.2.2.2.2 x 0 (by rw [tx]; decide)).trans s2
          have s185 := (xq183.2.2.2.2.2 x 1 (by rw [tx]; decide)).trans s3
          have s186 := (xq183.2.2.2.2.2 pic 0 (by rw [tpic]; decide)).trans s4
          have s187 := (xq183.2.2.2.2.2 bn 0 (by rw [tbn]; decide)).trans s5
          have s188 := (xq183.2.2.2.2.2 bn 1 (by rw [tbn]; decide)).trans s6
          have s189 := (xq183.2.2.2.2.2 bn 2 (by rw [tbn]; decide)).trans s7
          have s190 := (xq183.2.2.2.2.2 pic 2 (by rw [tpic]; decide)).trans s8
          have s191 := (xq183.2.2.2.2.2 pic 3 (by rw [tpic]; decide)).trans s9
          have s192 := (xq183.2.2.2.2.2 src 1 (by rw [tsrc]; decide)).trans s10
          have s193 := (xq183.2.2.2.2.2 pic 7 (by rw [tpic]; decide)).trans s11
          have s194 := (xq183.2.2.2.2.2 pic 8 (by rw [tpic]; decide)).trans s12
          refine gz_s 1 (pc' := 68) (L' := [some (.ref x), some (.int (zi m)), some (.int (zi a)), some (.int (zi n)), some (.int (zi zq1)), some (.int (zi jn13v0)), none, none, none, none]) (S' := [.int (zi 8), .int (zi zq183)]) rfl ?_
          by_cases hc195 : (zq183 : Int) = 8
          · refine gy_icT (pc' := 75) rfl (by decide) (by decide) (by omega) (by omega) hc195 ?_
            refine gz_s 1 (pc' := 76) (L' := [some (.ref x), some (.int (zi m)), some (.int (zi a)), some (.int (zi n)), some (.int (zi zq1)), some (.int (zi jn13v0)), none, none, none, none]) (S' := [.ref x]) rfl ?_
            refine gs_gtk rfl (by decide) rfl sq183.1 tx rfl rfl s184 ?_
            refine gy_s 3 (pc' := 82) (L' := [some (.ref x), some (.int (zi m)), some (.int (zi a)), some (.int (zi n)), some (.int (zi zq1)), some (.int (zi jn13v0)), none, none, none, none]) (S' := [.int ((zi a) + (zi 3)), .ref src]) (L2 := [some (.ref x), some (.int (zi m)), some (.int (zi a)), some (.int (zi n)), some (.int (zi zq1)), some (.int (zi jn13v0)), none, none, none, none]) (S2 := [.int (zi (a + 3)), .ref src]) rfl (by simp only [zi_add, zi_sub, zi_mul, zi_neg, zi_and1, zi_and7, zi_and15, zi_and31, zi_and255, Int.reduceAdd, Int.reduceMul, Int.reduceSub]) (by simp only [zi_add, zi_sub, zi_mul, zi_neg, zi_and1, zi_and7, zi_and15, zi_and31, zi_and255, Int.reduceAdd, Int.reduceMul, Int.reduceSub]) ?_
            refine gz_call rfl (by decide) rfl (by decide) (by decide) (gcal_of rfl rfl rfl (Nat.le_of_ble_eq_true rfl) (gJ.recv (G := gGG) sq183.1 tsrc rfl rfl)) (cl_Collected_twoAt _ sq183.1 src tsrc (a + 3) (by omega) sz s192 (by omega) uq) (fun q196 _ wq196 => ?_)
            obtain ⟨pq196, oq196, hq196⟩ := q196
            obtain ⟨xq196, zq196, gq196, aq196, bq196, uq196_0⟩ := wq196
            refine ⟨_, gq196, ?_⟩
            show gz gPP gGG gcn _ _ 85 [some (.ref x), some (.int (zi m)), some (.int (zi a)), some (.int (zi n)), some (.int (zi zq1)), some (.int (zi jn13v0)), none, none, none, none] [.int (zi zq196)] hq196 _
            have sq196 : gSs rT 1027 ty [54002, 54003, 54004, 54005, 54006, 54007, 54008, 54010, 54011, 54012, 54013, 82000, 82001, 82002, 82003, 82004, 82005, 82006, 82007, 82008, 83000, 83001, 83002, 83003, 83004, 83005, 83006, 83007, 83008, 84000, 84001, 84002, 84003, 84004, 84005, 84006, 84007, 84008, 112999, 113999] h hq196 := gSs.tr sq183 xq196 (by decide)
            have s197 := (xq196.2.2.2.2.2 x 0 (by rw [tx]; decide)).trans s184
            have s198 := (xq196.2.2.2.2.2 x 1 (by rw [tx]; decide)).trans s185
            have s199 := (xq196.2.2.2.2.2 pic 0 (by rw [tpic]; decide)).trans s186
            have s200 := (xq196.2.2.2.2.2 bn 0 (by rw [tbn]; decide)).trans s187
            have s201 := (xq196.2.2.2.2.2 bn 1 (by rw [tbn]; decide)).trans s188
            have s202 := (xq196.2.2.2.2.2 bn 2 (by rw [tbn]; decide)).trans s189
            have s203 := (xq196.2.2.2.2.2 pic 2 (by rw [tpic]; decide)).trans s190
            have s204 := (xq196.2.2.2.2.2 pic 3 (by rw [tpic]; decide)).trans s191
            have s205 := (xq196.2.2.2.2.2 src 1 (by rw [tsrc]; decide)).trans s192
            have s206 := (xq196.2.2.2.2.2 pic 7 (by rw [tpic]; decide)).trans s193
            have s207 := (xq196.2.2.2.2.2 pic 8 (by rw [tpic]; decide)).trans s194
            refine gz_s 2 (pc' := 89) (L' := [some (.ref x), some (.int (zi m)), some (.int (zi a)), some (.int (zi n)), some (.int (zi zq1)), some (.int (zi jn13v0)), some (.int (zi zq196)), none, none, none]) (S' := [.int (zi zq196)]) rfl ?_
            by_cases hc208 : ¬ (zq196 : Int) = 0
            · refine gy_ifT (pc' := 101) rfl (by decide) (by decide) (by omega) hc208 ?_
              refine gz_s 2 (pc' := 104) (L' := [some (.ref x), some (.int (zi m)), some (.int (zi a)), some (.int (zi n)), some (.int (zi zq1)), some (.int (zi jn13v0)), some (.int (zi zq196)), none, none, none]) (S' := [.int (zi 1), .int (zi zq196)]) rfl ?_
              by_cases hc209 : (zq196 : Int) < 1
              · refine gy_icT (pc' := 114) rfl (by decide) (by decide) (by omega) (by omega) hc209 ?_
                refine gy_s 3 (pc' := 117) (L' := [some (.ref x), some (.int (zi m)), some (.int (zi a)), some (.int (zi n)), some (.int (zi zq1)), some (.int (zi jn13v0)), some (.int (zi zq196)), none, none, none]) (S' := [.int ((zi a) + (zi 3))]) (L2 := [some (.ref x), some (.int (zi m)), some (.int (zi a)), some (.int (zi n)), some (.int (zi zq1)), some (.int (zi jn13v0)), some (.int (zi zq196)), none, none, none]) (S2 := [.int (zi (a + 3))]) rfl (by simp only [zi_add, zi_sub, zi_mul, zi_neg, zi_and1, zi_and7, zi_and15, zi_and31, zi_and255, Int.reduceAdd, Int.reduceMul, Int.reduceSub]) (by simp only [zi_add, zi_sub, zi_mul, zi_neg, zi_and1, zi_and7, zi_and15, zi_and31, zi_and255, Int.reduceAdd, Int.reduceMul, Int.reduceSub]) ?_
                have k210 := sq196.2.1
                have k210b := sq196.2.2.1
                have hl211 : hq196.2.2.2.1 co = h.2.2.2.1 co := congrFun sq196.2.2.2.2.1 co
                have hl212 : hq196.2.2.2.1 dm = h.2.2.2.1 dm := congrFun sq196.2.2.2.2.1 dm
                have k213 := sq196.2.1
                have k213b := sq196.2.2.1
                have hl214 : hq196.2.2.2.1 co = h.2.2.2.1 co := congrFun sq196.2.2.2.2.1 co
                have hl215 : hq196.2.2.2.1 dm = h.2.2.2.1 dm := congrFun sq196.2.2.2.2.1 dm
                have hpc216 : gPC ty pic b0 b1 b2 (hq196.2.2.2.1 dm : Int) hq196 := gPC.zero sq196.1 tpic s199 tbn s200 tb0 s201 tb1 s202 tb2 s203 tco s204 tdm (by rw [(by omega : (0 : Int) = cn)]; exact s206) bl s207 (by omega) (by omega) (by omega) (by omega) (by omega)
                have G217 : gSg [112, 113] [] [54002, 54003, 54004, 54005, 54006, 54007, 54008, 54010, 54011, 54012, 54013, 82000, 82001, 82002, 82003, 82004, 82005, 82006, 82007, 82008, 83000, 83001, 83002, 83003, 83004, 83005, 83006, 83007, 83008, 84000, 84001, 84002, 84003, 84004, 84005, 84006, 84007, 84008, 112999, 113999] ty h ty hq196 := gSg.ss G0 sq196 (by decide)
                exact gz_end (I := .ireturn) (len := 1) rfl (Or.inl rfl) ⟨ty, G217, a + 3, cn, (hq196.2.2.2.1 dm : Int), rfl, (by omega), (by omega), s206, (by omega), (by omega), (by omega), (by omega), (by omega), (by omega), (by omega), hpc216⟩
              · refine gy_icF rfl (by decide) (by decide) (by omega) (by omega) hc209 ?_
                refine gz_s 2 (pc' := 111) (L' := [some (.ref x), some (.int (zi m)), some (.int (zi a)), some (.int (zi n)), some (.int (zi zq1)), some (.int (zi jn13v0)), some (.int (zi zq196)), none, none, none]) (S' := [.int (zi 64), .int (zi zq196)]) rfl ?_
                by_cases hc218 : (zq196 : Int) ≤ 64
                · refine gy_icT (pc' := 118) rfl (by decide) (by decide) (by omega) (by omega) hc218 ?_
                  refine gz_s 1 (pc' := 119) (L' := [some (.ref x), some (.int (zi m)), some (.int (zi a)), some (.int (zi n)), some (.int (zi zq1)), some (.int (zi jn13v0)), some (.int (zi zq196)), none, none, none]) (S' := [.ref x]) rfl ?_
                  refine gs_gtk rfl (by decide) rfl sq196.1 tx rfl rfl s197 ?_
                  refine gy_s 3 (pc' := 125) (L' := [some (.ref x), some (.int (zi m)), some (.int (zi a)), some (.int (zi n)), some (.int (zi zq1)), some (.int (zi jn13v0)), some (.int (zi zq196)), none, none, none]) (S' := [.int ((zi a) + (zi 5)), .ref src]) (L2 := [some (.ref x), some (.int (zi m)), some (.int (zi a)), some (.int (zi n)), some (.int (zi zq1)), some (.int (zi jn13v0)), some (.int (zi zq196)), none, none, none]) (S2 := [.int (zi (a + 5)), .ref src]) rfl (by simp only [zi_add, zi_sub, zi_mul, zi_neg, zi_and1, zi_and7, zi_and15, zi_and31, zi_and255, Int.reduceAdd, Int.reduceMul, Int.reduceSub]) (by simp only [zi_add, zi_sub, zi_mul, zi_neg, zi_and1, zi_and7, zi_and15, zi_and31, zi_and255, Int.reduceAdd, Int.reduceMul, Int.reduceSub]) ?_
                  refine gz_call rfl (by decide) rfl (by decide) (by decide) (gcal_of rfl rfl rfl (Nat.le_of_ble_eq_true rfl) (gJ.recv (G := gGG) sq196.1 tsrc rfl rfl)) (cl_Collected_twoAt _ sq196.1 src tsrc (a + 5) (by omega) sz s205 (by omega) uq) (fun q219 _ wq219 => ?_)
                  obtain ⟨pq219, oq219, hq219⟩ := q219
                  obtain ⟨xq219, zq219, gq219, aq219, bq219, uq219_0⟩ := wq219
                  refine ⟨_, gq219, ?_⟩
                  show gz gPP gGG gcn _ _ 128 [some (.ref x), some (.int (zi m)), some (.int (zi a)), some (.int (zi n)), some (.int (zi zq1)), some (.int (zi jn13v0)), some (.int (zi zq196)), none, none, none] [.int (zi zq219)] hq219 _
                  have sq219 : gSs rT 1027 ty [54002, 54003, 54004, 54005, 54006, 54007, 54008, 54010, 54011, 54012, 54013, 82000, 82001, 82002, 82003, 82004, 82005, 82006, 82007, 82008, 83000, 83001, 83002, 83003, 83004, 83005, 83006, 83007, 83008, 84000, 84001, 84002, 84003, 84004, 84005, 84006, 84007, 84008, 112999, 113999] h hq219 := gSs.tr sq196 xq219 (by decide)
                  have s220 := (xq219.2.2.2.2.2 x 0 (by rw [tx]; decide)).trans s197
                  have s221 := (xq219.2.2.2.2.2 x 1 (by rw [tx]; decide)).trans s198
                  have s222 := (xq219.2.2.2.2.2 pic 0 (by rw [tpic]; decide)).trans s199
                  have s223 := (xq219.2.2.2.2.2 bn 0 (by rw [tbn]; decide)).trans s200
                  have s224 := (xq219.2.2.2.2.2 bn 1 (by rw [tbn]; decide)).trans s201
                  have s225 := (xq219.2.2.2.2.2 bn 2 (by rw [tbn]; decide)).trans s202
                  have s226 := (xq219.2.2.2.2.2 pic 2 (by rw [tpic]; decide)).trans s203
                  have s227 := (xq219.2.2.2.2.2 pic 3 (by rw [tpic]; decide)).trans s204
                  have s228 := (xq219.2.2.2.2.2 src 1 (by rw [tsrc]; decide)).trans s205
                  have s229 := (xq219.2.2.2.2.2 pic 7 (by rw [tpic]; decide)).trans s206
                  have s230 := (xq219.2.2.2.2.2 pic 8 (by rw [tpic]; decide)).trans s207
                  refine gz_s 3 (pc' := 133) (L' := [some (.ref x), some (.int (zi m)), some (.int (zi a)), some (.int (zi n)), some (.int (zi zq1)), some (.int (zi jn13v0)), some (.int (zi zq196)), some (.int (zi zq219)), none, none]) (S' := [.int (zi 1), .int (zi zq219)]) rfl ?_
                  by_cases hc231 : (zq219 : Int) < 1
                  · refine gy_icT (pc' := 143) rfl (by decide) (by decide) (by omega) (by omega) hc231 ?_
                    refine gy_s 3 (pc' := 146) (L' := [some (.ref x), some (.int (zi m)), some (.int (zi a)), some (.int (zi n)), some (.int (zi zq1)), some (.int (zi jn13v0)), some (.int (zi zq196)), some (.int (zi zq219)), none, none]) (S' := [.int ((zi a) + (zi 5))]) (L2 := [some (.ref x), some (.int (zi m)), some (.int (zi a)), some (.int (zi n)), some (.int (zi zq1)), some (.int (zi jn13v0)), some (.int (zi zq196)), some (.int (zi zq219)), none, none]) (S2 := [.int (zi (a + 5))]) rfl (by simp only [zi_add, zi_sub, zi_mul, zi_neg, zi_and1, zi_and7, zi_and15, zi_and31, zi_and255, Int.reduceAdd, Int.reduceMul, Int.reduceSub]) (by simp only [zi_add, zi_sub, zi_mul, zi_neg, zi_and1, zi_and7, zi_and15, zi_and31, zi_and255, Int.reduceAdd, Int.reduceMul, Int.reduceSub]) ?_
                    have k232 := sq219.2.1
                    have k232b := sq219.2.2.1
                    have hl233 : hq219.2.2.2.1 co = h.2.2.2.1 co := congrFun sq219.2.2.2.2.1 co
                    have hl234 : hq219.2.2.2.1 dm = h.2.2.2.1 dm := congrFun sq219.2.2.2.2.1 dm
                    have k235 := sq219.2.1
                    have k235b := sq219.2.2.1
                    have hl236 : hq219.2.2.2.1 co = h.2.2.2.1 co := congrFun sq219.2.2.2.2.1 co
                    have hl237 : hq219.2.2.2.1 dm = h.2.2.2.1 dm := congrFun sq219.2.2.2.2.1 dm
                    have hpc238 : gPC ty pic b0 b1 b2 (hq219.2.2.2.1 dm : Int) hq219 := gPC.zero sq219.1 tpic s222 tbn s223 tb0 s224 tb1 s225 tb2 s226 tco s227 tdm (by rw [(by omega : (0 : Int) = cn)]; exact s229) bl s230 (by omega) (by omega) (by omega) (by omega) (by omega)
                    have G239 : gSg [112, 113] [] [54002, 54003, 54004, 54005, 54006, 54007, 54008, 54010, 54011, 54012, 54013, 82000, 82001, 82002, 82003, 82004, 82005, 82006, 82007, 82008, 83000, 83001, 83002, 83003, 83004, 83005, 83006, 83007, 83008, 84000, 84001, 84002, 84003, 84004, 84005, 84006, 84007, 84008, 112999, 113999] ty h ty hq219 := gSg.ss G0 sq219 (by decide)
                    exact gz_end (I := .ireturn) (len := 1) rfl (Or.inl rfl) ⟨ty, G239, a + 5, cn, (hq219.2.2.2.1 dm : Int), rfl, (by omega), (by omega), s229, (by omega), (by omega), (by omega), (by omega), (by omega), (by omega), (by omega), hpc238⟩
                  · refine gy_icF rfl (by decide) (by decide) (by omega) (by omega) hc231 ?_
                    refine gz_s 2 (pc' := 140) (L' := [some (.ref x), some (.int (zi m)), some (.int (zi a)), some (.int (zi n)), some (.int (zi zq1)), some (.int (zi jn13v0)), some (.int (zi zq196)), some (.int (zi zq219)), none, none]) (S' := [.int (zi 64), .int (zi zq219)]) rfl ?_
                    by_cases hc240 : (zq219 : Int) ≤ 64
                    · refine gy_icT (pc' := 147) rfl (by decide) (by decide) (by omega) (by omega) hc240 ?_
                      refine gz_s 1 (pc' := 149) (L' := [some (.ref x), some (.int (zi m)), some (.int (zi a)), some (.int (zi n)), some (.int (zi zq1)), some (.int (zi jn13v0)), some (.int (zi zq196)), some (.int (zi zq219)), none, none]) (S' := [.int (zi jn13v0)]) rfl ?_
                      refine gy_ifT (pc' := 157) rfl (by decide) (by decide) (by omega) (by first | (simp [zc]; done) | (simp only [zc]; omega)) ?_
                      refine gz_s 4 (pc' := 164) (L' := [some (.ref x), some (.int (zi m)), some (.int (zi a)), some (.int (zi n)), some (.int (zi zq1)), some (.int (zi jn13v0)), some (.int (zi zq196)), some (.int (zi zq219)), some (.int (zi 0)), none]) (S' := [.int (zi zq1), .int (zi 0)]) rfl ?_
                      refine gy_icF rfl (by decide) (by decide) (by omega) (by omega) (by first | (simp [zc]; done) | (simp only [zc]; omega)) ?_
                      refine gy_s 9 (pc' := 179) (L' := [some (.ref x), some (.int (zi m)), some (.int (zi a)), some (.int (zi n)), some (.int (zi zq1)), some (.int (zi jn13v0)), some (.int (zi zq196)), some (.int (zi zq219)), some (.int (zi 0)), none]) (S' := [.int (((zi a) + (zi 8)) + ((zi 3) * (zi 0))), .int (zi 0), .ref x]) (L2 := [some (.ref x), some (.int (zi m)), some (.int (zi a)), some (.int (zi n)), some (.int (zi zq1)), some (.int (zi jn13v0)), some (.int (zi zq196)), some (.int (zi zq219)), some (.int (zi 0)), none]) (S2 := [.int (zi ((a + 8) + 0)), .int (zi 0), .ref x]) rfl (by simp only [zi_add, zi_sub, zi_mul, zi_neg, zi_and1, zi_and7, zi_and15, zi_and31, zi_and255, Int.reduceAdd, Int.reduceMul, Int.reduceSub]) (by simp only [zi_add, zi_sub, zi_mul, zi_neg, zi_and1, zi_and7, zi_and15, zi_and31, zi_and255, Int.reduceAdd, Int.reduceMul, Int.reduceSub]) ?_
                      refine gz_call rfl (by decide) rfl (by decide) (by decide) (gcal_of rfl rfl rfl (Nat.le_of_ble_eq_true rfl) (gJ.recv (G := gGG) sq219.1 tx rfl rfl)) (cl_readBand0 _ sq219.1 x tx 0 (by omega) ((a + 8) + 0) (by omega) src s220 tsrc pic s221 tpic bn s222 tbn b0 s223 tb0 sz s228 (by omega) uq) (fun q241 _ wq241 => ?_)
                      obtain ⟨pq241, oq241, hq241⟩ := q241
                      obtain ⟨xq241, zq241, fq241_0, fq241_1, fq241_2, gq241, aq241, bq241, efq241_0, afq241_0, bfq241_0, efq241_1, afq241_1, bfq241_1, efq241_2, afq241_2, bfq241_2, uq241_0⟩ := wq241
                      refine ⟨_, gq241, ?_⟩
                      show gz gPP gGG gcn _ _ 182 [some (.ref x), some (.int (zi m)), some (.int (zi a)), some (.int (zi n)), some (.int (zi zq1)), some (.int (zi jn13v0)), some (.int (zi zq196)), some (.int (zi zq219)), some (.int (zi 0)), none] [.int (zi zq241)] hq241 _
                      have sq241 : gSs rT 1027 ty [54002, 54003, 54004, 54005, 54006, 54007, 54008, 54010, 54011, 54012, 54013, 82000, 82001, 82002, 82003, 82004, 82005, 82006, 82007, 82008, 83000, 83001, 83002, 83003, 83004, 83005, 83006, 83007, 83008, 84000, 84001, 84002, 84003, 84004, 84005, 84006, 84007, 84008, 112999, 113999] h hq241 := gSs.tr sq219 xq241 (by decide)
                      have s242 := (xq241.2.2.2.2.2 x 0 (by rw [tx]; decide)).trans s220
                      have s243 := (xq241.2.2.2.2.2 x 1 (by rw [tx]; decide)).trans s221
                      have s244 := (xq241.2.2.2.2.2 pic 0 (by rw [tpic]; decide)).trans s222
                      have s245 := (xq241.2.2.2.2.2 bn 0 (by rw [tbn]; decide)).trans s223
                      have s246 := (xq241.2.2.2.2.2 bn 1 (by rw [tbn]; decide)).trans s224
                      have s247 := (xq241.2.2.2.2.2 bn 2 (by rw [tbn]; decide)).trans s225
                      have s248 := (xq241.2.2.2.2.2 pic 2 (by rw [tpic]; decide)).trans s226
                      have s249 := (xq241.2.2.2.2.2 pic 3 (by rw [tpic]; decide)).trans s227
                      have s250 := (xq241.2.2.2.2.2 src 1 (by rw [tsrc]; decide)).trans s228
                      have s251 := (xq241.2.2.2.2.2 pic 7 (by rw [tpic]; decide)).trans s229
                      have s252 := (xq241.2.2.2.2.2 pic 8 (by rw [tpic]; decide)).trans s230
                      refine gz_s 3 (pc' := 187) (L' := [some (.ref x), some (.int (zi m)), some (.int (zi a)), some (.int (zi n)), some (.int (zi zq1)), some (.int (zi jn13v0)), some (.int (zi zq196)), some (.int (zi zq219)), some (.int (zi 0)), some (.int (zi zq241))]) (S' := [.int (zi (-1)), .int (zi zq241)]) rfl ?_
                      by_cases hc253 : (zq241 : Int) = (-1)
                      · refine gy_icT (pc' := 193) rfl (by decide) (by decide) (by omega) (by omega) hc253 ?_
                        refine gy_s 4 (pc' := 164) (L' := [some (.ref x), some (.int (zi m)), some (.int (zi a)), some (.int (zi n)), some (.int (zi zq1)), some (.int (zi jn13v0)), some (.int (zi zq196)), some (.int (zi zq219)), some (.int ((zi 0) + zi 1)), some (.int (zi zq241))]) (S' := [.int (zi zq1), .int ((zi 0) + zi 1)]) (L2 := [some (.ref x), some (.int (zi m)), some (.int (zi a)), some (.int (zi n)), some (.int (zi zq1)), some (.int (zi jn13v0)), some (.int (zi zq196)), some (.int (zi zq219)), some (.int (zi 1)), some (.int (zi zq241))]) (S2 := [.int (zi zq1), .int (zi 1)]) rfl (by simp only [zi_add, zi_sub, zi_mul, zi_neg, zi_and1, zi_and7, zi_and15, zi_and31, zi_and255, Int.reduceAdd, Int.reduceMul, Int.reduceSub]) (by simp only [zi_add, zi_sub, zi_mul, zi_neg, zi_and1, zi_and7, zi_and15, zi_and31, zi_and255, Int.reduceAdd, Int.reduceMul, Int.reduceSub]) ?_
                        by_cases hc254 : (zq1 : Int) ≤ 1
                        · refine gy_icT (pc' := 199) rfl (by decide) (by decide) (by omega) (by omega) hc254 ?_
                          refine gz_s 1 (pc' := 200) (L' := [some (.ref x), some (.int (zi m)), some (.int (zi a)), some (.int (zi n)), some (.int (zi zq1)), some (.int (zi jn13v0)), some (.int (zi zq196)), some (.int (zi zq219)), some (.int (zi 1)), some (.int (zi zq241))]) (S' := [.ref x]) rfl ?_
                          refine gs_gtk rfl (by decide) rfl sq241.1 tx rfl rfl s243 ?_
                          refine gz_s 2 (pc' := 207) (L' := [some (.ref x), some (.int (zi m)), some (.int (zi a)), some (.int (zi n)), some (.int (zi zq1)), some (.int (zi jn13v0)), some (.int (zi zq196)), some (.int (zi zq219)), some (.int (zi 1)), some (.int (zi zq241))]) (S' := [.int (zi 194), .int (zi m), .ref pic]) rfl ?_
                          by_cases hc255 : ¬ (m : Int) = 194
                          · refine gy_icT (pc' := 214) rfl (by decide) (by decide) (by omega) (by omega) hc255 ?_
                            refine gz_s 1 (pc' := 215) (L' := [some (.ref x), some (.int (zi m)), some (.int (zi a)), some (.int (zi n)), some (.int (zi zq1)), some (.int (zi jn13v0)), some (.int (zi zq196)), some (.int (zi zq219)), some (.int (zi 1)), some (.int (zi zq241))]) (S' := [.int (zi 0), .ref pic]) rfl ?_
                            refine gs_put rfl (by decide) rfl sq241 tpic rfl rfl rfl rfl (Or.inl rfl) (by decide) (by omega) (by omega) (fun h256 sh256 eh256 fh256 => ?_)
                            have s257 := (fh256 x 0 (fun q => absurd q.2 (by decide))).trans s242
                            have s258 := (fh256 x 1 (fun q => absurd q.2 (by decide))).trans s243
                            have s259 := (fh256 pic 0 (fun q => absurd q.2 (by decide))).trans s244
                            have s260 := (fh256 bn 0 (fun q => absurd (((tbn).symm.trans (congrArg ty q.1)).trans tpic) (by decide))).trans s245
                            have s261 := (fh256 bn 1 (fun q => absurd (((tbn).symm.trans (congrArg ty q.1)).trans tpic) (by decide))).trans s246
                            have s262 := (fh256 bn 2 (fun q => absurd (((tbn).symm.trans (congrArg ty q.1)).trans tpic) (by decide))).trans s247
                            have s263 := (fh256 pic 2 (fun q => absurd q.2 (by decide))).trans s248
                            have s264 := (fh256 pic 3 (fun q => absurd q.2 (by decide))).trans s249
                            have s265 := (fh256 src 1 (fun q => absurd q.2 (by decide))).trans s250
                            have s266 := (fh256 pic 7 (fun q => absurd q.2 (by decide))).trans s251
                            have s267 := (fh256 pic 8 (fun q => absurd q.2 (by decide))).trans s252
                            have s268 := (fh256 b0 1 (fun q => absurd q.2 (by decide))).trans efq241_0
                            have s269 := (fh256 b0 2 (fun q => absurd q.2 (by decide))).trans efq241_1
                            have s270 := (fh256 b0 3 (fun q => absurd q.2 (by decide))).trans efq241_2
                            refine gz_s 1 (pc' := 219) (L' := [some (.ref x), some (.int (zi m)), some (.int (zi a)), some (.int (zi n)), some (.int (zi zq1)), some (.int (zi jn13v0)), some (.int (zi zq196)), some (.int (zi zq219)), some (.int (zi 1)), some (.int (zi zq241))]) (S' := [.ref x]) rfl ?_
                            refine gs_gtk rfl (by decide) rfl sh256.1 tx rfl rfl s258 ?_
                            refine gz_s 3 (pc' := 228) (L' := [some (.ref x), some (.int (zi m)), some (.int (zi a)), some (.int (zi n)), some (.int (zi zq1)), some (.int (zi jn13v0)), some (.int (zi zq196)), some (.int (zi zq219)), some (.int (zi 1)), some (.int (zi zq241))]) (S' := [.int (zi zq1), .int (zi zq196), .int (zi zq219), .ref pic]) rfl ?_
                            have k271 := sh256.2.1
                            have k271b := sh256.2.2.1
                            have hl272 : h256.2.2.2.1 co = h.2.2.2.1 co := congrFun sh256.2.2.2.2.1 co
                            have hl273 : h256.2.2.2.1 dm = h.2.2.2.1 dm := congrFun sh256.2.2.2.2.1 dm
                            have hl274 : h256.2.2.2.1 co = h.2.2.2.1 co := congrFun sh256.2.2.2.2.1 co
                            have hl275 : h256.2.2.2.1 dm = h.2.2.2.1 dm := congrFun sh256.2.2.2.2.1 dm
                            obtain ⟨z276, ez276, az276, bz276⟩ := gJ.int (k := 1) (G := gGG) sh256.1 tb1 rfl rfl rfl
                            obtain ⟨z277, ez277, az277, bz277⟩ := gJ.int (k := 2) (G := gGG) sh256.1 tb1 rfl rfl rfl
                            obtain ⟨z278, ez278, az278, bz278⟩ := gJ.int (k := 3) (G := gGG) sh256.1 tb1 rfl rfl rfl
                            obtain ⟨z279, ez279, az279, bz279⟩ := gJ.int (k := 1) (G := gGG) sh256.1 tb2 rfl rfl rfl
                            obtain ⟨z280, ez280, az280, bz280⟩ := gJ.int (k := 2) (G := gGG) sh256.1 tb2 rfl rfl rfl
                            obtain ⟨z281, ez281, az281, bz281⟩ := gJ.int (k := 3) (G := gGG) sh256.1 tb2 rfl rfl rfl
                            refine gz_call rfl (by decide) rfl (by decide) (by decide) (gcal_of rfl rfl rfl (Nat.le_of_ble_eq_true rfl) (gJ.recv (G := gGG) sh256.1 tpic rfl rfl)) (cl_Picture_begin _ sh256.1 pic tpic zq219 (by omega) zq196 (by omega) zq1 (by omega) bn s259 tbn b0 s260 tb0 b1 s261 tb1 b2 s262 tb2 co s263 tco dm s264 tdm fq241_0 s268 (by omega) fq241_1 s269 (by omega) fq241_2 s270 (by omega) z276 ez276 (by omega) z277 ez277 (by omega) z278 ez278 (by omega) z279 ez279 (by omega) z280 ez280 (by omega) z281 ez281 (by omega) (by omega) (by omega) (by omega) (by omega) (by omega) uq) (fun q282 _ wq282 => ?_)
                            obtain ⟨pq282, oq282, hq282⟩ := q282
                            obtain ⟨tyq282, xq282, fq282_0, xq282_0, gq282, efq282_0, afq282_0, bfq282_0, axq282_0, bxq282_0, uq282_0, uq282_1, uq282_2, uq282_3, yq282_0⟩ := wq282
                            refine ⟨_, gq282, ?_⟩
                            show gz gPP gGG gcn _ _ 231 [some (.ref x), some (.int (zi m)), some (.int (zi a)), some (.int (zi n)), some (.int (zi zq1)), some (.int (zi jn13v0)), some (.int (zi zq196)), some (.int (zi zq219)), some (.int (zi 1)), some (.int (zi zq241))] [] hq282 _
                            have G283 : gSg [112, 113] [] [54002, 54003, 54004, 54005, 54006, 54007, 54008, 54010, 54011, 54012, 54013, 82000, 82001, 82002, 82003, 82004, 82005, 82006, 82007, 82008, 83000, 83001, 83002, 83003, 83004, 83005, 83006, 83007, 83008, 84000, 84001, 84002, 84003, 84004, 84005, 84006, 84007, 84008, 112999, 113999] ty h tyq282 hq282 := gSg.tr (gSg.ss G0 sh256 (by decide)) xq282 (by decide) (by decide) (fun x hx => by cases hx)
                            have t284 : tyq282 x = 65 := gSg.typ xq282 sh256.1 tx rfl
                            have t285 : tyq282 src = 51 := gSg.typ xq282 sh256.1 tsrc rfl
                            have t286 : tyq282 pic = 54 := gSg.typ xq282 sh256.1 tpic rfl
                            have t287 : tyq282 bn = 57 := gSg.typ xq282 sh256.1 tbn rfl
                            have t288 : tyq282 b0 = 82 := gSg.typ xq282 sh256.1 tb0 rfl
                            have t289 : tyq282 b1 = 83 := gSg.typ xq282 sh256.1 tb1 rfl
                            have t290 : tyq282 b2 = 84 := gSg.typ xq282 sh256.1 tb2 rfl
                            have t291 : tyq282 co = 112 := gSg.typ xq282 sh256.1 tco rfl
                            have hl292 : hq282.2.2.2.1 co = h256.2.2.2.1 co := gSg.len xq282 sh256.1 tco rfl
                            have t293 : tyq282 dm = 113 := gSg.typ xq282 sh256.1 tdm rfl
                            have hl294 : hq282.2.2.2.1 dm = h256.2.2.2.1 dm := gSg.len xq282 sh256.1 tdm rfl
                            have s295 := gSg.at xq282 sh256.1 tx rfl (by decide) s257
                            have s296 := gSg.at xq282 sh256.1 tx rfl (by decide) s258
                            have s297 := gSg.at xq282 sh256.1 tpic rfl (by decide) s259
                            have s298 := gSg.at xq282 sh256.1 tbn rfl (by decide) s260
                            have s299 := gSg.at xq282 sh256.1 tbn rfl (by decide) s261
                            have s300 := gSg.at xq282 sh256.1 tbn rfl (by decide) s262
                            have s301 := gSg.at xq282 sh256.1 tsrc rfl (by decide) s265
                            have s302 := gSg.at xq282 sh256.1 tb0 rfl (by decide) s268
                            have s303 := gSg.at xq282 sh256.1 tb0 rfl (by decide) s269
                            have s304 := gSg.at xq282 sh256.1 tb0 rfl (by decide) s270
                            have s305 := gSg.at xq282 sh256.1 tpic rfl (by decide) eh256
                            have s306 := gSg.at xq282 sh256.1 tb1 rfl (by decide) ez276
                            have s307 := gSg.at xq282 sh256.1 tb1 rfl (by decide) ez277
                            have s308 := gSg.at xq282 sh256.1 tb1 rfl (by decide) ez278
                            have s309 := gSg.at xq282 sh256.1 tb2 rfl (by decide) ez279
                            have s310 := gSg.at xq282 sh256.1 tb2 rfl (by decide) ez280
                            have s311 := gSg.at xq282 sh256.1 tb2 rfl (by decide) ez281
                            have uq312 := gSg.uq xq282 uq (by decide)
                            have sS313 : gSs rT 1027 tyq282 [54002, 54003, 54004, 54005, 54006, 54007, 54008, 54010, 54011, 54012, 54013, 82000, 82001, 82002, 82003, 82004, 82005, 82006, 82007, 82008, 83000, 83001, 83002, 83003, 83004, 83005, 83006, 83007, 83008, 84000, 84001, 84002, 84003, 84004, 84005, 84006, 84007, 84008, 112999, 113999] hq282 hq282 := gSs.rf xq282.1
                            refine gz_s 1 (pc' := 232) (L' := [some (.ref x), some (.int (zi m)), some (.int (zi a)), some (.int (zi n)), some (.int (zi zq1)), some (.int (zi jn13v0)), some (.int (zi zq196)), some (.int (zi zq219)), some (.int (zi 1)), some (.int (zi zq241))]) (S' := [.int (zi (-1))]) rfl ?_
                            have G314 : gSg [112, 113] [] [54002, 54003, 54004, 54005, 54006, 54007, 54008, 54010, 54011, 54012, 54013, 82000, 82001, 82002, 82003, 82004, 82005, 82006, 82007, 82008, 83000, 83001, 83002, 83003, 83004, 83005, 83006, 83007, 83008, 84000, 84001, 84002, 84003, 84004, 84005, 84006, 84007, 84008, 112999, 113999] ty h tyq282 hq282 := gSg.ss G283 sS313 (by decide)
                            exact gz_end (I := .ireturn) (len := 1) rfl (Or.inl rfl) ⟨tyq282, G314, (-1), fq282_0, xq282_0, rfl, (by omega), (by omega), efq282_0, (by omega), (by omega), (by omega), (by omega), (by omega), (by omega), (by omega), yq282_0⟩
                          · refine gy_icF rfl (by decide) (by decide) (by omega) (by omega) hc255 ?_
                            refine gz_s 2 (pc' := 215) (L' := [some (.ref x), some (.int (zi m)), some (.int (zi a)), some (.int (zi n)), some (.int (zi zq1)), some (.int (zi jn13v0)), some (.int (zi zq196)), some (.int (zi zq219)), some (.int (zi 1)), some (.int (zi zq241))]) (S' := [.int (zi 1), .ref pic]) rfl ?_
                            refine gs_put rfl (by decide) rfl sq241 tpic rfl rfl rfl rfl (Or.inl rfl) (by decide) (by omega) (by omega) (fun h315 sh315 eh315 fh315 => ?_)
                            have s316 := (fh315 x 0 (fun q => absurd q.2 (by decide))).trans s242
                            have s317 := (fh315 x 1 (fun q => absurd q.2 (by decide))).trans s243
                            have s318 := (fh315 pic 0 (fun q => absurd q.2 (by decide))).trans s244
                            have s319 := (fh315 bn 0 (fun q => absurd (((tbn).symm.trans (congrArg ty q.1)).trans tpic) (by decide))).trans s245
                            have s320 := (fh315 bn 1 (fun q => absurd (((tbn).symm.trans (congrArg ty q.1)).trans tpic) (by decide))).trans s246
                            have s321 := (fh315 bn 2 (fun q => absurd (((tbn).symm.trans (congrArg ty q.1)).trans tpic) (by decide))).trans s247
                            have s322 := (fh315 pic 2 (fun q => absurd q.2 (by decide))).trans s248
                            have s323 := (fh315 pic 3 (fun q => absurd q.2 (by decide))).trans s249
                            have s324 := (fh315 src 1 (fun q => absurd q.2 (by decide))).trans s250
                            have s325 := (fh315 pic 7 (fun q => absurd q.2 (by decide))).trans s251
                            have s326 := (fh315 pic 8 (fun q => absurd q.2 (by decide))).trans s252
                            have s327 := (fh315 b0 1 (fun q => absurd q.2 (by decide))).trans efq241_0
                            have s328 := (fh315 b0 2 (fun q => absurd q.2 (by decide))).trans efq241_1
                            have s329 := (fh315 b0 3 (fun q => absurd q.2 (by decide))).trans efq241_2
                            refine gz_s 1 (pc' := 219) (L' := [some (.ref x), some (.int (zi m)), some (.int (zi a)), some (.int (zi n)), some (.int (zi zq1)), some (.int (zi jn13v0)), some (.int (zi zq196)), some (.int (zi zq219)), some (.int (zi 1)), some (.int (zi zq241))]) (S' := [.ref x]) rfl ?_
                            refine gs_gtk rfl (by decide) rfl sh315.1 tx rfl rfl s317 ?_
                            refine gz_s 3 (pc' := 228) (L' := [some (.ref x), some (.int (zi m)), some (.int (zi a)), some (.int (zi n)), some (.int (zi zq1)), some (.int (zi jn13v0)), some (.int (zi zq196)), some (.int (zi zq219)), some (.int (zi 1)), some (.int (zi zq241))]) (S' := [.int (zi zq1), .int (zi zq196), .int (zi zq219), .ref pic]) rfl ?_
                            have k330 := sh315.2.1
                            have k330b := sh315.2.2.1
                            have hl331 : h315.2.2.2.1 co = h.2.2.2.1 co := congrFun sh315.2.2.2.2.1 co
                            have hl332 : h315.2.2.2.1 dm = h.2.2.2.1 dm := congrFun sh315.2.2.2.2.1 dm
                            have hl333 : h315.2.2.2.1 co = h.2.2.2.1 co := congrFun sh315.2.2.2.2.1 co
                            have hl334 : h315.2.2.2.1 dm = h.2.2.2.1 dm := congrFun sh315.2.2.2.2.1 dm
                            obtain ⟨z335, ez335, az335, bz335⟩ := gJ.int (k := 1) (G := gGG) sh315.1 tb1 rfl rfl rfl
                            obtain ⟨z336, ez336, az336, bz336⟩ := gJ.int (k := 2) (G := gGG) sh315.1 tb1 rfl rfl rfl
                            obtain ⟨z337, ez337, az337, bz337⟩ := gJ.int (k := 3) (G := gGG) sh315.1 tb1 rfl rfl rfl
                            obtain ⟨z338, ez338, az338, bz338⟩ := gJ.int (k := 1) (G := gGG) sh315.1 tb2 rfl rfl rfl
                            obtain ⟨z339, ez339, az339, bz339⟩ := gJ.int (k := 2) (G := gGG) sh315.1 tb2 rfl rfl rfl
                            obtain ⟨z340, ez340, az340, bz340⟩ := gJ.int (k := 3) (G := gGG) sh315.1 tb2 rfl rfl rfl
                            refine gz_call rfl (by decide) rfl (by decide) (by decide) (gcal_of rfl rfl rfl (Nat.le_of_ble_eq_true rfl) (gJ.recv (G := gGG) sh315.1 tpic rfl rfl)) (cl_Picture_begin _ sh315.1 pic tpic zq219 (by omega) zq196 (by omega) zq1 (by omega) bn s318 tbn b0 s319 tb0 b1 s320 tb1 b2 s321 tb2 co s322 tco dm s323 tdm fq241_0 s327 (by omega) fq241_1 s328 (by omega) fq241_2 s329 (by omega) z335 ez335 (by omega) z336 ez336 (by omega) z337 ez337 (by omega) z338 ez338 (by omega) z339 ez339 (by omega) z340 ez340 (by omega) (by omega) (by omega) (by omega) (by omega) (by omega) uq) (fun q341 _ wq341 => ?_)
                            obtain ⟨pq341, oq341, hq341⟩ := q341
                            obtain ⟨tyq341, xq341, fq341_0, xq341_0, gq341, efq341_0, afq341_0, bfq341_0, axq341_0, bxq341_0, uq341_0, uq341_1, uq341_2, uq341_3, yq341_0⟩ := wq341
                            refine ⟨_, gq341, ?_⟩
                            show gz gPP gGG gcn _ _ 231 [some (.ref x), some (.int (zi m)), some (.int (zi a)), some (.int (zi n)), some (.int (zi zq1)), some (.int (zi jn13v0)), some (.int (zi zq196)), some (.int (zi zq219)), some (.int (zi 1)), some (.int (zi zq241))] [] hq341 _
                            have G342 : gSg [112, 113] [] [54002, 54003, 54004, 54005, 54006, 54007, 54008, 54010, 54011, 54012, 54013, 82000, 82001, 82002, 82003, 82004, 82005, 82006, 82007, 82008, 83000, 83001, 83002, 83003, 83004, 83005, 83006, 83007, 83008, 84000, 84001, 84002, 84003, 84004, 84005, 84006, 84007, 84008, 112999, 113999] ty h tyq341 hq341 := gSg.tr (gSg.ss G0 sh315 (by decide)) xq341 (by decide) (by decide) (fun x hx => by cases hx)
                            have t343 : tyq341 x = 65 := gSg.typ xq341 sh315.1 tx rfl
                            have t344 : tyq341 src = 51 := gSg.typ xq341 sh315.1 tsrc rfl
                            have t345 : tyq341 pic = 54 := gSg.typ xq341 sh315.1 tpic rfl
                            have t346 : tyq341 bn = 57 := gSg.typ xq341 sh315.1 tbn rfl
                            have t347 : tyq341 b0 = 82 := gSg.typ xq341 sh315.1 tb0 rfl
                            have t348 : tyq341 b1 = 83 := gSg.typ xq341 sh315.1 tb1 rfl
                            have t349 : tyq341 b2 = 84 := gSg.typ xq341 sh315.1 tb2 rfl
                            have t350 : tyq341 co = 112 := gSg.typ xq341 sh315.1 tco rfl
                            have hl351 : hq341.2.2.2.1 co = h315.2.2.2.1 co := gSg.len xq341 sh315.1 tco rfl
                            have t352 : tyq341 dm = 113 := gSg.typ xq341 sh315.1 tdm rfl
                            have hl353 : hq341.2.2.2.1 dm = h315.2.2.2.1 dm := gSg.len xq341 sh315.1 tdm rfl
                            have s354 := gSg.at xq341 sh315.1 tx rfl (by decide) s316
                            have s355 := gSg.at xq341 sh315.1 tx rfl (by decide) s317
                            have s356 := gSg.at xq341 sh315.1 tpic rfl (by decide) s318
                            have s357 := gSg.at xq341 sh315.1 tbn rfl (by decide) s319
                            have s358 := gSg.at xq341 sh315.1 tbn rfl (by decide) s320
                            have s359 := gSg.at xq341 sh315.1 tbn rfl (by decide) s321
                            have s360 := gSg.at xq341 sh315.1 tsrc rfl (by decide) s324
                            have s361 := gSg.at xq341 sh315.1 tb0 rfl (by decide) s327
                            have s362 := gSg.at xq341 sh315.1 tb0 rfl (by decide) s328
                            have s363 := gSg.at xq341 sh315.1 tb0 rfl (by decide) s329
                            have s364 := gSg.at xq341 sh315.1 tpic rfl (by decide) eh315
                            have s365 := gSg.at xq341 sh315.1 tb1 rfl (by decide) ez335
                            have s366 := gSg.at xq341 sh315.1 tb1 rfl (by decide) ez336
                            have s367 := gSg.at xq341 sh315.1 tb1 rfl (by decide) ez337
                            have s368 := gSg.at xq341 sh315.1 tb2 rfl (by decide) ez338
                            have s369 := gSg.at xq341 sh315.1 tb2 rfl (by decide) ez339
                            have s370 := gSg.at xq341 sh315.1 tb2 rfl (by decide) ez340
                            have uq371 := gSg.uq xq341 uq (by decide)
                            have sS372 : gSs rT 1027 tyq341 [54002, 54003, 54004, 54005, 54006, 54007, 54008, 54010, 54011, 54012, 54013, 82000, 82001, 82002, 82003, 82004, 82005, 82006, 82007, 82008, 83000, 83001, 83002, 83003, 83004, 83005, 83006, 83007, 83008, 84000, 84001, 84002, 84003, 84004, 84005, 84006, 84007, 84008, 112999, 113999] hq341 hq341 := gSs.rf xq341.1
                            refine gz_s 1 (pc' := 232) (L' := [some (.ref x), some (.int (zi m)), some (.int (zi a)), some (.int (zi n)), some (.int (zi zq1)), some (.int (zi jn13v0)), some (.int (zi zq196)), some (.int (zi zq219)), some (.int (zi 1)), some (.int (zi zq241))]) (S' := [.int (zi (-1))]) rfl ?_
                            have G373 : gSg [112, 113] [] [54002, 54003, 54004, 54005, 54006, 54007, 54008, 54010, 54011, 54012, 54013, 82000, 82001, 82002, 82003, 82004, 82005, 82006, 82007, 82008, 83000, 83001, 83002, 83003, 83004, 83005, 83006, 83007, 83008, 84000, 84001, 84002, 84003, 84004, 84005, 84006, 84007, 84008, 112999, 113999] ty h tyq341 hq341 := gSg.ss G342 sS372 (by decide)
                            exact gz_end (I := .ireturn) (len := 1) rfl (Or.inl rfl) ⟨tyq341, G373, (-1), fq341_0, xq341_0, rfl, (by omega), (by omega), efq341_0, (by omega), (by omega), (by omega), (by omega), (by omega), (by omega), (by omega), yq341_0⟩
                        · refine gy_icF rfl (by decide) (by decide) (by omega) (by omega) hc254 ?_
                          refine gy_s 9 (pc' := 179) (L' := [some (.ref x), some (.int (zi m)), some (.int (zi a)), some (.int (zi n)), some (.int (zi zq1)), some (.int (zi jn13v0)), some (.int (zi zq196)), some (.int (zi zq219)), some (.int (zi 1)), some (.int (zi zq241))]) (S' := [.int (((zi a) + (zi 8)) + ((zi 3) * (zi 1))), .int (zi 1), .ref x]) (L2 := [some (.ref x), some (.int (zi m)), some (.int (zi a)), some (.int (zi n)), some (.int (zi zq1)), some (.int (zi jn13v0)), some (.int (zi zq196)), some (.int (zi zq219)), some (.int (zi 1)), some (.int (zi zq241))]) (S2 := [.int (zi ((a + 8) + 3)), .int (zi 1), .ref x]) rfl (by simp only [zi_add, zi_sub, zi_mul, zi_neg, zi_and1, zi_and7, zi_and15, zi_and31, zi_and255, Int.reduceAdd, Int.reduceMul, Int.reduceSub]) (by simp only [zi_add, zi_sub, zi_mul, zi_neg, zi_and1, zi_and7, zi_and15, zi_and31, zi_and255, Int.reduceAdd, Int.reduceMul, Int.reduceSub]) ?_
                          refine gz_call rfl (by decide) rfl (by decide) (by decide) (gcal_of rfl rfl rfl (Nat.le_of_ble_eq_true rfl) (gJ.recv (G := gGG) sq241.1 tx rfl rfl)) (cl_readBand1 _ sq241.1 x tx 1 (by omega) ((a + 8) + 3) (by omega) src s242 tsrc pic s243 tpic bn s244 tbn b0 s245 tb0 b1 s246 tb1 sz s250 (by omega) uq) (fun q374 _ wq374 => ?_)
                          obtain ⟨pq374, oq374, hq374⟩ := q374
                          obtain ⟨xq374, zq374, fq374_0, fq374_1, fq374_2, gq374, aq374, bq374, efq374_0, afq374_0, bfq374_0, efq374_1, afq374_1, bfq374_1, efq374_2, afq374_2, bfq374_2, uq374_0⟩ := wq374
                          refine ⟨_, gq374, ?_⟩
                          show gz gPP gGG gcn _ _ 182 [some (.ref x), some (.int (zi m)), some (.int (zi a)), some (.int (zi n)), some (.int (zi zq1)), some (.int (zi jn13v0)), some (.int (zi zq196)), some (.int (zi zq219)), some (.int (zi 1)), some (.int (zi zq241))] [.int (zi zq374)] hq374 _
                          have sq374 : gSs rT 1027 ty [54002, 54003, 54004, 54005, 54006, 54007, 54008, 54010, 54011, 54012, 54013, 82000, 82001, 82002, 82003, 82004, 82005, 82006, 82007, 82008, 83000, 83001, 83002, 83003, 83004, 83005, 83006, 83007, 83008, 84000, 84001, 84002, 84003, 84004, 84005, 84006, 84007, 84008, 112999, 113999] h hq374 := gSs.tr sq241 xq374 (by decide)
                          have s375 := (xq374.2.2.2.2.2 x 0 (by rw [tx]; decide)).trans s242
                          have s376 := (xq374.2.2.2.2.2 x 1 (by rw [tx]; decide)).trans s243
                          have s377 := (xq374.2.2.2.2.2 pic 0 (by rw [tpic]; decide)).trans s244
                          have s378 := (xq374.2.2.2.2.2 bn 0 (by rw [tbn]; decide)).trans s245
                          have s379 := (xq374.2.2.2.2.2 bn 1 (by rw [tbn]; decide)).trans s246
                          have s380 := (xq374.2.2.2.2.2 bn 2 (by rw [tbn]; decide)).trans s247
                          have s381 := (xq374.2.2.2.2.2 pic 2 (by rw [tpic]; decide)).trans s248
                          have s382 := (xq374.2.2.2.2.2 pic 3 (by rw [tpic]; decide)).trans s249
                          have s383 := (xq374.2.2.2.2.2 src 1 (by rw [tsrc]; decide)).trans s250
                          have s384 := (xq374.2.2.2.2.2 pic 7 (by rw [tpic]; decide)).trans s251
                          have s385 := (xq374.2.2.2.2.2 pic 8 (by rw [tpic]; decide)).trans s252
                          have s386 := (xq374.2.2.2.2.2 b0 1 (by rw [tb0]; decide)).trans efq241_0
                          have s387 := (xq374.2.2.2.2.2 b0 2 (by rw [tb0]; decide)).trans efq241_1
                          have s388 := (xq374.2.2.2.2.2 b0 3 (by rw [tb0]; decide)).trans efq241_2
                          refine gz_s 3 (pc' := 187) (L' := [some (.ref x), some (.int (zi m)), some (.int (zi a)), some (.int (zi n)), some (.int (zi zq1)), some (.int (zi jn13v0)), some (.int (zi zq196)), some (.int (zi zq219)), some (.int (zi 1)), some (.int (zi zq374))]) (S' := [.int (zi (-1)), .int (zi zq374)]) rfl ?_
                          by_cases hc389 : (zq374 : Int) = (-1)
                          · refine gy_icT (pc' := 193) rfl (by decide) (by decide) (by omega) (by omega) hc389 ?_
                            refine gy_s 4 (pc' := 164) (L' := [some (.ref x), some (.int (zi m)), some (.int (zi a)), some (.int (zi n)), some (.int (zi zq1)), some (.int (zi jn13v0)), some (.int (zi zq196)), some (.int (zi zq219)), some (.int ((zi 1) + zi 1)), some (.int (zi zq374))]) (S' := [.int (zi zq1), .int ((zi 1) + zi 1)]) (L2 := [some (.ref x), some (.int (zi m)), some (.int (zi a)), some (.int (zi n)), some (.int (zi zq1)), some (.int (zi jn13v0)), some (.int (zi zq196)), some (.int (zi zq219)), some (.int (zi 2)), some (.int (zi zq374))]) (S2 := [.int (zi zq1), .int (zi 2)]) rfl (by simp only [zi_add, zi_sub, zi_mul, zi_neg, zi_and1, zi_and7, zi_and15, zi_and31, zi_and255, Int.reduceAdd, Int.reduceMul, Int.reduceSub]) (by simp only [zi_add, zi_sub, zi_mul, zi_neg, zi_and1, zi_and7, zi_and15, zi_and31, zi_and255, Int.reduceAdd, Int.reduceMul, Int.reduceSub]) ?_
                            by_cases hc390 : (zq1 : Int) ≤ 2
                            · refine gy_icT (pc' := 199) rfl (by decide) (by decide) (by omega) (by omega) hc390 ?_
                              refine gz_s 1 (pc' := 200) (L' := [some (.ref x), some (.int (zi m)), some (.int (zi a)), some (.int (zi n)), some (.int (zi zq1)), some (.int (zi jn13v0)), some (.int (zi zq196)), some (.int (zi zq219)), some (.int (zi 2)), some (.int (zi zq374))]) (S' := [.ref x]) rfl ?_
                              refine gs_gtk rfl (by decide) rfl sq374.1 tx rfl rfl s376 ?_
                              refine gz_s 2 (pc' := 207) (L' := [some (.ref x), some (.int (zi m)), some (.int (zi a)), some (.int (zi n)), some (.int (zi zq1)), some (.int (zi jn13v0)), some (.int (zi zq196)), some (.int (zi zq219)), some (.int (zi 2)), some (.int (zi zq374))]) (S' := [.int (zi 194), .int (zi m), .ref pic]) rfl ?_
                              by_cases hc391 : ¬ (m : Int) = 194
                              · refine gy_icT (pc' := 214) rfl (by decide) (by decide) (by omega) (by omega) hc391 ?_
                                refine gz_s 1 (pc' := 215) (L' := [some (.ref x), some (.int (zi m)), some (.int (zi a)), some (.int (zi n)), some (.int (zi zq1)), some (.int (zi jn13v0)), some (.int (zi zq196)), some (.int (zi zq219)), some (.int (zi 2)), some (.int (zi zq374))]) (S' := [.int (zi 0), .ref pic]) rfl ?_
                                refine gs_put rfl (by decide) rfl sq374 tpic rfl rfl rfl rfl (Or.inl rfl) (by decide) (by omega) (by omega) (fun h392 sh392 eh392 fh392 => ?_)
                                have s393 := (fh392 x 0 (fun q => absurd q.2 (by decide))).trans s375
                                have s394 := (fh392 x 1 (fun q => absurd q.2 (by decide))).trans s376
                                have s395 := (fh392 pic 0 (fun q => absurd q.2 (by decide))).trans s377
                                have s396 := (fh392 bn 0 (fun q => absurd (((tbn).symm.trans (congrArg ty q.1)).trans tpic) (by decide))).trans s378
                                have s397 := (fh392 bn 1 (fun q => absurd (((tbn).symm.trans (congrArg ty q.1)).trans tpic) (by decide))).trans s379
                                have s398 := (fh392 bn 2 (fun q => absurd (((tbn).symm.trans (congrArg ty q.1)).trans tpic) (by decide))).trans s380
                                have s399 := (fh392 pic 2 (fun q => absurd q.2 (by decide))).trans s381
                                have s400 := (fh392 pic 3 (fun q => absurd q.2 (by decide))).trans s382
                                have s401 := (fh392 src 1 (fun q => absurd q.2 (by decide))).trans s383
                                have s402 := (fh392 pic 7 (fun q => absurd q.2 (by decide))).trans s384
                                have s403 := (fh392 pic 8 (fun q => absurd q.2 (by decide))).trans s385
                                have s404 := (fh392 b0 1 (fun q => absurd q.2 (by decide))).trans s386
                                have s405 := (fh392 b0 2 (fun q => absurd q.2 (by decide))).trans s387
                                have s406 := (fh392 b0 3 (fun q => absurd q.2 (by decide))).trans s388
                                have s407 := (fh392 b1 1 (fun q => absurd q.2 (by decide))).trans efq374_0
                                have s408 := (fh392 b1 2 (fun q => absurd q.2 (by decide))).trans efq374_1
                                have s409 := (fh392 b1 3 (fun q => absurd q.2 (by decide))).trans efq374_2
                                refine gz_s 1 (pc' := 219) (L' := [some (.ref x), some (.int (zi m)), some (.int (zi a)), some (.int (zi n)), some (.int (zi zq1)), some (.int (zi jn13v0)), some (.int (zi zq196)), some (.int (zi zq219)), some (.int (zi 2)), some (.int (zi zq374))]) (S' := [.ref x]) rfl ?_
                                refine gs_gtk rfl (by decide) rfl sh392.1 tx rfl rfl s394 ?_
                                refine gz_s 3 (pc' := 228) (L' := [some (.ref x), some (.int (zi m)), some (.int (zi a)), some (.int (zi n)), some (.int (zi zq1)), some (.int (zi jn13v0)), some (.int (zi zq196)), some (.int (zi zq219)), some (.int (zi 2)), some (.int (zi zq374))]) (S' := [.int (zi zq1), .int (zi zq196), .int (zi zq219), .ref pic]) rfl ?_
                                have k410 := sh392.2.1
                                have k410b := sh392.2.2.1
                                have hl411 : h392.2.2.2.1 co = h.2.2.2.1 co := congrFun sh392.2.2.2.2.1 co
                                have hl412 : h392.2.2.2.1 dm = h.2.2.2.1 dm := congrFun sh392.2.2.2.2.1 dm
                                have hl413 : h392.2.2.2.1 co = h.2.2.2.1 co := congrFun sh392.2.2.2.2.1 co
                                have hl414 : h392.2.2.2.1 dm = h.2.2.2.1 dm := congrFun sh392.2.2.2.2.1 dm
                                obtain ⟨z415, ez415, az415, bz415⟩ := gJ.int (k := 1) (G := gGG) sh392.1 tb2 rfl rfl rfl
                                obtain ⟨z416, ez416, az416, bz416⟩ := gJ.int (k := 2) (G := gGG) sh392.1 tb2 rfl rfl rfl
                                obtain ⟨z417, ez417, az417, bz417⟩ := gJ.int (k := 3) (G := gGG) sh392.1 tb2 rfl rfl rfl
                                refine gz_call rfl (by decide) rfl (by decide) (by decide) (gcal_of rfl rfl rfl (Nat.le_of_ble_eq_true rfl) (gJ.recv (G := gGG) sh392.1 tpic rfl rfl)) (cl_Picture_begin _ sh392.1 pic tpic zq219 (by omega) zq196 (by omega) zq1 (by omega) bn s395 tbn b0 s396 tb0 b1 s397 tb1 b2 s398 tb2 co s399 tco dm s400 tdm fq241_0 s404 (by omega) fq241_1 s405 (by omega) fq241_2 s406 (by omega) fq374_0 s407 (by omega) fq374_1 s408 (by omega) fq374_2 s409 (by omega) z415 ez415 (by omega) z416 ez416 (by omega) z417 ez417 (by omega) (by omega) (by omega) (by omega) (by omega) (by omega) uq) (fun q418 _ wq418 => ?_)
                                obtain ⟨pq418, oq418, hq418⟩ := q418
                                obtain ⟨tyq418, xq418, fq418_0, xq418_0, gq418, efq418_0, afq418_0, bfq418_0, axq418_0, bxq418_0, uq418_0, uq418_1, uq418_2, uq418_3, yq418_0⟩ := wq418
                                refine ⟨_, gq418, ?_⟩
                                show gz gPP gGG gcn _ _ 231 [some (.ref x), some (.int (zi m)), some (.int (zi a)), some (.int (zi n)), some (.int (zi zq1)), some (.int (zi jn13v0)), some (.int (zi zq196)), some (.int (zi zq219)), some (.int (zi 2)), some (.int (zi zq374))] [] hq418 _
                                have G419 : gSg [112, 113] [] [54002, 54003, 54004, 54005, 54006, 54007, 54008, 54010, 54011, 54012, 54013, 82000, 82001, 82002, 82003, 82004, 82005, 82006, 82007, 82008, 83000, 83001, 83002, 83003, 83004, 83005, 83006, 83007, 83008, 84000, 84001, 84002, 84003, 84004, 84005, 84006, 84007, 84008, 112999, 113999] ty h tyq418 hq418 := gSg.tr (gSg.ss G0 sh392 (by decide)) xq418 (by decide) (by decide) (fun x hx => by cases hx)
                                have t420 : tyq418 x = 65 := gSg.typ xq418 sh392.1 tx rfl
                                have t421 : tyq418 src = 51 := gSg.typ xq418 sh392.1 tsrc rfl
                                have t422 : tyq418 pic = 54 := gSg.typ xq418 sh392.1 tpic rfl
                                have t423 : tyq418 bn = 57 := gSg.typ xq418 sh392.1 tbn rfl
                                have t424 : tyq418 b0 = 82 := gSg.typ xq418 sh392.1 tb0 rfl
                                have t425 : tyq418 b1 = 83 := gSg.typ xq418 sh392.1 tb1 rfl
                                have t426 : tyq418 b2 = 84 := gSg.typ xq418 sh392.1 tb2 rfl
                                have t427 : tyq418 co = 112 := gSg.typ xq418 sh392.1 tco rfl
                                have hl428 : hq418.2.2.2.1 co = h392.2.2.2.1 co := gSg.len xq418 sh392.1 tco rfl
                                have t429 : tyq418 dm = 113 := gSg.typ xq418 sh392.1 tdm rfl
                                have hl430 : hq418.2.2.2.1 dm = h392.2.2.2.1 dm := gSg.len xq418 sh392.1 tdm rfl
                                have s431 := gSg.at xq418 sh392.1 tx rfl (by decide) s393
                                have s432 := gSg.at xq418 sh392.1 tx rfl (by decide) s394
                                have s433 := gSg.at xq418 sh392.1 tpic rfl (by decide) s395
                                have s434 := gSg.at xq418 sh392.1 tbn rfl (by decide) s396
                                have s435 := gSg.at xq418 sh392.1 tbn rfl (by decide) s397
                                have s436 := gSg.at xq418 sh392.1 tbn rfl (by decide) s398
                                have s437 := gSg.at xq418 sh392.1 tsrc rfl (by decide) s401
                                have s438 := gSg.at xq418 sh392.1 tb0 rfl (by decide) s404
                                have s439 := gSg.at xq418 sh392.1 tb0 rfl (by decide) s405
                                have s440 := gSg.at xq418 sh392.1 tb0 rfl (by decide) s406
                                have s441 := gSg.at xq418 sh392.1 tb1 rfl (by decide) s407
                                have s442 := gSg.at xq418 sh392.1 tb1 rfl (by decide) s408
                                have s443 := gSg.at xq418 sh392.1 tb1 rfl (by decide) s409
                                have s444 := gSg.at xq418 sh392.1 tpic rfl (by decide) eh392
                                have s445 := gSg.at xq418 sh392.1 tb2 rfl (by decide) ez415
                                have s446 := gSg.at xq418 sh392.1 tb2 rfl (by decide) ez416
                                have s447 := gSg.at xq418 sh392.1 tb2 rfl (by decide) ez417
                                have uq448 := gSg.uq xq418 uq (by decide)
                                have sS449 : gSs rT 1027 tyq418 [54002, 54003, 54004, 54005, 54006, 54007, 54008, 54010, 54011, 54012, 54013, 82000, 82001, 82002, 82003, 82004, 82005, 82006, 82007, 82008, 83000, 83001, 83002, 83003, 83004, 83005, 83006, 83007, 83008, 84000, 84001, 84002, 84003, 84004, 84005, 84006, 84007, 84008, 112999, 113999] hq418 hq418 := gSs.rf xq418.1
                                refine gz_s 1 (pc' := 232) (L' := [some (.ref x), some (.int (zi m)), some (.int (zi a)), some (.int (zi n)), some (.int (zi zq1)), some (.int (zi jn13v0)), some (.int (zi zq196)), some (.int (zi zq219)), some (.int (zi 2)), some (.int (zi zq374))]) (S' := [.int (zi (-1))]) rfl ?_
                                have G450 : gSg [112, 113] [] [54002, 54003, 54004, 54005, 54006, 54007, 54008, 54010, 54011, 54012, 54013, 82000, 82001, 82002, 82003, 82004, 82005, 82006, 82007, 82008, 83000, 83001, 83002, 83003, 83004, 83005, 83006, 83007, 83008, 84000, 84001, 84002, 84003, 84004, 84005, 84006, 84007, 84008, 112999, 113999] ty h tyq418 hq418 := gSg.ss G419 sS449 (by decide)
                                exact gz_end (I := .ireturn) (len := 1) rfl (Or.inl rfl) ⟨tyq418, G450, (-1), fq418_0, xq418_0, rfl, (by omega), (by omega), efq418_0, (by omega), (by omega), (by omega), (by omega), (by omega), (by omega), (by omega), yq418_0⟩
                              · refine gy_icF rfl (by decide) (by decide) (by omega) (by omega) hc391 ?_
                                refine gz_s 2 (pc' := 215) (L' := [some (.ref x), some (.int (zi m)), some (.int (zi a)), some (.int (zi n)), some (.int (zi zq1)), some (.int (zi jn13v0)), some (.int (zi zq196)), some (.int (zi zq219)), some (.int (zi 2)), some (.int (zi zq374))]) (S' := [.int (zi 1), .ref pic]) rfl ?_
                                refine gs_put rfl (by decide) rfl sq374 tpic rfl rfl rfl rfl (Or.inl rfl) (by decide) (by omega) (by omega) (fun h451 sh451 eh451 fh451 => ?_)
                                have s452 := (fh451 x 0 (fun q => absurd q.2 (by decide))).trans s375
                                have s453 := (fh451 x 1 (fun q => absurd q.2 (by decide))).trans s376
                                have s454 := (fh451 pic 0 (fun q => absurd q.2 (by decide))).trans s377
                                have s455 := (fh451 bn 0 (fun q => absurd (((tbn).symm.trans (congrArg ty q.1)).trans tpic) (by decide))).trans s378
                                have s456 := (fh451 bn 1 (fun q => absurd (((tbn).symm.trans (congrArg ty q.1)).trans tpic) (by decide))).trans s379
                                have s457 := (fh451 bn 2 (fun q => absurd (((tbn).symm.trans (congrArg ty q.1)).trans tpic) (by decide))).trans s380
                                have s458 := (fh451 pic 2 (fun q => absurd q.2 (by decide))).trans s381
                                have s459 := (fh451 pic 3 (fun q => absurd q.2 (by decide))).trans s382
                                have s460 := (fh451 src 1 (fun q => absurd q.2 (by decide))).trans s383
                                have s461 := (fh451 pic 7 (fun q => absurd q.2 (by decide))).trans s384
                                have s462 := (fh451 pic 8 (fun q => absurd q.2 (by decide))).trans s385
                                have s463 := (fh451 b0 1 (fun q => absurd q.2 (by decide))).trans s386
                                have s464 := (fh451 b0 2 (fun q => absurd q.2 (by decide))).trans s387
                                have s465 := (fh451 b0 3 (fun q => absurd q.2 (by decide))).trans s388
                                have s466 := (fh451 b1 1 (fun q => absurd q.2 (by decide))).trans efq374_0
                                have s467 := (fh451 b1 2 (fun q => absurd q.2 (by decide))).trans efq374_1
                                have s468 := (fh451 b1 3 (fun q => absurd q.2 (by decide))).trans efq374_2
                                refine gz_s 1 (pc' := 219) (L' := [some (.ref x), some (.int (zi m)), some (.int (zi a)), some (.int (zi n)), some (.int (zi zq1)), some (.int (zi jn13v0)), some (.int (zi zq196)), some (.int (zi zq219)), some (.int (zi 2)), some (.int (zi zq374))]) (S' := [.ref x]) rfl ?_
                                refine gs_gtk rfl (by decide) rfl sh451.1 tx rfl rfl s453 ?_
                                refine gz_s 3 (pc' := 228) (L' := [some (.ref x), some (.int (zi m)), some (.int (zi a)), some (.int (zi n)), some (.int (zi zq1)), some (.int (zi jn13v0)), some (.int (zi zq196)), some (.int (zi zq219)), some (.int (zi 2)), some (.int (zi zq374))]) (S' := [.int (zi zq1), .int (zi zq196), .int (zi zq219), .ref pic]) rfl ?_
                                have k469 := sh451.2.1
                                have k469b := sh451.2.2.1
                                have hl470 : h451.2.2.2.1 co = h.2.2.2.1 co := congrFun sh451.2.2.2.2.1 co
                                have hl471 : h451.2.2.2.1 dm = h.2.2.2.1 dm := congrFun sh451.2.2.2.2.1 dm
                                have hl472 : h451.2.2.2.1 co = h.2.2.2.1 co := congrFun sh451.2.2.2.2.1 co
                                have hl473 : h451.2.2.2.1 dm = h.2.2.2.1 dm := congrFun sh451.2.2.2.2.1 dm
                                obtain ⟨z474, ez474, az474, bz474⟩ := gJ.int (k := 1) (G := gGG) sh451.1 tb2 rfl rfl rfl
                                obtain ⟨z475, ez475, az475, bz475⟩ := gJ.int (k := 2) (G := gGG) sh451.1 tb2 rfl rfl rfl
                                obtain ⟨z476, ez476, az476, bz476⟩ := gJ.int (k := 3) (G := gGG) sh451.1 tb2 rfl rfl rfl
                                refine gz_call rfl (by decide) rfl (by decide) (by decide) (gcal_of rfl rfl rfl (Nat.le_of_ble_eq_true rfl) (gJ.recv (G := gGG) sh451.1 tpic rfl rfl)) (cl_Picture_begin _ sh451.1 pic tpic zq219 (by omega) zq196 (by omega) zq1 (by omega) bn s454 tbn b0 s455 tb0 b1 s456 tb1 b2 s457 tb2 co s458 tco dm s459 tdm fq241_0 s463 (by omega) fq241_1 s464 (by omega) fq241_2 s465 (by omega) fq374_0 s466 (by omega) fq374_1 s467 (by omega) fq374_2 s468 (by omega) z474 ez474 (by omega) z475 ez475 (by omega) z476 ez476 (by omega) (by omega) (by omega) (by omega) (by omega) (by omega) uq) (fun q477 _ wq477 => ?_)
                                obtain ⟨pq477, oq477, hq477⟩ := q477
                                obtain ⟨tyq477, xq477, fq477_0, xq477_0, gq477, efq477_0, afq477_0, bfq477_0, axq477_0, bxq477_0, uq477_0, uq477_1, uq477_2, uq477_3, yq477_0⟩ := wq477
                                refine ⟨_, gq477, ?_⟩
                                show gz gPP gGG gcn _ _ 231 [some (.ref x), some (.int (zi m)), some (.int (zi a)), some (.int (zi n)), some (.int (zi zq1)), some (.int (zi jn13v0)), some (.int (zi zq196)), some (.int (zi zq219)), some (.int (zi 2)), some (.int (zi zq374))] [] hq477 _
                                have G478 : gSg [112, 113] [] [54002, 54003, 54004, 54005, 54006, 54007, 54008, 54010, 54011, 54012, 54013, 82000, 82001, 82002, 82003, 82004, 82005, 82006, 82007, 82008, 83000, 83001, 83002, 83003, 83004, 83005, 83006, 83007, 83008, 84000, 84001, 84002, 84003, 84004, 84005, 84006, 84007, 84008, 112999, 113999] ty h tyq477 hq477 := gSg.tr (gSg.ss G0 sh451 (by decide)) xq477 (by decide) (by decide) (fun x hx => by cases hx)
                                have t479 : tyq477 x = 65 := gSg.typ xq477 sh451.1 tx rfl
                                have t480 : tyq477 src = 51 := gSg.typ xq477 sh451.1 tsrc rfl
                                have t481 : tyq477 pic = 54 := gSg.typ xq477 sh451.1 tpic rfl
                                have t482 : tyq477 bn = 57 := gSg.typ xq477 sh451.1 tbn rfl
                                have t483 : tyq477 b0 = 82 := gSg.typ xq477 sh451.1 tb0 rfl
                                have t484 : tyq477 b1 = 83 := gSg.typ xq477 sh451.1 tb1 rfl
                                have t485 : tyq477 b2 = 84 := gSg.typ xq477 sh451.1 tb2 rfl
                                have t486 : tyq477 co = 112 := gSg.typ xq477 sh451.1 tco rfl
                                have hl487 : hq477.2.2.2.1 co = h451.2.2.2.1 co := gSg.len xq477 sh451.1 tco rfl
                                have t488 : tyq477 dm = 113 := gSg.typ xq477 sh451.1 tdm rfl
                                have hl489 : hq477.2.2.2.1 dm = h451.2.2.2.1 dm := gSg.len xq477 sh451.1 tdm rfl
                                have s490 := gSg.at xq477 sh451.1 tx rfl (by decide) s452
                                have s491 := gSg.at xq477 sh451.1 tx rfl (by decide) s453
                                have s492 := gSg.at xq477 sh451.1 tpic rfl (by decide) s454
                                have s493 := gSg.at xq477 sh451.1 tbn rfl (by decide) s455
                                have s494 := gSg.at xq477 sh451.1 tbn rfl (by decide) s456
                                have s495 := gSg.at xq477 sh451.1 tbn rfl (by decide) s457
                                have s496 := gSg.at xq477 sh451.1 tsrc rfl (by decide) s460
                                have s497 := gSg.at xq477 sh451.1 tb0 rfl (by decide) s463
                                have s498 := gSg.at xq477 sh451.1 tb0 rfl (by decide) s464
                                have s499 := gSg.at xq477 sh451.1 tb0 rfl (by decide) s465
                                have s500 := gSg.at xq477 sh451.1 tb1 rfl (by decide) s466
                                have s501 := gSg.at xq477 sh451.1 tb1 rfl (by decide) s467
                                have s502 := gSg.at xq477 sh451.1 tb1 rfl (by decide) s468
                                have s503 := gSg.at xq477 sh451.1 tpic rfl (by decide) eh451
                                have s504 := gSg.at xq477 sh451.1 tb2 rfl (by decide) ez474
                                have s505 := gSg.at xq477 sh451.1 tb2 rfl (by decide) ez475
                                have s506 := gSg.at xq477 sh451.1 tb2 rfl (by decide) ez476
                                have uq507 := gSg.uq xq477 uq (by decide)
                                have sS508 : gSs rT 1027 tyq477 [54002, 54003, 54004, 54005, 54006, 54007, 54008, 54010, 54011, 54012, 54013, 82000, 82001, 82002, 82003, 82004, 82005, 82006, 82007, 82008, 83000, 83001, 83002, 83003, 83004, 83005, 83006, 83007, 83008, 84000, 84001, 84002, 84003, 84004, 84005, 84006, 84007, 84008, 112999, 113999] hq477 hq477 := gSs.rf xq477.1
                                refine gz_s 1 (pc' := 232) (L' := [some (.ref x), some (.int (zi m)), some (.int (zi a)), some (.int (zi n)), some (.int (zi zq1)), some (.int (zi jn13v0)), some (.int (zi zq196)), some (.int (zi zq219)), some (.int (zi 2)), some (.int (zi zq374))]) (S' := [.int (zi (-1))]) rfl ?_
                                have G509 : gSg [112, 113] [] [54002, 54003, 54004, 54005, 54006, 54007, 54008, 54010, 54011, 54012, 54013, 82000, 82001, 82002, 82003, 82004, 82005, 82006, 82007, 82008, 83000, 83001, 83002, 83003, 83004, 83005, 83006, 83007, 83008, 84000, 84001, 84002, 84003, 84004, 84005, 84006, 84007, 84008, 112999, 113999] ty h tyq477 hq477 := gSg.ss G478 sS508 (by decide)
                                exact gz_end (I := .ireturn) (len := 1) rfl (Or.inl rfl) ⟨tyq477, G509, (-1), fq477_0, xq477_0, rfl, (by omega), (by omega), efq477_0, (by omega), (by omega), (by omega), (by omega), (by omega), (by omega), (by omega), yq477_0⟩
                            · refine gy_icF rfl (by decide) (by decide) (by omega) (by omega) hc390 ?_
                              refine gy_s 9 (pc' := 179) (L' := [some (.ref x), some (.int (zi m)), some (.int (zi a)), some (.int (zi n)), some (.int (zi zq1)), some (.int (zi jn13v0)), some (.int (zi zq196)), some (.int (zi zq219)), some (.int (zi 2)), some (.int (zi zq374))]) (S' := [.int (((zi a) + (zi 8)) + ((zi 3) * (zi 2))), .int (zi 2), .ref x]) (L2 := [some (.ref x), some (.int (zi m)), some (.int (zi a)), some (.int (zi n)), some (.int (zi zq1)), some (.int (zi jn13v0)), some (.int (zi zq196)), some (.int (zi zq219)), some (.int (zi 2)), some (.int (zi zq374))]) (S2 := [.int (zi ((a + 8) + 6)), .int (zi 2), .ref x]) rfl (by simp only [zi_add, zi_sub, zi_mul, zi_neg, zi_and1, zi_and7, zi_and15, zi_and31, zi_and255, Int.reduceAdd, Int.reduceMul, Int.reduceSub]) (by simp only [zi_add, zi_sub, zi_mul, zi_neg, zi_and1, zi_and7, zi_and15, zi_and31, zi_and255, Int.reduceAdd, Int.reduceMul, Int.reduceSub]) ?_
                              refine gz_call rfl (by decide) rfl (by decide) (by decide) (gcal_of rfl rfl rfl (Nat.le_of_ble_eq_true rfl) (gJ.recv (G := gGG) sq374.1 tx rfl rfl)) (cl_readBand2 _ sq374.1 x tx 2 (by omega) ((a + 8) + 6) (by omega) src s375 tsrc pic s376 tpic bn s377 tbn b0 s378 tb0 b1 s379 tb1 b2 s380 tb2 sz s383 (by omega) uq) (fun q510 _ wq510 => ?_)
                              obtain ⟨pq510, oq510, hq510⟩ := q510
                              obtain ⟨xq510, zq510, fq510_0, fq510_1, fq510_2, gq510, aq510, bq510, efq510_0, afq510_0, bfq510_0, efq510_1, afq510_1, bfq510_1, efq510_2, afq510_2, bfq510_2, uq510_0⟩ := wq510
                              refine ⟨_, gq510, ?_⟩
                              show gz gPP gGG gcn _ _ 182 [some (.ref x), some (.int (zi m)), some (.int (zi a)), some (.int (zi n)), some (.int (zi zq1)), some (.int (zi jn13v0)), some (.int (zi zq196)), some (.int (zi zq219)), some (.int (zi 2)), some (.int (zi zq374))] [.int (zi zq510)] hq510 _
                              have sq510 : gSs rT 1027 ty [54002, 54003, 54004, 54005, 54006, 54007, 54008, 54010, 54011, 54012, 54013, 82000, 82001, 82002, 82003, 82004, 82005, 82006, 82007, 82008, 83000, 83001, 83002, 83003, 83004, 83005, 83006, 83007, 83008, 84000, 84001, 84002, 84003, 84004, 84005, 84006, 84007, 84008, 112999, 113999] h hq510 := gSs.tr sq374 xq510 (by decide)
                              have s511 := (xq510.2.2.2.2.2 x 0 (by rw [tx]; decide)).trans s375
                              have s512 := (xq510.2.2.2.2.2 x 1 (by rw [tx]; decide)).trans s376
                              have s513 := (xq510.2.2.2.2.2 pic 0 (by rw [tpic]; decide)).trans s377
                              have s514 := (xq510.2.2.2.2.2 bn 0 (by rw [tbn]; decide)).trans s378
                              have s515 := (xq510.2.2.2.2.2 bn 1 (by rw [tbn]; decide)).trans s379
                              have s516 := (xq510.2.2.2.2.2 bn 2 (by rw [tbn]; decide)).trans s380
                              have s517 := (xq510.2.2.2.2.2 pic 2 (by rw [tpic]; decide)).trans s381
                              have s518 := (xq510.2.2.2.2.2 pic 3 (by rw [tpic]; decide)).trans s382
                              have s519 := (xq510.2.2.2.2.2 src 1 (by rw [tsrc]; decide)).trans s383
                              have s520 := (xq510.2.2.2.2.2 pic 7 (by rw [tpic]; decide)).trans s384
                              have s521 := (xq510.2.2.2.2.2 pic 8 (by rw [tpic]; decide)).trans s385
                              have s522 := (xq510.2.2.2.2.2 b0 1 (by rw [tb0]; decide)).trans s386
                              have s523 := (xq510.2.2.2.2.2 b0 2 (by rw [tb0]; decide)).trans s387
                              have s524 := (xq510.2.2.2.2.2 b0 3 (by rw [tb0]; decide)).trans s388
                              have s525 := (xq510.2.2.2.2.2 b1 1 (by rw [tb1]; decide)).trans efq374_0
                              have s526 := (xq510.2.2.2.2.2 b1 2 (by rw [tb1]; decide)).trans efq374_1
                              have s527 := (xq510.2.2.2.2.2 b1 3 (by rw [tb1]; decide)).trans efq374_2
                              refine gz_s 3 (pc' := 187) (L' := [some (.ref x), some (.int (zi m)), some (.int (zi a)), some (.int (zi n)), some (.int (zi zq1)), some (.int (zi jn13v0)), some (.int (zi zq196)), some (.int (zi zq219)), some (.int (zi 2)), some (.int (zi zq510))]) (S' := [.int (zi (-1)), .int (zi zq510)]) rfl ?_
                              by_cases hc528 : (zq510 : Int) = (-1)
                              · refine gy_icT (pc' := 193) rfl (by decide) (by decide) (by omega) (by omega) hc528 ?_
                                refine gy_s 4 (pc' := 164) (L' := [some (.ref x), some (.int (zi m)), some (.int (zi a)), some (.int (zi n)), some (.int (zi zq1)), some (.int (zi jn13v0)), some (.int (zi zq196)), some (.int (zi zq219)), some (.int ((zi 2) + zi 1)), some (.int (zi zq510))]) (S' := [.int (zi zq1), .int ((zi 2) + zi 1)]) (L2 := [some (.ref x), some (.int (zi m)), some (.int (zi a)), some (.int (zi n)), some (.int (zi zq1)), some (.int (zi jn13v0)), some (.int (zi zq196)), some (.int (zi zq219)), some (.int (zi 3)), some (.int (zi zq510))]) (S2 := [.int (zi zq1), .int (zi 3)]) rfl (by simp only [zi_add, zi_sub, zi_mul, zi_neg, zi_and1, zi_and7, zi_and15, zi_and31, zi_and255, Int.reduceAdd, Int.reduceMul, Int.reduceSub]) (by simp only [zi_add, zi_sub, zi_mul, zi_neg, zi_and1, zi_and7, zi_and15, zi_and31, zi_and255, Int.reduceAdd, Int.reduceMul, Int.reduceSub]) ?_
                                refine gy_icT (pc' := 199) rfl (by decide) (by decide) (by omega) (by omega) (by first | (simp [zc]; done) | (simp only [zc]; omega)) ?_
                                refine gz_s 1 (pc' := 200) (L' := [some (.ref x), some (.int (zi m)), some (.int (zi a)), some (.int (zi n)), some (.int (zi zq1)), some (.int (zi jn13v0)), some (.int (zi zq196)), some (.int (zi zq219)), some (.int (zi 3)), some (.int (zi zq510))]) (S' := [.ref x]) rfl ?_
                                refine gs_gtk rfl (by decide) rfl sq510.1 tx rfl rfl s512 ?_
                                refine gz_s 2 (pc' := 207) (L' := [some (.ref x), some (.int (zi m)), some (.int (zi a)), some (.int (zi n)), some (.int (zi zq1)), some (.int (zi jn13v0)), some (.int (zi zq196)), some (.int (zi zq219)), some (.int (zi 3)), some (.int (zi zq510))]) (S' := [.int (zi 194), .int (zi m), .ref pic]) rfl ?_
                                by_cases hc529 : ¬ (m : Int) = 194
                                · refine gy_icT (pc' := 214) rfl (by decide) (by decide) (by omega) (by omega) hc529 ?_
                                  refine gz_s 1 (pc' := 215) (L' := [some (.ref x), some (.int (zi m)), some (.int (zi a)), some (.int (zi n)), some (.int (zi zq1)), some (.int (zi jn13v0)), some (.int (zi zq196)), some (.int (zi zq219)), some (.int (zi 3)), some (.int (zi zq510))]) (S' := [.int (zi 0), .ref pic]) rfl ?_
                                  refine gs_put rfl (by decide) rfl sq510 tpic rfl rfl rfl rfl (Or.inl rfl) (by decide) (by omega) (by omega) (fun h530 sh530 eh530 fh530 => ?_)
                                  have s531 := (fh530 x 0 (fun q => absurd q.2 (by decide))).trans s511
                                  have s532 := (fh530 x 1 (fun q => absurd q.2 (by decide))).trans s512
                                  have s533 := (fh530 pic 0 (fun q => absurd q.2 (by decide))).trans s513
                                  have s534 := (fh530 bn 0 (fun q => absurd (((tbn).symm.trans (congrArg ty q.1)).trans tpic) (by decide))).trans s514
                                  have s535 := (fh530 bn 1 (fun q => absurd (((tbn).symm.trans (congrArg ty q.1)).trans tpic) (by decide))).trans s515
                                  have s536 := (fh530 bn 2 (fun q => absurd (((tbn).symm.trans (congrArg ty q.1)).trans tpic) (by decide))).trans s516
                                  have s537 := (fh530 pic 2 (fun q => absurd q.2 (by decide))).trans s517
                                  have s538 := (fh530 pic 3 (fun q => absurd q.2 (by decide))).trans s518
                                  have s539 := (fh530 src 1 (fun q => absurd q.2 (by decide))).trans s519
                                  have s540 := (fh530 pic 7 (fun q => absurd q.2 (by decide))).trans s520
                                  have s541 := (fh530 pic 8 (fun q => absurd q.2 (by decide))).trans s521
                                  have s542 := (fh530 b0 1 (fun q => absurd q.2 (by decide))).trans s522
                                  have s543 := (fh530 b0 2 (fun q => absurd q.2 (by decide))).trans s523
                                  have s544 := (fh530 b0 3 (fun q => absurd q.2 (by decide))).trans s524
                                  have s545 := (fh530 b1 1 (fun q => absurd q.2 (by decide))).trans s525
                                  have s546 := (fh530 b1 2 (fun q => absurd q.2 (by decide))).trans s526
                                  have s547 := (fh530 b1 3 (fun q => absurd q.2 (by decide))).trans s527
                                  have s548 := (fh530 b2 1 (fun q => absurd q.2 (by decide))).trans efq510_0
                                  have s549 := (fh530 b2 2 (fun q => absurd q.2 (by decide))).trans efq510_1
                                  have s550 := (fh530 b2 3 (fun q => absurd q.2 (by decide))).trans efq510_2
                                  refine gz_s 1 (pc' := 219) (L' := [some (.ref x), some (.int (zi m)), some (.int (zi a)), some (.int (zi n)), some (.int (zi zq1)), some (.int (zi jn13v0)), some (.int (zi zq196)), some (.int (zi zq219)), some (.int (zi 3)), some (.int (zi zq510))]) (S' := [.ref x]) rfl ?_
                                  refine gs_gtk rfl (by decide) rfl sh530.1 tx rfl rfl s532 ?_
                                  refine gz_s 3 (pc' := 228) (L' := [some (.ref x), some (.int (zi m)), some (.int (zi a)), some (.int (zi n)), some (.int (zi zq1)), some (.int (zi jn13v0)), some (.int (zi zq196)), some (.int (zi zq219)), some (.int (zi 3)), some (.int (zi zq510))]) (S' := [.int (zi zq1), .int (zi zq196), .int (zi zq219), .ref pic]) rfl ?_
                                  have k551 := sh530.2.1
                                  have k551b := sh530.2.2.1
                                  have hl552 : h530.2.2.2.1 co = h.2.2.2.1 co := congrFun sh530.2.2.2.2.1 co
                                  have hl553 : h530.2.2.2.1 dm = h.2.2.2.1 dm := congrFun sh530.2.2.2.2.1 dm
                                  have hl554 : h530.2.2.2.1 co = h.2.2.2.1 co := congrFun sh530.2.2.2.2.1 co
                                  have hl555 : h530.2.2.2.1 dm = h.2.2.2.1 dm := congrFun sh530.2.2.2.2.1 dm
                                  refine gz_call rfl (by decide) rfl (by decide) (by decide) (gcal_of rfl rfl rfl (Nat.le_of_ble_eq_true rfl) (gJ.recv (G := gGG) sh530.1 tpic rfl rfl)) (cl_Picture_begin _ sh530.1 pic tpic zq219 (by omega) zq196 (by omega) zq1 (by omega) bn s533 tbn b0 s534 tb0 b1 s535 tb1 b2 s536 tb2 co s537 tco dm s538 tdm fq241_0 s542 (by omega) fq241_1 s543 (by omega) fq241_2 s544 (by omega) fq374_0 s545 (by omega) fq374_1 s546 (by omega) fq374_2 s547 (by omega) fq510_0 s548 (by omega) fq510_1 s549 (by omega) fq510_2 s550 (by omega) (by omega) (by omega) (by omega) (by omega) (by omega) uq) (fun q556 _ wq556 => ?_)
                                  obtain ⟨pq556, oq556, hq556⟩ := q556
                                  obtain ⟨tyq556, xq556, fq556_0, xq556_0, gq556, efq556_0, afq556_0, bfq556_0, axq556_0, bxq556_0, uq556_0, uq556_1, uq556_2, uq556_3, yq556_0⟩ := wq556
                                  refine ⟨_, gq556, ?_⟩
                                  show gz gPP gGG gcn _ _ 231 [some (.ref x), some (.int (zi m)), some (.int (zi a)), some (.int (zi n)), some (.int (zi zq1)), some (.int (zi jn13v0)), some (.int (zi zq196)), some (.int (zi zq219)), some (.int (zi 3)), some (.int (zi zq510))] [] hq556 _
                                  have G557 : gSg [112, 113] [] [54002, 54003, 54004, 54005, 54006, 54007, 54008, 54010, 54011, 54012, 54013, 82000, 82001, 82002, 82003, 82004, 82005, 82006, 82007, 82008, 83000, 83001, 83002, 83003, 83004, 83005, 83006, 83007, 83008, 84000, 84001, 84002, 84003, 84004, 84005, 84006, 84007, 84008, 112999, 113999] ty h tyq556 hq556 := gSg.tr (gSg.ss G0 sh530 (by decide)) xq556 (by decide) (by decide) (fun x hx => by cases hx)
                                  have t558 : tyq556 x = 65 := gSg.typ xq556 sh530.1 tx rfl
                                  have t559 : tyq556 src = 51 := gSg.typ xq556 sh530.1 tsrc rfl
                                  have t560 : tyq556 pic = 54 := gSg.typ xq556 sh530.1 tpic rfl
                                  have t561 : tyq556 bn = 57 := gSg.typ xq556 sh530.1 tbn rfl
                                  have t562 : tyq556 b0 = 82 := gSg.typ xq556 sh530.1 tb0 rfl
                                  have t563 : tyq556 b1 = 83 := gSg.typ xq556 sh530.1 tb1 rfl
                                  have t564 : tyq556 b2 = 84 := gSg.typ xq556 sh530.1 tb2 rfl
                                  have t565 : tyq556 co = 112 := gSg.typ xq556 sh530.1 tco rfl
                                  have hl566 : hq556.2.2.2.1 co = h530.2.2.2.1 co := gSg.len xq556 sh530.1 tco rfl
                                  have t567 : tyq556 dm = 113 := gSg.typ xq556 sh530.1 tdm rfl
                                  have hl568 : hq556.2.2.2.1 dm = h530.2.2.2.1 dm := gSg.len xq556 sh530.1 tdm rfl
                                  have s569 := gSg.at xq556 sh530.1 tx rfl (by decide) s531
                                  have s570 := gSg.at xq556 sh530.1 tx rfl (by decide) s532
                                  have s571 := gSg.at xq556 sh530.1 tpic rfl (by decide) s533
                                  have s572 := gSg.at xq556 sh530.1 tbn rfl (by decide) s534
                                  have s573 := gSg.at xq556 sh530.1 tbn rfl (by decide) s535
                                  have s574 := gSg.at xq556 sh530.1 tbn rfl (by decide) s536
                                  have s575 := gSg.at xq556 sh530.1 tsrc rfl (by decide) s539
                                  have s576 := gSg.at xq556 sh530.1 tb0 rfl (by decide) s542
                                  have s577 := gSg.at xq556 sh530.1 tb0 rfl (by decide) s543
                                  have s578 := gSg.at xq556 sh530.1 tb0 rfl (by decide) s544
                                  have s579 := gSg.at xq556 sh530.1 tb1 rfl (by decide) s545
                                  have s580 := gSg.at xq556 sh530.1 tb1 rfl (by decide) s546
                                  have s581 := gSg.at xq556 sh530.1 tb1 rfl (by decide) s547
                                  have s582 := gSg.at xq556 sh530.1 tb2 rfl (by decide) s548
                                  have s583 := gSg.at xq556 sh530.1 tb2 rfl (by decide) s549
                                  have s584 := gSg.at xq556 sh530.1 tb2 rfl (by decide) s550
                                  have s585 := gSg.at xq556 sh530.1 tpic rfl (by decide) eh530
                                  have uq586 := gSg.uq xq556 uq (by decide)
                                  have sS587 : gSs rT 1027 tyq556 [54002, 54003, 54004, 54005, 54006, 54007, 54008, 54010, 54011, 54012, 54013, 82000, 82001, 82002, 82003, 82004, 82005, 82006, 82007, 82008, 83000, 83001, 83002, 83003, 83004, 83005, 83006, 83007, 83008, 84000, 84001, 84002, 84003, 84004, 84005, 84006, 84007, 84008, 112999, 113999] hq556 hq556 := gSs.rf xq556.1
                                  refine gz_s 1 (pc' := 232) (L' := [some (.ref x), some (.int (zi m)), some (.int (zi a)), some (.int (zi n)), some (.int (zi zq1)), some (.int (zi jn13v0)), some (.int (zi zq196)), some (.int (zi zq219)), some (.int (zi 3)), some (.int (zi zq510))]) (S' := [.int (zi (-1))]) rfl ?_
                                  have G588 : gSg [112, 113] [] [54002, 54003, 54004, 54005, 54006, 54007, 54008, 54010, 54011, 54012, 54013, 82000, 82001, 82002, 82003, 82004, 82005, 82006, 82007, 82008, 83000, 83001, 83002, 83003, 83004, 83005, 83006, 83007, 83008, 84000, 84001, 84002, 84003, 84004, 84005, 84006, 84007, 84008, 112999, 113999] ty h tyq556 hq556 := gSg.ss G557 sS587 (by decide)
                                  exact gz_end (I := .ireturn) (len := 1) rfl (Or.inl rfl) ⟨tyq556, G588, (-1), fq556_0, xq556_0, rfl, (by omega), (by omega), efq556_0, (by omega), (by omega), (by omega), (by omega), (by omega), (by omega), (by omega), yq556_0⟩
                                · refine gy_icF rfl (by decide) (by decide) (by omega) (by omega) hc529 ?_
                                  refine gz_s 2 (pc' := 215) (L' := [some (.ref x), some (.int (zi m)), some (.int (zi a)), some (.int (zi n)), some (.int (zi zq1)), some (.int (zi jn13v0)), some (.int (zi zq196)), some (.int (zi zq219)), some (.int (zi 3)), some (.int (zi zq510))]) (S' := [.int (zi 1), .ref pic]) rfl ?_
                                  refine gs_put rfl (by decide) rfl sq510 tpic rfl rfl rfl rfl (Or.inl rfl) (by decide) (by omega) (by omega) (fun h589 sh589 eh589 fh589 => ?_)
                                  have s590 := (fh589 x 0 (fun q => absurd q.2 (by decide))).trans s511
                                  have s591 := (fh589 x 1 (fun q => absurd q.2 (by decide))).trans s512
                                  have s592 := (fh589 pic 0 (fun q => absurd q.2 (by decide))).trans s513
                                  have s593 := (fh589 bn 0 (fun q => absurd (((tbn).symm.trans (congrArg ty q.1)).trans tpic) (by decide))).trans s514
                                  have s594 := (fh589 bn 1 (fun q => absurd (((tbn).symm.trans (congrArg ty q.1)).trans tpic) (by decide))).trans s515
                                  have s595 := (fh589 bn 2 (fun q => absurd (((tbn).symm.trans (congrArg ty q.1)).trans tpic) (by decide))).trans s516
                                  have s596 := (fh589 pic 2 (fun q => absurd q.2 (by decide))).trans s517
                                  have s597 := (fh589 pic 3 (fun q => absurd q.2 (by decide))).trans s518
                                  have s598 := (fh589 src 1 (fun q => absurd q.2 (by decide))).trans s519
                                  have s599 := (fh589 pic 7 (fun q => absurd q.2 (by decide))).trans s520
                                  have s600 := (fh589 pic 8 (fun q => absurd q.2 (by decide))).trans s521
                                  have s601 := (fh589 b0 1 (fun q => absurd q.2 (by decide))).trans s522
                                  have s602 := (fh589 b0 2 (fun q => absurd q.2 (by decide))).trans s523
                                  have s603 := (fh589 b0 3 (fun q => absurd q.2 (by decide))).trans s524
                                  have s604 := (fh589 b1 1 (fun q => absurd q.2 (by decide))).trans s525
                                  have s605 := (fh589 b1 2 (fun q => absurd q.2 (by decide))).trans s526
                                  have s606 := (fh589 b1 3 (fun q => absurd q.2 (by decide))).trans s527
                                  have s607 := (fh589 b2 1 (fun q => absurd q.2 (by decide))).trans efq510_0
                                  have s608 := (fh589 b2 2 (fun q => absurd q.2 (by decide))).trans efq510_1
                                  have s609 := (fh589 b2 3 (fun q => absurd q.2 (by decide))).trans efq510_2
                                  refine gz_s 1 (pc' := 219) (L' := [some (.ref x), some (.int (zi m)), some (.int (zi a)), some (.int (zi n)), some (.int (zi zq1)), some (.int (zi jn13v0)), some (.int (zi zq196)), some (.int (zi zq219)), some (.int (zi 3)), some (.int (zi zq510))]) (S' := [.ref x]) rfl ?_
                                  refine gs_gtk rfl (by decide) rfl sh589.1 tx rfl rfl s591 ?_
                                  refine gz_s 3 (pc' := 228) (L' := [some (.ref x), some (.int (zi m)), some (.int (zi a)), some (.int (zi n)), some (.int (zi zq1)), some (.int (zi jn13v0)), some (.int (zi zq196)), some (.int (zi zq219)), some (.int (zi 3)), some (.int (zi zq510))]) (S' := [.int (zi zq1), .int (zi zq196), .int (zi zq219), .ref pic]) rfl ?_
                                  have k610 := sh589.2.1
                                  have k610b := sh589.2.2.1
                                  have hl611 : h589.2.2.2.1 co = h.2.2.2.1 co := congrFun sh589.2.2.2.2.1 co
                                  have hl612 : h589.2.2.2.1 dm = h.2.2.2.1 dm := congrFun sh589.2.2.2.2.1 dm
                                  have hl613 : h589.2.2.2.1 co = h.2.2.2.1 co := congrFun sh589.2.2.2.2.1 co
                                  have hl614 : h589.2.2.2.1 dm = h.2.2.2.1 dm := congrFun sh589.2.2.2.2.1 dm
                                  refine gz_call rfl (by decide) rfl (by decide) (by decide) (gcal_of rfl rfl rfl (Nat.le_of_ble_eq_true rfl) (gJ.recv (G := gGG) sh589.1 tpic rfl rfl)) (cl_Picture_begin _ sh589.1 pic tpic zq219 (by omega) zq196 (by omega) zq1 (by omega) bn s592 tbn b0 s593 tb0 b1 s594 tb1 b2 s595 tb2 co s596 tco dm s597 tdm fq241_0 s601 (by omega) fq241_1 s602 (by omega) fq241_2 s603 (by omega) fq374_0 s604 (by omega) fq374_1 s605 (by omega) fq374_2 s606 (by omega) fq510_0 s607 (by omega) fq510_1 s608 (by omega) fq510_2 s609 (by omega) (by omega) (by omega) (by omega) (by omega) (by omega) uq) (fun q615 _ wq615 => ?_)
                                  obtain ⟨pq615, oq615, hq615⟩ := q615
                                  obtain ⟨tyq615, xq615, fq615_0, xq615_0, gq615, efq615_0, afq615_0, bfq615_0, axq615_0, bxq615_0, uq615_0, uq615_1, uq615_2, uq615_3, yq615_0⟩ := wq615
                                  refine ⟨_, gq615, ?_⟩
                                  show gz gPP gGG gcn _ _ 231 [some (.ref x), some (.int (zi m)), some (.int (zi a)), some (.int (zi n)), some (.int (zi zq1)), some (.int (zi jn13v0)), some (.int (zi zq196)), some (.int (zi zq219)), some (.int (zi 3)), some (.int (zi zq510))] [] hq615 _
                                  have G616 : gSg [112, 113] [] [54002, 54003, 54004, 54005, 54006, 54007, 54008, 54010, 54011, 54012, 54013, 82000, 82001, 82002, 82003, 82004, 82005, 82006, 82007, 82008, 83000, 83001, 83002, 83003, 83004, 83005, 83006, 83007, 83008, 84000, 84001, 84002, 84003, 84004, 84005, 84006, 84007, 84008, 112999, 113999] ty h tyq615 hq615 := gSg.tr (gSg.ss G0 sh589 (by decide)) xq615 (by decide) (by decide) (fun x hx => by cases hx)
                                  have t617 : tyq615 x = 65 := gSg.typ xq615 sh589.1 tx rfl
                                  have t618 : tyq615 src = 51 := gSg.typ xq615 sh589.1 tsrc rfl
                                  have t619 : tyq615 pic = 54 := gSg.typ xq615 sh589.1 tpic rfl
                                  have t620 : tyq615 bn = 57 := gSg.typ xq615 sh589.1 tbn rfl
                                  have t621 : tyq615 b0 = 82 := gSg.typ xq615 sh589.1 tb0 rfl
                                  have t622 : tyq615 b1 = 83 := gSg.typ xq615 sh589.1 tb1 rfl
                                  have t623 : tyq615 b2 = 84 := gSg.typ xq615 sh589.1 tb2 rfl
                                  have t624 : tyq615 co = 112 := gSg.typ xq615 sh589.1 tco rfl
                                  have hl625 : hq615.2.2.2.1 co = h589.2.2.2.1 co := gSg.len xq615 sh589.1 tco rfl
                                  have t626 : tyq615 dm = 113 := gSg.typ xq615 sh589.1 tdm rfl
                                  have hl627 : hq615.2.2.2.1 dm = h589.2.2.2.1 dm := gSg.len xq615 sh589.1 tdm rfl
                                  have s628 := gSg.at xq615 sh589.1 tx rfl (by decide) s590
                                  have s629 := gSg.at xq615 sh589.1 tx rfl (by decide) s591
                                  have s630 := gSg.at xq615 sh589.1 tpic rfl (by decide) s592
                                  have s631 := gSg.at xq615 sh589.1 tbn rfl (by decide) s593
                                  have s632 := gSg.at xq615 sh589.1 tbn rfl (by decide) s594
                                  have s633 := gSg.at xq615 sh589.1 tbn rfl (by decide) s595
                                  have s634 := gSg.at xq615 sh589.1 tsrc rfl (by decide) s598
                                  have s635 := gSg.at xq615 sh589.1 tb0 rfl (by decide) s601
                                  have s636 := gSg.at xq615 sh589.1 tb0 rfl (by decide) s602
                                  have s637 := gSg.at xq615 sh589.1 tb0 rfl (by decide) s603
                                  have s638 := gSg.at xq615 sh589.1 tb1 rfl (by decide) s604
                                  have s639 := gSg.at xq615 sh589.1 tb1 rfl (by decide) s605
                                  have s640 := gSg.at xq615 sh589.1 tb1 rfl (by decide) s606
                                  have s641 := gSg.at xq615 sh589.1 tb2 rfl (by decide) s607
                                  have s642 := gSg.at xq615 sh589.1 tb2 rfl (by decide) s608
                                  have s643 := gSg.at xq615 sh589.1 tb2 rfl (by decide) s609
                                  have s644 := gSg.at xq615 sh589.1 tpic rfl (by decide) eh589
                                  have uq645 := gSg.uq xq615 uq (by decide)
                                  have sS646 : gSs rT 1027 tyq615 [54002, 54003, 54004, 54005, 54006, 54007, 54008, 54010, 54011, 54012, 54013, 82000, 82001, 82002, 82003, 82004, 82005, 82006, 82007, 82008, 83000, 83001, 83002, 83003, 83004, 83005, 83006, 83007, 83008, 84000, 84001, 84002, 84003, 84004, 84005, 84006, 84007, 84008, 112999, 113999] hq615 hq615 := gSs.rf xq615.1
                                  refine gz_s 1 (pc' := 232) (L' := [some (.ref x), some (.int (zi m)), some (.int (zi a)), some (.int (zi n)), some (.int (zi zq1)), some (.int (zi jn13v0)), some (.int (zi zq196)), some (.int (zi zq219)), some (.int (zi 3)), some (.int (zi zq510))]) (S' := [.int (zi (-1))]) rfl ?_
                                  have G647 : gSg [112, 113] [] [54002, 54003, 54004, 54005, 54006, 54007, 54008, 54010, 54011, 54012, 54013, 82000, 82001, 82002, 82003, 82004, 82005, 82006, 82007, 82008, 83000, 83001, 83002, 83003, 83004, 83005, 83006, 83007, 83008, 84000, 84001, 84002, 84003, 84004, 84005, 84006, 84007, 84008, 112999, 113999] ty h tyq615 hq615 := gSg.ss G616 sS646 (by decide)
                                  exact gz_end (I := .ireturn) (len := 1) rfl (Or.inl rfl) ⟨tyq615, G647, (-1), fq615_0, xq615_0, rfl, (by omega), (by omega), efq615_0, (by omega), (by omega), (by omega), (by omega), (by omega), (by omega), (by omega), yq615_0⟩
                              · refine gy_icF rfl (by decide) (by decide) (by omega) (by omega) hc528 ?_
                                refine gz_s 1 (pc' := 192) (L' := [some (.ref x), some (.int (zi m)), some (.int (zi a)), some (.int (zi n)), some (.int (zi zq1)), some (.int (zi jn13v0)), some (.int (zi zq196)), some (.int (zi zq219)), some (.int (zi 2)), some (.int (zi zq510))]) (S' := [.int (zi zq510)]) rfl ?_
                                have k648 := sq510.2.1
                                have k648b := sq510.2.2.1
                                have hl649 : hq510.2.2.2.1 co = h.2.2.2.1 co := congrFun sq510.2.2.2.2.1 co
                                have hl650 : hq510.2.2.2.1 dm = h.2.2.2.1 dm := congrFun sq510.2.2.2.2.1 dm
                                have k651 := sq510.2.1
                                have k651b := sq510.2.2.1
                                have hl652 : hq510.2.2.2.1 co = h.2.2.2.1 co := congrFun sq510.2.2.2.2.1 co
                                have hl653 : hq510.2.2.2.1 dm = h.2.2.2.1 dm := congrFun sq510.2.2.2.2.1 dm
                                have hpc654 : gPC ty pic b0 b1 b2 (hq510.2.2.2.1 dm : Int) hq510 := gPC.zero sq510.1 tpic s513 tbn s514 tb0 s515 tb1 s516 tb2 s517 tco s518 tdm (by rw [(by omega : (0 : Int) = cn)]; exact s520) bl s521 (by omega) (by omega) (by omega) (by omega) (by omega)
                                have G655 : gSg [112, 113] [] [54002, 54003, 54004, 54005, 54006, 54007, 54008, 54010, 54011, 54012, 54013, 82000, 82001, 82002, 82003, 82004, 82005, 82006, 82007, 82008, 83000, 83001, 83002, 83003, 83004, 83005, 83006, 83007, 83008, 84000, 84001, 84002, 84003, 84004, 84005, 84006, 84007, 84008, 112999, 113999] ty h ty hq510 := gSg.ss G0 sq510 (by decide)
                                exact gz_end (I := .ireturn) (len := 1) rfl (Or.inl rfl) ⟨ty, G655, zq510, cn, (hq510.2.2.2.1 dm : Int), rfl, (by omega), (by omega), s520, (by omega), (by omega), (by omega), (by omega), (by omega), (by omega), (by omega), hpc654⟩
                          · refine gy_icF rfl (by decide) (by decide) (by omega) (by omega) hc389 ?_
                            refine gz_s 1 (pc' := 192) (L' := [some (.ref x), some (.int (zi m)), some (.int (zi a)), some (.int (zi n)), some (.int (zi zq1)), some (.int (zi jn13v0)), some (.int (zi zq196)), some (.int (zi zq219)), some (.int (zi 1)), some (.int (zi zq374))]) (S' := [.int (zi zq374)]) rfl ?_
                            have k656 := sq374.2.1
                            have k656b := sq374.2.2.1
                            have hl657 : hq374.2.2.2.1 co = h.2.2.2.1 co := congrFun sq374.2.2.2.2.1 co
                            have hl658 : hq374.2.2.2.1 dm = h.2.2.2.1 dm := congrFun sq374.2.2.2.2.1 dm
                            have k659 := sq374.2.1
                            have k659b := sq374.2.2.1
                            have hl660 : hq374.2.2.2.1 co = h.2.2.2.1 co := congrFun sq374.2.2.2.2.1 co
                            have hl661 : hq374.2.2.2.1 dm = h.2.2.2.1 dm := congrFun sq374.2.2.2.2.1 dm
                            have hpc662 : gPC ty pic b0 b1 b2 (hq374.2.2.2.1 dm : Int) hq374 := gPC.zero sq374.1 tpic s377 tbn s378 tb0 s379 tb1 s380 tb2 s381 tco s382 tdm (by rw [(by omega : (0 : Int) = cn)]; exact s384) bl s385 (by omega) (by omega) (by omega) (by omega) (by omega)
                            have G663 : gSg [112, 113] [] [54002, 54003, 54004, 54005, 54006, 54007, 54008, 54010, 54011, 54012, 54013, 82000, 82001, 82002, 82003, 82004, 82005, 82006, 82007, 82008, 83000, 83001, 83002, 83003, 83004, 83005, 83006, 83007, 83008, 84000, 84001, 84002, 84003, 84004, 84005, 84006, 84007, 84008, 112999, 113999] ty h ty hq374 := gSg.ss G0 sq374 (by decide)
                            exact gz_end (I := .ireturn) (len := 1) rfl (Or.inl rfl) ⟨ty, G663, zq374, cn, (hq374.2.2.2.1 dm : Int), rfl, (by omega), (by omega), s384, (by omega), (by omega), (by omega), (by omega), (by omega), (by omega), (by omega), hpc662⟩
                      · refine gy_icF rfl (by decide) (by decide) (by omega) (by omega) hc253 ?_
                        refine gz_s 1 (pc' := 192) (L' := [some (.ref x), some (.int (zi m)), some (.int (zi a)), some (.int (zi n)), some (.int (zi zq1)), some (.int (zi jn13v0)), some (.int (zi zq196)), some (.int (zi zq219)), some (.int (zi 0)), some (.int (zi zq241))]) (S' := [.int (zi zq241)]) rfl ?_
                        have k664 := sq241.2.1
                        have k664b := sq241.2.2.1
                        have hl665 : hq241.2.2.2.1 co = h.2.2.2.1 co := congrFun sq241.2.2.2.2.1 co
                        have hl666 : hq241.2.2.2.1 dm = h.2.2.2.1 dm := congrFun sq241.2.2.2.2.1 dm
                        have k667 := sq241.2.1
                        have k667b := sq241.2.2.1
                        have hl668 : hq241.2.2.2.1 co = h.2.2.2.1 co := congrFun sq241.2.2.2.2.1 co
                        have hl669 : hq241.2.2.2.1 dm = h.2.2.2.1 dm := congrFun sq241.2.2.2.2.1 dm
                        have hpc670 : gPC ty pic b0 b1 b2 (hq241.2.2.2.1 dm : Int) hq241 := gPC.zero sq241.1 tpic s244 tbn s245 tb0 s246 tb1 s247 tb2 s248 tco s249 tdm (by rw [(by omega : (0 : Int) = cn)]; exact s251) bl s252 (by omega) (by omega) (by omega) (by omega) (by omega)
                        have G671 : gSg [112, 113] [] [54002, 54003, 54004, 54005, 54006, 54007, 54008, 54010, 54011, 54012, 54013, 82000, 82001, 82002, 82003, 82004, 82005, 82006, 82007, 82008, 83000, 83001, 83002, 83003, 83004, 83005, 83006, 83007, 83008, 84000, 84001, 84002, 84003, 84004, 84005, 84006, 84007, 84008, 112999, 113999] ty h ty hq241 := gSg.ss G0 sq241 (by decide)
                        exact gz_end (I := .ireturn) (len := 1) rfl (Or.inl rfl) ⟨ty, G671, zq241, cn, (hq241.2.2.2.1 dm : Int), rfl, (by omega), (by omega), s251, (by omega), (by omega), (by omega), (by omega), (by omega), (by omega), (by omega), hpc670⟩
                    · refine gy_icF rfl (by decide) (by decide) (by omega) (by omega) hc240 ?_
                      refine gy_s 3 (pc' := 146) (L' := [some (.ref x), some (.int (zi m)), some (.int (zi a)), some (.int (zi n)), some (.int (zi zq1)), some (.int (zi jn13v0)), some (.int (zi zq196)), some (.int (zi zq219)), none, none]) (S' := [.int ((zi a) + (zi 5))]) (L2 := [some (.ref x), some (.int (zi m)), some (.int (zi a)), some (.int (zi n)), some (.int (zi zq1)), some (.int (zi jn13v0)), some (.int (zi zq196)), some (.int (zi zq219)), none, none]) (S2 := [.int (zi (a + 5))]) rfl (by simp only [zi_add, zi_sub, zi_mul, zi_neg, zi_and1, zi_and7, zi_and15, zi_and31, zi_and255, Int.reduceAdd, Int.reduceMul, Int.reduceSub]) (by simp only [zi_add, zi_sub, zi_mul, zi_neg, zi_and1, zi_and7, zi_and15, zi_and31, zi_and255, Int.reduceAdd, Int.reduceMul, Int.reduceSub]) ?_
                      have k672 := sq219.2.1
                      have k672b := sq219.2.2.1
                      have hl673 : hq219.2.2.2.1 co = h.2.2.2.1 co := congrFun sq219.2.2.2.2.1 co
                      have hl674 : hq219.2.2.2.1 dm = h.2.2.2.1 dm := congrFun sq219.2.2.2.2.1 dm
                      have k675 := sq219.2.1
                      have k675b := sq219.2.2.1
                      have hl676 : hq219.2.2.2.1 co = h.2.2.2.1 co := congrFun sq219.2.2.2.2.1 co
                      have hl677 : hq219.2.2.2.1 dm = h.2.2.2.1 dm := congrFun sq219.2.2.2.2.1 dm
                      have hpc678 : gPC ty pic b0 b1 b2 (hq219.2.2.2.1 dm : Int) hq219 := gPC.zero sq219.1 tpic s222 tbn s223 tb0 s224 tb1 s225 tb2 s226 tco s227 tdm (by rw [(by omega : (0 : Int) = cn)]; exact s229) bl s230 (by omega) (by omega) (by omega) (by omega) (by omega)
                      have G679 : gSg [112, 113] [] [54002, 54003, 54004, 54005, 54006, 54007, 54008, 54010, 54011, 54012, 54013, 82000, 82001, 82002, 82003, 82004, 82005, 82006, 82007, 82008, 83000, 83001, 83002, 83003, 83004, 83005, 83006, 83007, 83008, 84000, 84001, 84002, 84003, 84004, 84005, 84006, 84007, 84008, 112999, 113999] ty h ty hq219 := gSg.ss G0 sq219 (by decide)
                      exact gz_end (I := .ireturn) (len := 1) rfl (Or.inl rfl) ⟨ty, G679, a + 5, cn, (hq219.2.2.2.1 dm : Int), rfl, (by omega), (by omega), s229, (by omega), (by omega), (by omega), (by omega), (by omega), (by omega), (by omega), hpc678⟩
                · refine gy_icF rfl (by decide) (by decide) (by omega) (by omega) hc218 ?_
                  refine gy_s 3 (pc' := 117) (L' := [some (.ref x), some (.int (zi m)), some (.int (zi a)), some (.int (zi n)), some (.int (zi zq1)), some (.int (zi jn13v0)), some (.int (zi zq196)), none, none, none]) (S' := [.int ((zi a) + (zi 3))]) (L2 := [some (.ref x), some (.int (zi m)), some (.int (zi a)), some (.int (zi n)), some (.int (zi zq1)), some (.int (zi jn13v0)), some (.int (zi zq196)), none, none, none]) (S2 := [.int (zi (a + 3))]) rfl (by simp only [zi_add, zi_sub, zi_mul, zi_neg, zi_and1, zi_and7, zi_and15, zi_and31, zi_and255, Int.reduceAdd, Int.reduceMul, Int.reduceSub]) (by simp only [zi_add, zi_sub, zi_mul, zi_neg, zi_and1, zi_and7, zi_and15, zi_and31, zi_and255, Int.reduceAdd, Int.reduceMul, Int.reduceSub]) ?_
                  have k680 := sq196.2.1
                  have k680b := sq196.2.2.1
                  have hl681 : hq196.2.2.2.1 co = h.2.2.2.1 co := congrFun sq196.2.2.2.2.1 co
                  have hl682 : hq196.2.2.2.1 dm = h.2.2.2.1 dm := congrFun sq196.2.2.2.2.1 dm
                  have k683 := sq196.2.1
                  have k683b := sq196.2.2.1
                  have hl684 : hq196.2.2.2.1 co = h.2.2.2.1 co := congrFun sq196.2.2.2.2.1 co
                  have hl685 : hq196.2.2.2.1 dm = h.2.2.2.1 dm := congrFun sq196.2.2.2.2.1 dm
                  have hpc686 : gPC ty pic b0 b1 b2 (hq196.2.2.2.1 dm : Int) hq196 := gPC.zero sq196.1 tpic s199 tbn s200 tb0 s201 tb1 s202 tb2 s203 tco s204 tdm (by rw [(by omega : (0 : Int) = cn)]; exact s206) bl s207 (by omega) (by omega) (by omega) (by omega) (by omega)
                  have G687 : gSg [112, 113] [] [54002, 54003, 54004, 54005, 54006, 54007, 54008, 54010, 54011, 54012, 54013, 82000, 82001, 82002, 82003, 82004, 82005, 82006, 82007, 82008, 83000, 83001, 83002, 83003, 83004, 83005, 83006, 83007, 83008, 84000, 84001, 84002, 84003, 84004, 84005, 84006, 84007, 84008, 112999, 113999] ty h ty hq196 := gSg.ss G0 sq196 (by decide)
                  exact gz_end (I := .ireturn) (len := 1) rfl (Or.inl rfl) ⟨ty, G687, a + 3, cn, (hq196.2.2.2.1 dm : Int), rfl, (by omega), (by omega), s206, (by omega), (by omega), (by omega), (by omega), (by omega), (by omega), (by omega), hpc686⟩
            · refine gy_ifF rfl (by decide) (by decide) (by omega) hc208 ?_
              refine gy_s 4 (pc' := 96) (L' := [some (.ref x), some (.int (zi m)), some (.int (zi a)), some (.int (zi n)), some (.int (zi zq1)), some (.int (zi jn13v0)), some (.int (zi zq196)), none, none, none]) (S' := [.int ((zi a) + (zi 5)), .ref x]) (L2 := [some (.ref x), some (.int (zi m)), some (.int (zi a)), some (.int (zi n)), some (.int (zi zq1)), some (.int (zi jn13v0)), some (.int (zi zq196)), none, none, none]) (S2 := [.int (zi (a + 5)), .ref x]) rfl (by simp only [zi_add, zi_sub, zi_mul, zi_neg, zi_and1, zi_and7, zi_and15, zi_and31, zi_and255, Int.reduceAdd, Int.reduceMul, Int.reduceSub]) (by simp only [zi_add, zi_sub, zi_mul, zi_neg, zi_and1, zi_and7, zi_and15, zi_and31, zi_and255, Int.reduceAdd, Int.reduceMul, Int.reduceSub]) ?_
              refine gz_call rfl (by decide) rfl (by decide) (by decide) (gcal_of rfl rfl rfl (Nat.le_of_ble_eq_true rfl) (gJ.recv (G := gGG) sq196.1 tx rfl rfl)) (cl_Reader_heightBehind _ sq196.1 x tx (a + 5) (by omega) src s197 tsrc sz s205 (by omega) uq) (fun q688 _ wq688 => ?_)
              obtain ⟨pq688, oq688, hq688⟩ := q688
              obtain ⟨xq688, zq688, gq688, aq688, bq688⟩ := wq688
              refine ⟨_, gq688, ?_⟩
              show gz gPP gGG gcn _ _ 99 [some (.ref x), some (.int (zi m)), some (.int (zi a)), some (.int (zi n)), some (.int (zi zq1)), some (.int (zi jn13v0)), some (.int (zi zq196)), none, none, none] [.int (zi zq688)] hq688 _
              have sq688 : gSs rT 1027 ty [54002, 54003, 54004, 54005, 54006, 54007, 54008, 54010, 54011, 54012, 54013, 82000, 82001, 82002, 82003, 82004, 82005, 82006, 82007, 82008, 83000, 83001, 83002, 83003, 83004, 83005, 83006, 83007, 83008, 84000, 84001, 84002, 84003, 84004, 84005, 84006, 84007, 84008, 112999, 113999] h hq688 := gSs.tr sq196 xq688 (by decide)
              have s689 := (xq688.2.2.2.2.2 x 0 (by rw [tx]; decide)).trans s197
              have s690 := (xq688.2.2.2.2.2 x 1 (by rw [tx]; decide)).trans s198
              have s691 := (xq688.2.2.2.2.2 pic 0 (by rw [tpic]; decide)).trans s199
              have s692 := (xq688.2.2.2.2.2 bn 0 (by rw [tbn]; decide)).trans s200
              have s693 := (xq688.2.2.2.2.2 bn 1 (by rw [tbn]; decide)).trans s201
              have s694 := (xq688.2.2.2.2.2 bn 2 (by rw [tbn]; decide)).trans s202
              have s695 := (xq688.2.2.2.2.2 pic 2 (by rw [tpic]; decide)).trans s203
              have s696 := (xq688.2.2.2.2.2 pic 3 (by rw [tpic]; decide)).trans s204
              have s697 := (xq688.2.2.2.2.2 src 1 (by rw [tsrc]; decide)).trans s205
              have s698 := (xq688.2.2.2.2.2 pic 7 (by rw [tpic]; decide)).trans s206
              have s699 := (xq688.2.2.2.2.2 pic 8 (by rw [tpic]; decide)).trans s207
              refine gz_s 3 (pc' := 104) (L' := [some (.ref x), some (.int (zi m)), some (.int (zi a)), some (.int (zi n)), some (.int (zi zq1)), some (.int (zi jn13v0)), some (.int (zi zq688)), none, none, none]) (S' := [.int (zi 1), .int (zi zq688)]) rfl ?_
              by_cases hc700 : (zq688 : Int) < 1
              · refine gy_icT (pc' := 114) rfl (by decide) (by decide) (by omega) (by omega) hc700 ?_
                refine gy_s 3 (pc' := 117) (L' := [some (.ref x), some (.int (zi m)), some (.int (zi a)), some (.int (zi n)), some (.int (zi zq1)), some (.int (zi jn13v0)), some (.int (zi zq688)), none, none, none]) (S' := [.int ((zi a) + (zi 3))]) (L2 := [some (.ref x), some (.int (zi m)), some (.int (zi a)), some (.int (zi n)), some (.int (zi zq1)), some (.int (zi jn13v0)), some (.int (zi zq688)), none, none, none]) (S2 := [.int (zi (a + 3))]) rfl (by simp only [zi_add, zi_sub, zi_mul, zi_neg, zi_and1, zi_and7, zi_and15, zi_and31, zi_and255, Int.reduceAdd, Int.reduceMul, Int.reduceSub]) (by simp only [zi_add, zi_sub, zi_mul, zi_neg, zi_and1, zi_and7, zi_and15, zi_and31, zi_and255, Int.reduceAdd, Int.reduceMul, Int.reduceSub]) ?_
                have k701 := sq688.2.1
                have k701b := sq688.2.2.1
                have hl702 : hq688.2.2.2.1 co = h.2.2.2.1 co := congrFun sq688.2.2.2.2.1 co
                have hl703 : hq688.2.2.2.1 dm = h.2.2.2.1 dm := congrFun sq688.2.2.2.2.1 dm
                have k704 := sq688.2.1
                have k704b := sq688.2.2.1
                have hl705 : hq688.2.2.2.1 co = h.2.2.2.1 co := congrFun sq688.2.2.2.2.1 co
                have hl706 : hq688.2.2.2.1 dm = h.2.2.2.1 dm := congrFun sq688.2.2.2.2.1 dm
                have hpc707 : gPC ty pic b0 b1 b2 (hq688.2.2.2.1 dm : Int) hq688 := gPC.zero sq688.1 tpic s691 tbn s692 tb0 s693 tb1 s694 tb2 s695 tco s696 tdm (by rw [(by omega : (0 : Int) = cn)]; exact s698) bl s699 (by omega) (by omega) (by omega) (by omega) (by omega)
                have G708 : gSg [112, 113] [] [54002, 54003, 54004, 54005, 54006, 54007, 54008, 54010, 54011, 54012, 54013, 82000, 82001, 82002, 82003, 82004, 82005, 82006, 82007, 82008, 83000, 83001, 83002, 83003, 83004, 83005, 83006, 83007, 83008, 84000, 84001, 84002, 84003, 84004, 84005, 84006, 84007, 84008, 112999, 113999] ty h ty hq688 := gSg.ss G0 sq688 (by decide)
                exact gz_end (I := .ireturn) (len := 1) rfl (Or.inl rfl) ⟨ty, G708, a + 3, cn, (hq688.2.2.2.1 dm : Int), rfl, (by omega), (by omega), s698, (by omega), (by omega), (by omega), (by omega), (by omega), (by omega), (by omega), hpc707⟩
              · refine gy_icF rfl (by decide) (by decide) (by omega) (by omega) hc700 ?_
                refine gz_s 2 (pc' := 111) (L' := [some (.ref x), some (.int (zi m)), some (.int (zi a)), some (.int (zi n)), some (.int (zi zq1)), some (.int (zi jn13v0)), some (.int (zi zq688)), none, none, none]) (S' := [.int (zi 64), .int (zi zq688)]) rfl ?_
                by_cases hc709 : (zq688 : Int) ≤ 64
                · refine gy_icT (pc' := 118) rfl (by decide) (by decide) (by omega) (by omega) hc709 ?_
                  refine gz_s 1 (pc' := 119) (L' := [some (.ref x), some (.int (zi m)), some (.int (zi a)), some (.int (zi n)), some (.int (zi zq1)), some (.int (zi jn13v0)), some (.int (zi zq688)), none, none, none]) (S' := [.ref x]) rfl ?_
                  refine gs_gtk rfl (by decide) rfl sq688.1 tx rfl rfl s689 ?_
                  refine gy_s 3 (pc' := 125) (L' := [some (.ref x), some (.int (zi m)), some (.int (zi a)), some (.int (zi n)), some (.int (zi zq1)), some (.int (zi jn13v0)), some (.int (zi zq688)), none, none, none]) (S' := [.int ((zi a) + (zi 5)), .ref src]) (L2 := [some (.ref x), some (.int (zi m)), some (.int (zi a)), some (.int (zi n)), some (.int (zi zq1)), some (.int (zi jn13v0)), some (.int (zi zq688)), none, none, none]) (S2 := [.int (zi (a + 5)), .ref src]) rfl (by simp only [zi_add, zi_sub, zi_mul, zi_neg, zi_and1, zi_and7, zi_and15, zi_and31, zi_and255, Int.reduceAdd, Int.reduceMul, Int.reduceSub]) (by simp only [zi_add, zi_sub, zi_mul, zi_neg, zi_and1, zi_and7, zi_and15, zi_and31, zi_and255, Int.reduceAdd, Int.reduceMul, Int.reduceSub]) ?_
                  refine gz_call rfl (by decide) rfl (by decide) (by decide) (gcal_of rfl rfl rfl (Nat.le_of_ble_eq_true rfl) (gJ.recv (G := gGG) sq688.1 tsrc rfl rfl)) (cl_Collected_twoAt _ sq688.1 src tsrc (a + 5) (by omega) sz s697 (by omega) uq) (fun q710 _ wq710 => ?_)
                  obtain ⟨pq710, oq710, hq710⟩ := q710
                  obtain ⟨xq710, zq710, gq710, aq710, bq710, uq710_0⟩ := wq710
                  refine ⟨_, gq710, ?_⟩
                  show gz gPP gGG gcn _ _ 128 [some (.ref x), some (.int (zi m)), some (.int (zi a)), some (.int (zi n)), some (.int (zi zq1)), some (.int (zi jn13v0)), some (.int (zi zq688)), none, none, none] [.int (zi zq710)] hq710 _
                  have sq710 : gSs rT 1027 ty [54002, 54003, 54004, 54005, 54006, 54007, 54008, 54010, 54011, 54012, 54013, 82000, 82001, 82002, 82003, 82004, 82005, 82006, 82007, 82008, 83000, 83001, 83002, 83003, 83004, 83005, 83006, 83007, 83008, 84000, 84001, 84002, 84003, 84004, 84005, 84006, 84007, 84008, 112999, 113999] h hq710 := gSs.tr sq688 xq710 (by decide)
                  have s711 := (xq710.2.2.2.2.2 x 0 (by rw [tx]; decide)).trans s689
                  have s712 := (xq710.2.2.2.2.2 x 1 (by rw [tx]; decide)).trans s690
                  have s713 := (xq710.2.2.2.2.2 pic 0 (by rw [tpic]; decide)).trans s691
                  have s714 := (xq710.2.2.2.2.2 bn 0 (by rw [tbn]; decide)).trans s692
                  have s715 := (xq710.2.2.2.2.2 bn 1 (by rw [tbn]; decide)).trans s693
                  have s716 := (xq710.2.2.2.2.2 bn 2 (by rw [tbn]; decide)).trans s694
                  have s717 := (xq710.2.2.2.2.2 pic 2 (by rw [tpic]; decide)).trans s695
                  have s718 := (xq710.2.2.2.2.2 pic 3 (by rw [tpic]; decide)).trans s696
                  have s719 := (xq710.2.2.2.2.2 src 1 (by rw [tsrc]; decide)).trans s697
                  have s720 := (xq710.2.2.2.2.2 pic 7 (by rw [tpic]; decide)).trans s698
                  have s721 := (xq710.2.2.2.2.2 pic 8 (by rw [tpic]; decide)).trans s699
                  refine gz_s 3 (pc' := 133) (L' := [some (.ref x), some (.int (zi m)), some (.int (zi a)), some (.int (zi n)), some (.int (zi zq1)), some (.int (zi jn13v0)), some (.int (zi zq688)), some (.int (zi zq710)), none, none]) (S' := [.int (zi 1), .int (zi zq710)]) rfl ?_
                  by_cases hc722 : (zq710 : Int) < 1
                  · refine gy_icT (pc' := 143) rfl (by decide) (by decide) (by omega) (by omega) hc722 ?_
                    refine gy_s 3 (pc' := 146) (L' := [some (.ref x), some (.int (zi m)), some (.int (zi a)), some (.int (zi n)), some (.int (zi zq1)), some (.int (zi jn13v0)), some (.int (zi zq688)), some (.int (zi zq710)), none, none]) (S' := [.int ((zi a) + (zi 5))]) (L2 := [some (.ref x), some (.int (zi m)), some (.int (zi a)), some (.int (zi n)), some (.int (zi zq1)), some (.int (zi jn13v0)), some (.int (zi zq688)), some (.int (zi zq710)), none, none]) (S2 := [.int (zi (a + 5))]) rfl (by simp only [zi_add, zi_sub, zi_mul, zi_neg, zi_and1, zi_and7, zi_and15, zi_and31, zi_and255, Int.reduceAdd, Int.reduceMul, Int.reduceSub]) (by simp only [zi_add, zi_sub, zi_mul, zi_neg, zi_and1, zi_and7, zi_and15, zi_and31, zi_and255, Int.reduceAdd, Int.reduceMul, Int.reduceSub]) ?_
                    have k723 := sq710.2.1
                    have k723b := sq710.2.2.1
                    have hl724 : hq710.2.2.2.1 co = h.2.2.2.1 co := congrFun sq710.2.2.2.2.1 co
                    have hl725 : hq710.2.2.2.1 dm = h.2.2.2.1 dm := congrFun sq710.2.2.2.2.1 dm
                    have k726 := sq710.2.1
                    have k726b := sq710.2.2.1
                    have hl727 : hq710.2.2.2.1 co = h.2.2.2.1 co := congrFun sq710.2.2.2.2.1 co
                    have hl728 : hq710.2.2.2.1 dm = h.2.2.2.1 dm := congrFun sq710.2.2.2.2.1 dm
                    have hpc729 : gPC ty pic b0 b1 b2 (hq710.2.2.2.1 dm : Int) hq710 := gPC.zero sq710.1 tpic s713 tbn s714 tb0 s715 tb1 s716 tb2 s717 tco s718 tdm (by rw [(by omega : (0 : Int) = cn)]; exact s720) bl s721 (by omega) (by omega) (by omega) (by omega) (by omega)
                    have G730 : gSg [112, 113] [] [54002, 54003, 54004, 54005, 54006, 54007, 54008, 54010, 54011, 54012, 54013, 82000, 82001, 82002, 82003, 82004, 82005, 82006, 82007, 82008, 83000, 83001, 83002, 83003, 83004, 83005, 83006, 83007, 83008, 84000, 84001, 84002, 84003, 84004, 84005, 84006, 84007, 84008, 112999, 113999] ty h ty hq710 := gSg.ss G0 sq710 (by decide)
                    exact gz_end (I := .ireturn) (len := 1) rfl (Or.inl rfl) ⟨ty, G730, a + 5, cn, (hq710.2.2.2.1 dm : Int), rfl, (by omega), (by omega), s720, (by omega), (by omega), (by omega), (by omega), (by omega), (by omega), (by omega), hpc729⟩
                  · refine gy_icF rfl (by decide) (by decide) (by omega) (by omega) hc722 ?_
                    refine gz_s 2 (pc' := 140) (L' := [some (.ref x), some (.int (zi m)), some (.int (zi a)), some (.int (zi n)), some (.int (zi zq1)), some (.int (zi jn13v0)), some (.int (zi zq688)), some (.int (zi zq710)), none, none]) (S' := [.int (zi 64), .int (zi zq710)]) rfl ?_
                    by_cases hc731 : (zq710 : Int) ≤ 64
                    · refine gy_icT (pc' := 147) rfl (by decide) (by decide) (by omega) (by omega) hc731 ?_
                      refine gz_s 1 (pc' := 149) (L' := [some (.ref x), some (.int (zi m)), some (.int (zi a)), some (.int (zi n)), some (.int (zi zq1)), some (.int (zi jn13v0)), some (.int (zi zq688)), some (.int (zi zq710)), none, none]) (S' := [.int (zi jn13v0)]) rfl ?_
                      refine gy_ifT (pc' := 157) rfl (by decide) (by decide) (by omega) (by first | (simp [zc]; done) | (simp only [zc]; omega)) ?_
                      refine gz_s 4 (pc' := 164) (L' := [some (.ref x), some (.int (zi m)), some (.int (zi a)), some (.int (zi n)), some (.int (zi zq1)), some (.int (zi jn13v0)), some (.int (zi zq688)), some (.int (zi zq710)), some (.int (zi 0)), none]) (S' := [.int (zi zq1), .int (zi 0)]) rfl ?_
                      refine gy_icF rfl (by decide) (by decide) (by omega) (by omega) (by first | (simp [zc]; done) | (simp only [zc]; omega)) ?_
                      refine gy_s 9 (pc' := 179) (L' := [some (.ref x), some (.int (zi m)), some (.int (zi a)), some (.int (zi n)), some (.int (zi zq1)), some (.int (zi jn13v0)), some (.int (zi zq688)), some (.int (zi zq710)), some (.int (zi 0)), none]) (S' := [.int (((zi a) + (zi 8)) + ((zi 3) * (zi 0))), .int (zi 0), .ref x]) (L2 := [some (.ref x), some (.int (zi m)), some (.int (zi a)), some (.int (zi n)), some (.int (zi zq1)), some (.int (zi jn13v0)), some (.int (zi zq688)), some (.int (zi zq710)), some (.int (zi 0)), none]) (S2 := [.int (zi ((a + 8) + 0)), .int (zi 0), .ref x]) rfl (by simp only [zi_add, zi_sub, zi_mul, zi_neg, zi_and1, zi_and7, zi_and15, zi_and31, zi_and255, Int.reduceAdd, Int.reduceMul, Int.reduceSub]) (by simp only [zi_add, zi_sub, zi_mul, zi_neg, zi_and1, zi_and7, zi_and15, zi_and31, zi_and255, Int.reduceAdd, Int.reduceMul, Int.reduceSub]) ?_
                      refine gz_call rfl (by decide) rfl (by decide) (by decide) (gcal_of rfl rfl rfl (Nat.le_of_ble_eq_true rfl) (gJ.recv (G := gGG) sq710.1 tx rfl rfl)) (cl_readBand0 _ sq710.1 x tx 0 (by omega) ((a + 8) + 0) (by omega) src s711 tsrc pic s712 tpic bn s713 tbn b0 s714 tb0 sz s719 (by omega) uq) (fun q732 _ wq732 => ?_)
                      obtain ⟨pq732, oq732, hq732⟩ := q732
                      obtain ⟨xq732, zq732, fq732_0, fq732_1, fq732_2, gq732, aq732, bq732, efq732_0, afq732_0, bfq732_0, efq732_1, afq732_1, bfq732_1, efq732_2, afq732_2, bfq732_2, uq732_0⟩ := wq732
                      refine ⟨_, gq732, ?_⟩
                      show gz gPP gGG gcn _ _ 182 [some (.ref x), some (.int (zi m)), some (.int (zi a)), some (.int (zi n)), some (.int (zi zq1)), some (.int (zi jn13v0)), some (.int (zi zq688)), some (.int (zi zq710)), some (.int (zi 0)), none] [.int (zi zq732)] hq732 _
                      have sq732 : gSs rT 1027 ty [54002, 54003, 54004, 54005, 54006, 54007, 54008, 54010, 54011, 54012, 54013, 82000, 82001, 82002, 82003, 82004, 82005, 82006, 82007, 82008, 83000, 83001, 83002, 83003, 83004, 83005, 83006, 83007, 83008, 84000, 84001, 84002, 84003, 84004, 84005, 84006, 84007, 84008, 112999, 113999] h hq732 := gSs.tr sq710 xq732 (by decide)
                      have s733 := (xq732.2.2.2.2.2 x 0 (by rw [tx]; decide)).trans s711
                      have s734 := (xq732.2.2.2.2.2 x 1 (by rw [tx]; decide)).trans s712
                      have s735 := (xq732.2.2.2.2.2 pic 0 (by rw [tpic]; decide)).trans s713
                      have s736 := (xq732.2.2.2.2.2 bn 0 (by rw [tbn]; decide)).trans s714
                      have s737 := (xq732.2.2.2.2.2 bn 1 (by rw [tbn]; decide)).trans s715
                      have s738 := (xq732.2.2.2.2.2 bn 2 (by rw [tbn]; decide)).trans s716
                      have s739 := (xq732.2.2.2.2.2 pic 2 (by rw [tpic]; decide)).trans s717
                      have s740 := (xq732.2.2.2.2.2 pic 3 (by rw [tpic]; decide)).trans s718
                      have s741 := (xq732.2.2.2.2.2 src 1 (by rw [tsrc]; decide)).trans s719
                      have s742 := (xq732.2.2.2.2.2 pic 7 (by rw [tpic]; decide)).trans s720
                      have s743 := (xq732.2.2.2.2.2 pic 8 (by rw [tpic]; decide)).trans s721
                      refine gz_s 3 (pc' := 187) (L' := [some (.ref x), some (.int (zi m)), some (.int (zi a)), some (.int (zi n)), some (.int (zi zq1)), some (.int (zi jn13v0)), some (.int (zi zq688)), some (.int (zi zq710)), some (.int (zi 0)), some (.int (zi zq732))]) (S' := [.int (zi (-1)), .int (zi zq732)]) rfl ?_
                      by_cases hc744 : (zq732 : Int) = (-1)
                      · refine gy_icT (pc' := 193) rfl (by decide) (by decide) (by omega) (by omega) hc744 ?_
                        refine gy_s 4 (pc' := 164) (L' := [some (.ref x), some (.int (zi m)), some (.int (zi a)), some (.int (zi n)), some (.int (zi zq1)), some (.int (zi jn13v0)), some (.int (zi zq688)), some (.int (zi zq710)), some (.int ((zi 0) + zi 1)), some (.int (zi zq732))]) (S' := [.int (zi zq1), .int ((zi 0) + zi 1)]) (L2 := [some (.ref x), some (.int (zi m)), some (.int (zi a)), some (.int (zi n)), some (.int (zi zq1)), some (.int (zi jn13v0)), some (.int (zi zq688)), some (.int (zi zq710)), some (.int (zi 1)), some (.int (zi zq732))]) (S2 := [.int (zi zq1), .int (zi 1)]) rfl (by simp only [zi_add, zi_sub, zi_mul, zi_neg, zi_and1, zi_and7, zi_and15, zi_and31, zi_and255, Int.reduceAdd, Int.reduceMul, Int.reduceSub]) (by simp only [zi_add, zi_sub, zi_mul, zi_neg, zi_and1, zi_and7, zi_and15, zi_and31, zi_and255, Int.reduceAdd, Int.reduceMul, Int.reduceSub]) ?_
                        by_cases hc745 : (zq1 : Int) ≤ 1
                        · refine gy_icT (pc' := 199) rfl (by decide) (by decide) (by omega) (by omega) hc745 ?_
                          refine gz_s 1 (pc' := 200) (L' := [some (.ref x), some (.int (zi m)), some (.int (zi a)), some (.int (zi n)), some (.int (zi zq1)), some (.int (zi jn13v0)), some (.int (zi zq688)), some (.int (zi zq710)), some (.int (zi 1)), some (.int (zi zq732))]) (S' := [.ref x]) rfl ?_
                          refine gs_gtk rfl (by decide) rfl sq732.1 tx rfl rfl s734 ?_
                          refine gz_s 2 (pc' := 207) (L' := [some (.ref x), some (.int (zi m)), some (.int (zi a)), some (.int (zi n)), some (.int (zi zq1)), some (.int (zi jn13v0)), some (.int (zi zq688)), some (.int (zi zq710)), some (.int (zi 1)), some (.int (zi zq732))]) (S' := [.int (zi 194), .int (zi m), .ref pic]) rfl ?_
                          by_cases hc746 : ¬ (m : Int) = 194
                          · refine gy_icT (pc' := 214) rfl (by decide) (by decide) (by omega) (by omega) hc746 ?_
                            refine gz_s 1 (pc' := 215) (L' := [some (.ref x), some (.int (zi m)), some (.int (zi a)), some (.int (zi n)), some (.int (zi zq1)), some (.int (zi jn13v0)), some (.int (zi zq688)), some (.int (zi zq710)), some (.int (zi 1)), some (.int (zi zq732))]) (S' := [.int (zi 0), .ref pic]) rfl ?_
                            refine gs_put rfl (by decide) rfl sq732 tpic rfl rfl rfl rfl (Or.inl rfl) (by decide) (by omega) (by omega) (fun h747 sh747 eh747 fh747 => ?_)
                            have s748 := (fh747 x 0 (fun q => absurd q.2 (by decide))).trans s733
                            have s749 := (fh747 x 1 (fun q => absurd q.2 (by decide))).trans s734
                            have s750 := (fh747 pic 0 (fun q => absurd q.2 (by decide))).trans s735
                            have s751 := (fh747 bn 0 (fun q => absurd (((tbn).symm.trans (congrArg ty q.1)).trans tpic) (by decide))).trans s736
                            have s752 := (fh747 bn 1 (fun q => absurd (((tbn).symm.trans (congrArg ty q.1)).trans tpic) (by decide))).trans s737
                            have s753 := (fh747 bn 2 (fun q => absurd (((tbn).symm.trans (congrArg ty q.1)).trans tpic) (by decide))).trans s738
                            have s754 := (fh747 pic 2 (fun q => absurd q.2 (by decide))).trans s739
                            have s755 := (fh747 pic 3 (fun q => absurd q.2 (by decide))).trans s740
                            have s756 := (fh747 src 1 (fun q => absurd q.2 (by decide))).trans s741
                            have s757 := (fh747 pic 7 (fun q => absurd q.2 (by decide))).trans s742
                            have s758 := (fh747 pic 8 (fun q => absurd q.2 (by decide))).trans s743
                            have s759 := (fh747 b0 1 (fun q => absurd q.2 (by decide))).trans efq732_0
                            have s760 := (fh747 b0 2 (fun q => absurd q.2 (by decide))).trans efq732_1
                            have s761 := (fh747 b0 3 (fun q => absurd q.2 (by decide))).trans efq732_2
                            refine gz_s 1 (pc' := 219) (L' := [some (.ref x), some (.int (zi m)), some (.int (zi a)), some (.int (zi n)), some (.int (zi zq1)), some (.int (zi jn13v0)), some (.int (zi zq688)), some (.int (zi zq710)), some (.int (zi 1)), some (.int (zi zq732))]) (S' := [.ref x]) rfl ?_
                            refine gs_gtk rfl (by decide) rfl sh747.1 tx rfl rfl s749 ?_
                            refine gz_s 3 (pc' := 228) (L' := [some (.ref x), some (.int (zi m)), some (.int (zi a)), some (.int (zi n)), some (.int (zi zq1)), some (.int (zi jn13v0)), some (.int (zi zq688)), some (.int (zi zq710)), some (.int (zi 1)), some (.int (zi zq732))]) (S' := [.int (zi zq1), .int (zi zq688), .int (zi zq710), .ref pic]) rfl ?_
                            have k762 := sh747.2.1
                            have k762b := sh747.2.2.1
                            have hl763 : h747.2.2.2.1 co = h.2.2.2.1 co := congrFun sh747.2.2.2.2.1 co
                            have hl764 : h747.2.2.2.1 dm = h.2.2.2.1 dm := congrFun sh747.2.2.2.2.1 dm
                            have hl765 : h747.2.2.2.1 co = h.2.2.2.1 co := congrFun sh747.2.2.2.2.1 co
                            have hl766 : h747.2.2.2.1 dm = h.2.2.2.1 dm := congrFun sh747.2.2.2.2.1 dm
                            obtain ⟨z767, ez767, az767, bz767⟩ := gJ.int (k := 1) (G := gGG) sh747.1 tb1 rfl rfl rfl
                            obtain ⟨z768, ez768, az768, bz768⟩ := gJ.int (k := 2) (G := gGG) sh747.1 tb1 rfl rfl rfl
                            obtain ⟨z769, ez769, az769, bz769⟩ := gJ.int (k := 3) (G := gGG) sh747.1 tb1 rfl rfl rfl
                            obtain ⟨z770, ez770, az770, bz770⟩ := gJ.int (k := 1) (G := gGG) sh747.1 tb2 rfl rfl rfl
                            obtain ⟨z771, ez771, az771, bz771⟩ := gJ.int (k := 2) (G := gGG) sh747.1 tb2 rfl rfl rfl
                            obtain ⟨z772, ez772, az772, bz772⟩ := gJ.int (k := 3) (G := gGG) sh747.1 tb2 rfl rfl rfl
                            refine gz_call rfl (by decide) rfl (by decide) (by decide) (gcal_of rfl rfl rfl (Nat.le_of_ble_eq_true rfl) (gJ.recv (G := gGG) sh747.1 tpic rfl rfl)) (cl_Picture_begin _ sh747.1 pic tpic zq710 (by omega) zq688 (by omega) zq1 (by omega) bn s750 tbn b0 s751 tb0 b1 s752 tb1 b2 s753 tb2 co s754 tco dm s755 tdm fq732_0 s759 (by omega) fq732_1 s760 (by omega) fq732_2 s761 (by omega) z767 ez767 (by omega) z768 ez768 (by omega) z769 ez769 (by omega) z770 ez770 (by omega) z771 ez771 (by omega) z772 ez772 (by omega) (by omega) (by omega) (by omega) (by omega) (by omega) uq) (fun q773 _ wq773 => ?_)
                            obtain ⟨pq773, oq773, hq773⟩ := q773
                            obtain ⟨tyq773, xq773, fq773_0, xq773_0, gq773, efq773_0, afq773_0, bfq773_0, axq773_0, bxq773_0, uq773_0, uq773_1, uq773_2, uq773_3, yq773_0⟩ := wq773
                            refine ⟨_, gq773, ?_⟩
                            show gz gPP gGG gcn _ _ 231 [some (.ref x), some (.int (zi m)), some (.int (zi a)), some (.int (zi n)), some (.int (zi zq1)), some (.int (zi jn13v0)), some (.int (zi zq688)), some (.int (zi zq710)), some (.int (zi 1)), some (.int (zi zq732))] [] hq773 _
                            have G774 : gSg [112, 113] [] [54002, 54003, 54004, 54005, 54006, 54007, 54008, 54010, 54011, 54012, 54013, 82000, 82001, 82002, 82003, 82004, 82005, 82006, 82007, 82008, 83000, 83001, 83002, 83003, 83004, 83005, 83006, 83007, 83008, 84000, 84001, 84002, 84003, 84004, 84005, 84006, 84007, 84008, 112999, 113999] ty h tyq773 hq773 := gSg.tr (gSg.ss G0 sh747 (by decide)) xq773 (by decide) (by decide) (fun x hx => by cases hx)
                            have t775 : tyq773 x = 65 := gSg.typ xq773 sh747.1 tx rfl
                            have t776 : tyq773 src = 51 := gSg.typ xq773 sh747.1 tsrc rfl
                            have t777 : tyq773 pic = 54 := gSg.typ xq773 sh747.1 tpic rfl
                            have t778 : tyq773 bn = 57 := gSg.typ xq773 sh747.1 tbn rfl
                            have t779 : tyq773 b0 = 82 := gSg.typ xq773 sh747.1 tb0 rfl
                            have t780 : tyq773 b1 = 83 := gSg.typ xq773 sh747.1 tb1 rfl
                            have t781 : tyq773 b2 = 84 := gSg.typ xq773 sh747.1 tb2 rfl
                            have t782 : tyq773 co = 112 := gSg.typ xq773 sh747.1 tco rfl
                            have hl783 : hq773.2.2.2.1 co = h747.2.2.2.1 co := gSg.len xq773 sh747.1 tco rfl
                            have t784 : tyq773 dm = 113 := gSg.typ xq773 sh747.1 tdm rfl
                            have hl785 : hq773.2.2.2.1 dm = h747.2.2.2.1 dm := gSg.len xq773 sh747.1 tdm rfl
                            have s786 := gSg.at xq773 sh747.1 tx rfl (by decide) s748
                            have s787 := gSg.at xq773 sh747.1 tx rfl (by decide) s749
                            have s788 := gSg.at xq773 sh747.1 tpic rfl (by decide) s750
                            have s789 := gSg.at xq773 sh747.1 tbn rfl (by decide) s751
                            have s790 := gSg.at xq773 sh747.1 tbn rfl (by decide) s752
                            have s791 := gSg.at xq773 sh747.1 tbn rfl (by decide) s753
                            have s792 := gSg.at xq773 sh747.1 tsrc rfl (by decide) s756
                            have s793 := gSg.at xq773 sh747.1 tb0 rfl (by decide) s759
                            have s794 := gSg.at xq773 sh747.1 tb0 rfl (by decide) s760
                            have s795 := gSg.at xq773 sh747.1 tb0 rfl (by decide) s761
                            have s796 := gSg.at xq773 sh747.1 tpic rfl (by decide) eh747
                            have s797 := gSg.at xq773 sh747.1 tb1 rfl (by decide) ez767
                            have s798 := gSg.at xq773 sh747.1 tb1 rfl (by decide) ez768
                            have s799 := gSg.at xq773 sh747.1 tb1 rfl (by decide) ez769
                            have s800 := gSg.at xq773 sh747.1 tb2 rfl (by decide) ez770
                            have s801 := gSg.at xq773 sh747.1 tb2 rfl (by decide) ez771
                            have s802 := gSg.at xq773 sh747.1 tb2 rfl (by decide) ez772
                            have uq803 := gSg.uq xq773 uq (by decide)
                            have sS804 : gSs rT 1027 tyq773 [54002, 54003, 54004, 54005, 54006, 54007, 54008, 54010, 54011, 54012, 54013, 82000, 82001, 82002, 82003, 82004, 82005, 82006, 82007, 82008, 83000, 83001, 83002, 83003, 83004, 83005, 83006, 83007, 83008, 84000, 84001, 84002, 84003, 84004, 84005, 84006, 84007, 84008, 112999, 113999] hq773 hq773 := gSs.rf xq773.1
                            refine gz_s 1 (pc' := 232) (L' := [some (.ref x), some (.int (zi m)), some (.int (zi a)), some (.int (zi n)), some (.int (zi zq1)), some (.int (zi jn13v0)), some (.int (zi zq688)), some (.int (zi zq710)), some (.int (zi 1)), some (.int (zi zq732))]) (S' := [.int (zi (-1))]) rfl ?_
                            have G805 : gSg [112, 113] [] [54002, 54003, 54004, 54005, 54006, 54007, 54008, 54010, 54011, 54012, 54013, 82000, 82001, 82002, 82003, 82004, 82005, 82006, 82007, 82008, 83000, 83001, 83002, 83003, 83004, 83005, 83006, 83007, 83008, 84000, 84001, 84002, 84003, 84004, 84005, 84006, 84007, 84008, 112999, 113999] ty h tyq773 hq773 := gSg.ss G774 sS804 (by decide)
                            exact gz_end (I := .ireturn) (len := 1) rfl (Or.inl rfl) ⟨tyq773, G805, (-1), fq773_0, xq773_0, rfl, (by omega), (by omega), efq773_0, (by omega), (by omega), (by omega), (by omega), (by omega), (by omega), (by omega), yq773_0⟩
                          · refine gy_icF rfl (by decide) (by decide) (by omega) (by omega) hc746 ?_
                            refine gz_s 2 (pc' := 215) (L' := [some (.ref x), some (.int (zi m)), some (.int (zi a)), some (.int (zi n)), some (.int (zi zq1)), some (.int (zi jn13v0)), some (.int (zi zq688)), some (.int (zi zq710)), some (.int (zi 1)), some (.int (zi zq732))]) (S' := [.int (zi 1), .ref pic]) rfl ?_
                            refine gs_put rfl (by decide) rfl sq732 tpic rfl rfl rfl rfl (Or.inl rfl) (by decide) (by omega) (by omega) (fun h806 sh806 eh806 fh806 => ?_)
                            have s807 := (fh806 x 0 (fun q => absurd q.2 (by decide))).trans s733
                            have s808 := (fh806 x 1 (fun q => absurd q.2 (by decide))).trans s734
                            have s809 := (fh806 pic 0 (fun q => absurd q.2 (by decide))).trans s735
                            have s810 := (fh806 bn 0 (fun q => absurd (((tbn).symm.trans (congrArg ty q.1)).trans tpic) (by decide))).trans s736
                            have s811 := (fh806 bn 1 (fun q => absurd (((tbn).symm.trans (congrArg ty q.1)).trans tpic) (by decide))).trans s737
                            have s812 := (fh806 bn 2 (fun q => absurd (((tbn).symm.trans (congrArg ty q.1)).trans tpic) (by decide))).trans s738
                            have s813 := (fh806 pic 2 (fun q => absurd q.2 (by decide))).trans s739
                            have s814 := (fh806 pic 3 (fun q => absurd q.2 (by decide))).trans s740
                            have s815 := (fh806 src 1 (fun q => absurd q.2 (by decide))).trans s741
                            have s816 := (fh806 pic 7 (fun q => absurd q.2 (by decide))).trans s742
                            have s817 := (fh806 pic 8 (fun q => absurd q.2 (by decide))).trans s743
                            have s818 := (fh806 b0 1 (fun q => absurd q.2 (by decide))).trans efq732_0
                            have s819 := (fh806 b0 2 (fun q => absurd q.2 (by decide))).trans efq732_1
                            have s820 := (fh806 b0 3 (fun q => absurd q.2 (by decide))).trans efq732_2
                            refine gz_s 1 (pc' := 219) (L' := [some (.ref x), some (.int (zi m)), some (.int (zi a)), some (.int (zi n)), some (.int (zi zq1)), some (.int (zi jn13v0)), some (.int (zi zq688)), some (.int (zi zq710)), some (.int (zi 1)), some (.int (zi zq732))]) (S' := [.ref x]) rfl ?_
                            refine gs_gtk rfl (by decide) rfl sh806.1 tx rfl rfl s808 ?_
                            refine gz_s 3 (pc' := 228) (L' := [some (.ref x), some (.int (zi m)), some (.int (zi a)), some (.int (zi n)), some (.int (zi zq1)), some (.int (zi jn13v0)), some (.int (zi zq688)), some (.int (zi zq710)), some (.int (zi 1)), some (.int (zi zq732))]) (S' := [.int (zi zq1), .int (zi zq688), .int (zi zq710), .ref pic]) rfl ?_
                            have k821 := sh806.2.1
                            have k821b := sh806.2.2.1
                            have hl822 : h806.2.2.2.1 co = h.2.2.2.1 co := congrFun sh806.2.2.2.2.1 co
                            have hl823 : h806.2.2.2.1 dm = h.2.2.2.1 dm := congrFun sh806.2.2.2.2.1 dm
                            have hl824 : h806.2.2.2.1 co = h.2.2.2.1 co := congrFun sh806.2.2.2.2.1 co
                            have hl825 : h806.2.2.2.1 dm = h.2.2.2.1 dm := congrFun sh806.2.2.2.2.1 dm
                            obtain ⟨z826, ez826, az826, bz826⟩ := gJ.int (k := 1) (G := gGG) sh806.1 tb1 rfl rfl rfl
                            obtain ⟨z827, ez827, az827, bz827⟩ := gJ.int (k := 2) (G := gGG) sh806.1 tb1 rfl rfl rfl
                            obtain ⟨z828, ez828, az828, bz828⟩ := gJ.int (k := 3) (G := gGG) sh806.1 tb1 rfl rfl rfl
                            obtain ⟨z829, ez829, az829, bz829⟩ := gJ.int (k := 1) (G := gGG) sh806.1 tb2 rfl rfl rfl
                            obtain ⟨z830, ez830, az830, bz830⟩ := gJ.int (k := 2) (G := gGG) sh806.1 tb2 rfl rfl rfl
                            obtain ⟨z831, ez831, az831, bz831⟩ := gJ.int (k := 3) (G := gGG) sh806.1 tb2 rfl rfl rfl
                            refine gz_call rfl (by decide) rfl (by decide) (by decide) (gcal_of rfl rfl rfl (Nat.le_of_ble_eq_true rfl) (gJ.recv (G := gGG) sh806.1 tpic rfl rfl)) (cl_Picture_begin _ sh806.1 pic tpic zq710 (by omega) zq688 (by omega) zq1 (by omega) bn s809 tbn b0 s810 tb0 b1 s811 tb1 b2 s812 tb2 co s813 tco dm s814 tdm fq732_0 s818 (by omega) fq732_1 s819 (by omega) fq732_2 s820 (by omega) z826 ez826 (by omega) z827 ez827 (by omega) z828 ez828 (by omega) z829 ez829 (by omega) z830 ez830 (by omega) z831 ez831 (by omega) (by omega) (by omega) (by omega) (by omega) (by omega) uq) (fun q832 _ wq832 => ?_)
                            obtain ⟨pq832, oq832, hq832⟩ := q832
                            obtain ⟨tyq832, xq832, fq832_0, xq832_0, gq832, efq832_0, afq832_0, bfq832_0, axq832_0, bxq832_0, uq832_0, uq832_1, uq832_2, uq832_3, yq832_0⟩ := wq832
                            refine ⟨_, gq832, ?_⟩
                            show gz gPP gGG gcn _ _ 231 [some (.ref x), some (.int (zi m)), some (.int (zi a)), some (.int (zi n)), some (.int (zi zq1)), some (.int (zi jn13v0)), some (.int (zi zq688)), some (.int (zi zq710)), some (.int (zi 1)), some (.int (zi zq732))] [] hq832 _
                            have G833 : gSg [112, 113] [] [54002, 54003, 54004, 54005, 54006, 54007, 54008, 54010, 54011, 54012, 54013, 82000, 82001, 82002, 82003, 82004, 82005, 82006, 82007, 82008, 83000, 83001, 83002, 83003, 83004, 83005, 83006, 83007, 83008, 84000, 84001, 84002, 84003, 84004, 84005, 84006, 84007, 84008, 112999, 113999] ty h tyq832 hq832 := gSg.tr (gSg.ss G0 sh806 (by decide)) xq832 (by decide) (by decide) (fun x hx => by cases hx)
                            have t834 : tyq832 x = 65 := gSg.typ xq832 sh806.1 tx rfl
                            have t835 : tyq832 src = 51 := gSg.typ xq832 sh806.1 tsrc rfl
                            have t836 : tyq832 pic = 54 := gSg.typ xq832 sh806.1 tpic rfl
                            have t837 : tyq832 bn = 57 := gSg.typ xq832 sh806.1 tbn rfl
                            have t838 : tyq832 b0 = 82 := gSg.typ xq832 sh806.1 tb0 rfl
                            have t839 : tyq832 b1 = 83 := gSg.typ xq832 sh806.1 tb1 rfl
                            have t840 : tyq832 b2 = 84 := gSg.typ xq832 sh806.1 tb2 rfl
                            have t841 : tyq832 co = 112 := gSg.typ xq832 sh806.1 tco rfl
                            have hl842 : hq832.2.2.2.1 co = h806.2.2.2.1 co := gSg.len xq832 sh806.1 tco rfl
                            have t843 : tyq832 dm = 113 := gSg.typ xq832 sh806.1 tdm rfl
                            have hl844 : hq832.2.2.2.1 dm = h806.2.2.2.1 dm := gSg.len xq832 sh806.1 tdm rfl
                            have s845 := gSg.at xq832 sh806.1 tx rfl (by decide) s807
                            have s846 := gSg.at xq832 sh806.1 tx rfl (by decide) s808
                            have s847 := gSg.at xq832 sh806.1 tpic rfl (by decide) s809
                            have s848 := gSg.at xq832 sh806.1 tbn rfl (by decide) s810
                            have s849 := gSg.at xq832 sh806.1 tbn rfl (by decide) s811
                            have s850 := gSg.at xq832 sh806.1 tbn rfl (by decide) s812
                            have s851 := gSg.at xq832 sh806.1 tsrc rfl (by decide) s815
                            have s852 := gSg.at xq832 sh806.1 tb0 rfl (by decide) s818
                            have s853 := gSg.at xq832 sh806.1 tb0 rfl (by decide) s819
                            have s854 := gSg.at xq832 sh806.1 tb0 rfl (by decide) s820
                            have s855 := gSg.at xq832 sh806.1 tpic rfl (by decide) eh806
                            have s856 := gSg.at xq832 sh806.1 tb1 rfl (by decide) ez826
                            have s857 := gSg.at xq832 sh806.1 tb1 rfl (by decide) ez827
                            have s858 := gSg.at xq832 sh806.1 tb1 rfl (by decide) ez828
                            have s859 := gSg.at xq832 sh806.1 tb2 rfl (by decide) ez829
                            have s860 := gSg.at xq832 sh806.1 tb2 rfl (by decide) ez830
                            have s861 := gSg.at xq832 sh806.1 tb2 rfl (by decide) ez831
                            have uq862 := gSg.uq xq832 uq (by decide)
                            have sS863 : gSs rT 1027 tyq832 [54002, 54003, 54004, 54005, 54006, 54007, 54008, 54010, 54011, 54012, 54013, 82000, 82001, 82002, 82003, 82004, 82005, 82006, 82007, 82008, 83000, 83001, 83002, 83003, 83004, 83005, 83006, 83007, 83008, 84000, 84001, 84002, 84003, 84004, 84005, 84006, 84007, 84008, 112999, 113999] hq832 hq832 := gSs.rf xq832.1
                            refine gz_s 1 (pc' := 232) (L' := [some (.ref x), some (.int (zi m)), some (.int (zi a)), some (.int (zi n)), some (.int (zi zq1)), some (.int (zi jn13v0)), some (.int (zi zq688)), some (.int (zi zq710)), some (.int (zi 1)), some (.int (zi zq732))]) (S' := [.int (zi (-1))]) rfl ?_
                            have G864 : gSg [112, 113] [] [54002, 54003, 54004, 54005, 54006, 54007, 54008, 54010, 54011, 54012, 54013, 82000, 82001, 82002, 82003, 82004, 82005, 82006, 82007, 82008, 83000, 83001, 83002, 83003, 83004, 83005, 83006, 83007, 83008, 84000, 84001, 84002, 84003, 84004, 84005, 84006, 84007, 84008, 112999, 113999] ty h tyq832 hq832 := gSg.ss G833 sS863 (by decide)
                            exact gz_end (I := .ireturn) (len := 1) rfl (Or.inl rfl) ⟨tyq832, G864, (-1), fq832_0, xq832_0, rfl, (by omega), (by omega), efq832_0, (by omega), (by omega), (by omega), (by omega), (by omega), (by omega), (by omega), yq832_0⟩
                        · refine gy_icF rfl (by decide) (by decide) (by omega) (by omega) hc745 ?_
                          refine gy_s 9 (pc' := 179) (L' := [some (.ref x), some (.int (zi m)), some (.int (zi a)), some (.int (zi n)), some (.int (zi zq1)), some (.int (zi jn13v0)), some (.int (zi zq688)), some (.int (zi zq710)), some (.int (zi 1)), some (.int (zi zq732))]) (S' := [.int (((zi a) + (zi 8)) + ((zi 3) * (zi 1))), .int (zi 1), .ref x]) (L2 := [some (.ref x), some (.int (zi m)), some (.int (zi a)), some (.int (zi n)), some (.int (zi zq1)), some (.int (zi jn13v0)), some (.int (zi zq688)), some (.int (zi zq710)), some (.int (zi 1)), some (.int (zi zq732))]) (S2 := [.int (zi ((a + 8) + 3)), .int (zi 1), .ref x]) rfl (by simp only [zi_add, zi_sub, zi_mul, zi_neg, zi_and1, zi_and7, zi_and15, zi_and31, zi_and255, Int.reduceAdd, Int.reduceMul, Int.reduceSub]) (by simp only [zi_add, zi_sub, zi_mul, zi_neg, zi_and1, zi_and7, zi_and15, zi_and31, zi_and255, Int.reduceAdd, Int.reduceMul, Int.reduceSub]) ?_
                          refine gz_call rfl (by decide) rfl (by decide) (by decide) (gcal_of rfl rfl rfl (Nat.le_of_ble_eq_true rfl) (gJ.recv (G := gGG) sq732.1 tx rfl rfl)) (cl_readBand1 _ sq732.1 x tx 1 (by omega) ((a + 8) + 3) (by omega) src s733 tsrc pic s734 tpic bn s735 tbn b0 s736 tb0 b1 s737 tb1 sz s741 (by omega) uq) (fun q865 _ wq865 => ?_)
                          obtain ⟨pq865, oq865, hq865⟩ := q865
                          obtain ⟨xq865, zq865, fq865_0, fq865_1, fq865_2, gq865, aq865, bq865, efq865_0, afq865_0, bfq865_0, efq865_1, afq865_1, bfq865_1, efq865_2, afq865_2, bfq865_2, uq865_0⟩ := wq865
                          refine ⟨_, gq865, ?_⟩
                          show gz gPP gGG gcn _ _ 182 [some (.ref x), some (.int (zi m)), some (.int (zi a)), some (.int (zi n)), some (.int (zi zq1)), some (.int (zi jn13v0)), some (.int (zi zq688)), some (.int (zi zq710)), some (.int (zi 1)), some (.int (zi zq732))] [.int (zi zq865)] hq865 _
                          have sq865 : gSs rT 1027 ty [54002, 54003, 54004, 54005, 54006, 54007, 54008, 54010, 54011, 54012, 54013, 82000, 82001, 82002, 82003, 82004, 82005, 82006, 82007, 82008, 83000, 83001, 83002, 83003, 83004, 83005, 83006, 83007, 83008, 84000, 84001, 84002, 84003, 84004, 84005, 84006, 84007, 84008, 112999, 113999] h hq865 := gSs.tr sq732 xq865 (by decide)
                          have s866 := (xq865.2.2.2.2.2 x 0 (by rw [tx]; decide)).trans s733
                          have s867 := (xq865.2.2.2.2.2 x 1 (by rw [tx]; decide)).trans s734
                          have s868 := (xq865.2.2.2.2.2 pic 0 (by rw [tpic]; decide)).trans s735
                          have s869 := (xq865.2.2.2.2.2 bn 0 (by rw [tbn]; decide)).trans s736
                          have s870 := (xq865.2.2.2.2.2 bn 1 (by rw [tbn]; decide)).trans s737
                          have s871 := (xq865.2.2.2.2.2 bn 2 (by rw [tbn]; decide)).trans s738
                          have s872 := (xq865.2.2.2.2.2 pic 2 (by rw [tpic]; decide)).trans s739
                          have s873 := (xq865.2.2.2.2.2 pic 3 (by rw [tpic]; decide)).trans s740
                          have s874 := (xq865.2.2.2.2.2 src 1 (by rw [tsrc]; decide)).trans s741
                          have s875 := (xq865.2.2.2.2.2 pic 7 (by rw [tpic]; decide)).trans s742
                          have s876 := (xq865.2.2.2.2.2 pic 8 (by rw [tpic]; decide)).trans s743
                          have s877 := (xq865.2.2.2.2.2 b0 1 (by rw [tb0]; decide)).trans efq732_0
                          have s878 := (xq865.2.2.2.2.2 b0 2 (by rw [tb0]; decide)).trans efq732_1
                          have s879 := (xq865.2.2.2.2.2 b0 3 (by rw [tb0]; decide)).trans efq732_2
                          refine gz_s 3 (pc' := 187) (L' := [some (.ref x), some (.int (zi m)), some (.int (zi a)), some (.int (zi n)), some (.int (zi zq1)), some (.int (zi jn13v0)), some (.int (zi zq688)), some (.int (zi zq710)), some (.int (zi 1)), some (.int (zi zq865))]) (S' := [.int (zi (-1)), .int (zi zq865)]) rfl ?_
                          by_cases hc880 : (zq865 : Int) = (-1)
                          · refine gy_icT (pc' := 193) rfl (by decide) (by decide) (by omega) (by omega) hc880 ?_
                            refine gy_s 4 (pc' := 164) (L' := [some (.ref x), some (.int (zi m)), some (.int (zi a)), some (.int (zi n)), some (.int (zi zq1)), some (.int (zi jn13v0)), some (.int (zi zq688)), some (.int (zi zq710)), some (.int ((zi 1) + zi 1)), some (.int (zi zq865))]) (S' := [.int (zi zq1), .int ((zi 1) + zi 1)]) (L2 := [some (.ref x), some (.int (zi m)), some (.int (zi a)), some (.int (zi n)), some (.int (zi zq1)), some (.int (zi jn13v0)), some (.int (zi zq688)), some (.int (zi zq710)), some (.int (zi 2)), some (.int (zi zq865))]) (S2 := [.int (zi zq1), .int (zi 2)]) rfl (by simp only [zi_add, zi_sub, zi_mul, zi_neg, zi_and1, zi_and7, zi_and15, zi_and31, zi_and255, Int.reduceAdd, Int.reduceMul, Int.reduceSub]) (by simp only [zi_add, zi_sub, zi_mul, zi_neg, zi_and1, zi_and7, zi_and15, zi_and31, zi_and255, Int.reduceAdd, Int.reduceMul, Int.reduceSub]) ?_
                            by_cases hc881 : (zq1 : Int) ≤ 2
                            · refine gy_icT (pc' := 199) rfl (by decide) (by decide) (by omega) (by omega) hc881 ?_
                              refine gz_s 1 (pc' := 200) (L' := [some (.ref x), some (.int (zi m)), some (.int (zi a)), some (.int (zi n)), some (.int (zi zq1)), some (.int (zi jn13v0)), some (.int (zi zq688)), some (.int (zi zq710)), some (.int (zi 2)), some (.int (zi zq865))]) (S' := [.ref x]) rfl ?_
                              refine gs_gtk rfl (by decide) rfl sq865.1 tx rfl rfl s867 ?_
                              refine gz_s 2 (pc' := 207) (L' := [some (.ref x), some (.int (zi m)), some (.int (zi a)), some (.int (zi n)), some (.int (zi zq1)), some (.int (zi jn13v0)), some (.int (zi zq688)), some (.int (zi zq710)), some (.int (zi 2)), some (.int (zi zq865))]) (S' := [.int (zi 194), .int (zi m), .ref pic]) rfl ?_
                              by_cases hc882 : ¬ (m : Int) = 194
                              · refine gy_icT (pc' := 214) rfl (by decide) (by decide) (by omega) (by omega) hc882 ?_
                                refine gz_s 1 (pc' := 215) (L' := [some (.ref x), some (.int (zi m)), some (.int (zi a)), some (.int (zi n)), some (.int (zi zq1)), some (.int (zi jn13v0)), some (.int (zi zq688)), some (.int (zi zq710)), some (.int (zi 2)), some (.int (zi zq865))]) (S' := [.int (zi 0), .ref pic]) rfl ?_
                                refine gs_put rfl (by decide) rfl sq865 tpic rfl rfl rfl rfl (Or.inl rfl) (by decide) (by omega) (by omega) (fun h883 sh883 eh883 fh883 => ?_)
                                have s884 := (fh883 x 0 (fun q => absurd q.2 (by decide))).trans s866
                                have s885 := (fh883 x 1 (fun q => absurd q.2 (by decide))).trans s867
                                have s886 := (fh883 pic 0 (fun q => absurd q.2 (by decide))).trans s868
                                have s887 := (fh883 bn 0 (fun q => absurd (((tbn).symm.trans (congrArg ty q.1)).trans tpic) (by decide))).trans s869
                                have s888 := (fh883 bn 1 (fun q => absurd (((tbn).symm.trans (congrArg ty q.1)).trans tpic) (by decide))).trans s870
                                have s889 := (fh883 bn 2 (fun q => absurd (((tbn).symm.trans (congrArg ty q.1)).trans tpic) (by decide))).trans s871
                                have s890 := (fh883 pic 2 (fun q => absurd q.2 (by decide))).trans s872
                                have s891 := (fh883 pic 3 (fun q => absurd q.2 (by decide))).trans s873
                                have s892 := (fh883 src 1 (fun q => absurd q.2 (by decide))).trans s874
                                have s893 := (fh883 pic 7 (fun q => absurd q.2 (by decide))).trans s875
                                have s894 := (fh883 pic 8 (fun q => absurd q.2 (by decide))).trans s876
                                have s895 := (fh883 b0 1 (fun q => absurd q.2 (by decide))).trans s877
                                have s896 := (fh883 b0 2 (fun q => absurd q.2 (by decide))).trans s878
                                have s897 := (fh883 b0 3 (fun q => absurd q.2 (by decide))).trans s879
                                have s898 := (fh883 b1 1 (fun q => absurd q.2 (by decide))).trans efq865_0
                                have s899 := (fh883 b1 2 (fun q => absurd q.2 (by decide))).trans efq865_1
                                have s900 := (fh883 b1 3 (fun q => absurd q.2 (by decide))).trans efq865_2
                                refine gz_s 1 (pc' := 219) (L' := [some (.ref x), some (.int (zi m)), some (.int (zi a)), some (.int (zi n)), some (.int (zi zq1)), some (.int (zi jn13v0)), some (.int (zi zq688)), some (.int (zi zq710)), some (.int (zi 2)), some (.int (zi zq865))]) (S' := [.ref x]) rfl ?_
                                refine gs_gtk rfl (by decide) rfl sh883.1 tx rfl rfl s885 ?_
                                refine gz_s 3 (pc' := 228) (L' := [some (.ref x), some (.int (zi m)), some (.int (zi a)), some (.int (zi n)), some (.int (zi zq1)), some (.int (zi jn13v0)), some (.int (zi zq688)), some (.int (zi zq710)), some (.int (zi 2)), some (.int (zi zq865))]) (S' := [.int (zi zq1), .int (zi zq688), .int (zi zq710), .ref pic]) rfl ?_
                                have k901 := sh883.2.1
                                have k901b := sh883.2.2.1
                                have hl902 : h883.2.2.2.1 co = h.2.2.2.1 co := congrFun sh883.2.2.2.2.1 co
                                have hl903 : h883.2.2.2.1 dm = h.2.2.2.1 dm := congrFun sh883.2.2.2.2.1 dm
                                have hl904 : h883.2.2.2.1 co = h.2.2.2.1 co := congrFun sh883.2.2.2.2.1 co
                                have hl905 : h883.2.2.2.1 dm = h.2.2.2.1 dm := congrFun sh883.2.2.2.2.1 dm
                                obtain ⟨z906, ez906, az906, bz906⟩ := gJ.int (k := 1) (G := gGG) sh883.1 tb2 rfl rfl rfl
                                obtain ⟨z907, ez907, az907, bz907⟩ := gJ.int (k := 2) (G := gGG) sh883.1 tb2 rfl rfl rfl
                                obtain ⟨z908, ez908, az908, bz908⟩ := gJ.int (k := 3) (G := gGG) sh883.1 tb2 rfl rfl rfl
                                refine gz_call rfl (by decide) rfl (by decide) (by decide) (gcal_of rfl rfl rfl (Nat.le_of_ble_eq_true rfl) (gJ.recv (G := gGG) sh883.1 tpic rfl rfl)) (cl_Picture_begin _ sh883.1 pic tpic zq710 (by omega) zq688 (by omega) zq1 (by omega) bn s886 tbn b0 s887 tb0 b1 s888 tb1 b2 s889 tb2 co s890 tco dm s891 tdm fq732_0 s895 (by omega) fq732_1 s896 (by omega) fq732_2 s897 (by omega) fq865_0 s898 (by omega) fq865_1 s899 (by omega) fq865_2 s900 (by omega) z906 ez906 (by omega) z907 ez907 (by omega) z908 ez908 (by omega) (by omega) (by omega) (by omega) (by omega) (by omega) uq) (fun q909 _ wq909 => ?_)
                                obtain ⟨pq909, oq909, hq909⟩ := q909
                                obtain ⟨tyq909, xq909, fq909_0, xq909_0, gq909, efq909_0, afq909_0, bfq909_0, axq909_0, bxq909_0, uq909_0, uq909_1, uq909_2, uq909_3, yq909_0⟩ := wq909
                                refine ⟨_, gq909, ?_⟩
                                show gz gPP gGG gcn _ _ 231 [some (.ref x), some (.int (zi m)), some (.int (zi a)), some (.int (zi n)), some (.int (zi zq1)), some (.int (zi jn13v0)), some (.int (zi zq688)), some (.int (zi zq710)), some (.int (zi 2)), some (.int (zi zq865))] [] hq909 _
                                have G910 : gSg [112, 113] [] [54002, 54003, 54004, 54005, 54006, 54007, 54008, 54010, 54011, 54012, 54013, 82000, 82001, 82002, 82003, 82004, 82005, 82006, 82007, 82008, 83000, 83001, 83002, 83003, 83004, 83005, 83006, 83007, 83008, 84000, 84001, 84002, 84003, 84004, 84005, 84006, 84007, 84008, 112999, 113999] ty h tyq909 hq909 := gSg.tr (gSg.ss G0 sh883 (by decide)) xq909 (by decide) (by decide) (fun x hx => by cases hx)
                                have t911 : tyq909 x = 65 := gSg.typ xq909 sh883.1 tx rfl
                                have t912 : tyq909 src = 51 := gSg.typ xq909 sh883.1 tsrc rfl
                                have t913 : tyq909 pic = 54 := gSg.typ xq909 sh883.1 tpic rfl
                                have t914 : tyq909 bn = 57 := gSg.typ xq909 sh883.1 tbn rfl
                                have t915 : tyq909 b0 = 82 := gSg.typ xq909 sh883.1 tb0 rfl
                                have t916 : tyq909 b1 = 83 := gSg.typ xq909 sh883.1 tb1 rfl
                                have t917 : tyq909 b2 = 84 := gSg.typ xq909 sh883.1 tb2 rfl
                                have t918 : tyq909 co = 112 := gSg.typ xq909 sh883.1 tco rfl
                                have hl919 : hq909.2.2.2.1 co = h883.2.2.2.1 co := gSg.len xq909 sh883.1 tco rfl
                                have t920 : tyq909 dm = 113 := gSg.typ xq909 sh883.1 tdm rfl
                                have hl921 : hq909.2.2.2.1 dm = h883.2.2.2.1 dm := gSg.len xq909 sh883.1 tdm rfl
                                have s922 := gSg.at xq909 sh883.1 tx rfl (by decide) s884
                                have s923 := gSg.at xq909 sh883.1 tx rfl (by decide) s885
                                have s924 := gSg.at xq909 sh883.1 tpic rfl (by decide) s886
                                have s925 := gSg.at xq909 sh883.1 tbn rfl (by decide) s887
                                have s926 := gSg.at xq909 sh883.1 tbn rfl (by decide) s888
                                have s927 := gSg.at xq909 sh883.1 tbn rfl (by decide) s889
                                have s928 := gSg.at xq909 sh883.1 tsrc rfl (by decide) s892
                                have s929 := gSg.at xq909 sh883.1 tb0 rfl (by decide) s895
                                have s930 := gSg.at xq909 sh883.1 tb0 rfl (by decide) s896
                                have s931 := gSg.at xq909 sh883.1 tb0 rfl (by decide) s897
                                have s932 := gSg.at xq909 sh883.1 tb1 rfl (by decide) s898
                                have s933 := gSg.at xq909 sh883.1 tb1 rfl (by decide) s899
                                have s934 := gSg.at xq909 sh883.1 tb1 rfl (by decide) s900
                                have s935 := gSg.at xq909 sh883.1 tpic rfl (by decide) eh883
                                have s936 := gSg.at xq909 sh883.1 tb2 rfl (by decide) ez906
                                have s937 := gSg.at xq909 sh883.1 tb2 rfl (by decide) ez907
                                have s938 := gSg.at xq909 sh883.1 tb2 rfl (by decide) ez908
                                have uq939 := gSg.uq xq909 uq (by decide)
                                have sS940 : gSs rT 1027 tyq909 [54002, 54003, 54004, 54005, 54006, 54007, 54008, 54010, 54011, 54012, 54013, 82000, 82001, 82002, 82003, 82004, 82005, 82006, 82007, 82008, 83000, 83001, 83002, 83003, 83004, 83005, 83006, 83007, 83008, 84000, 84001, 84002, 84003, 84004, 84005, 84006, 84007, 84008, 112999, 113999] hq909 hq909 := gSs.rf xq909.1
                                refine gz_s 1 (pc' := 232) (L' := [some (.ref x), some (.int (zi m)), some (.int (zi a)), some (.int (zi n)), some (.int (zi zq1)), some (.int (zi jn13v0)), some (.int (zi zq688)), some (.int (zi zq710)), some (.int (zi 2)), some (.int (zi zq865))]) (S' := [.int (zi (-1))]) rfl ?_
                                have G941 : gSg [112, 113] [] [54002, 54003, 54004, 54005, 54006, 54007, 54008, 54010, 54011, 54012, 54013, 82000, 82001, 82002, 82003, 82004, 82005, 82006, 82007, 82008, 83000, 83001, 83002, 83003, 83004, 83005, 83006, 83007, 83008, 84000, 84001, 84002, 84003, 84004, 84005, 84006, 84007, 84008, 112999, 113999] ty h tyq909 hq909 := gSg.ss G910 sS940 (by decide)
                                exact gz_end (I := .ireturn) (len := 1) rfl (Or.inl rfl) ⟨tyq909, G941, (-1), fq909_0, xq909_0, rfl, (by omega), (by omega), efq909_0, (by omega), (by omega), (by omega), (by omega), (by omega), (by omega), (by omega), yq909_0⟩
                              · refine gy_icF rfl (by decide) (by decide) (by omega) (by omega) hc882 ?_
                                refine gz_s 2 (pc' := 215) (L' := [some (.ref x), some (.int (zi m)), some (.int (zi a)), some (.int (zi n)), some (.int (zi zq1)), some (.int (zi jn13v0)), some (.int (zi zq688)), some (.int (zi zq710)), some (.int (zi 2)), some (.int (zi zq865))]) (S' := [.int (zi 1), .ref pic]) rfl ?_
                                refine gs_put rfl (by decide) rfl sq865 tpic rfl rfl rfl rfl (Or.inl rfl) (by decide) (by omega) (by omega) (fun h942 sh942 eh942 fh942 => ?_)
                                have s943 := (fh942 x 0 (fun q => absurd q.2 (by decide))).trans s866
                                have s944 := (fh942 x 1 (fun q => absurd q.2 (by decide))).trans s867
                                have s945 := (fh942 pic 0 (fun q => absurd q.2 (by decide))).trans s868
                                have s946 := (fh942 bn 0 (fun q => absurd (((tbn).symm.trans (congrArg ty q.1)).trans tpic) (by decide))).trans s869
                                have s947 := (fh942 bn 1 (fun q => absurd (((tbn).symm.trans (congrArg ty q.1)).trans tpic) (by decide))).trans s870
                                have s948 := (fh942 bn 2 (fun q => absurd (((tbn).symm.trans (congrArg ty q.1)).trans tpic) (by decide))).trans s871
                                have s949 := (fh942 pic 2 (fun q => absurd q.2 (by decide))).trans s872
                                have s950 := (fh942 pic 3 (fun q => absurd q.2 (by decide))).trans s873
                                have s951 := (fh942 src 1 (fun q => absurd q.2 (by decide))).trans s874
                                have s952 := (fh942 pic 7 (fun q => absurd q.2 (by decide))).trans s875
                                have s953 := (fh942 pic 8 (fun q => absurd q.2 (by decide))).trans s876
                                have s954 := (fh942 b0 1 (fun q => absurd q.2 (by decide))).trans s877
                                have s955 := (fh942 b0 2 (fun q => absurd q.2 (by decide))).trans s878
                                have s956 := (fh942 b0 3 (fun q => absurd q.2 (by decide))).trans s879
                                have s957 := (fh942 b1 1 (fun q => absurd q.2 (by decide))).trans efq865_0
                                have s958 := (fh942 b1 2 (fun q => absurd q.2 (by decide))).trans efq865_1
                                have s959 := (fh942 b1 3 (fun q => absurd q.2 (by decide))).trans efq865_2
                                refine gz_s 1 (pc' := 219) (L' := [some (.ref x), some (.int (zi m)), some (.int (zi a)), some (.int (zi n)), some (.int (zi zq1)), some (.int (zi jn13v0)), some (.int (zi zq688)), some (.int (zi zq710)), some (.int (zi 2)), some (.int (zi zq865))]) (S' := [.ref x]) rfl ?_
                                refine gs_gtk rfl (by decide) rfl sh942.1 tx rfl rfl s944 ?_
                                refine gz_s 3 (pc' := 228) (L' := [some (.ref x), some (.int (zi m)), some (.int (zi a)), some (.int (zi n)), some (.int (zi zq1)), some (.int (zi jn13v0)), some (.int (zi zq688)), some (.int (zi zq710)), some (.int (zi 2)), some (.int (zi zq865))]) (S' := [.int (zi zq1), .int (zi zq688), .int (zi zq710), .ref pic]) rfl ?_
                                have k960 := sh942.2.1
                                have k960b := sh942.2.2.1
                                have hl961 : h942.2.2.2.1 co = h.2.2.2.1 co := congrFun sh942.2.2.2.2.1 co
                                have hl962 : h942.2.2.2.1 dm = h.2.2.2.1 dm := congrFun sh942.2.2.2.2.1 dm
                                have hl963 : h942.2.2.2.1 co = h.2.2.2.1 co := congrFun sh942.2.2.2.2.1 co
                                have hl964 : h942.2.2.2.1 dm = h.2.2.2.1 dm := congrFun sh942.2.2.2.2.1 dm
                                obtain ⟨z965, ez965, az965, bz965⟩ := gJ.int (k := 1) (G := gGG) sh942.1 tb2 rfl rfl rfl
                                obtain ⟨z966, ez966, az966, bz966⟩ := gJ.int (k := 2) (G := gGG) sh942.1 tb2 rfl rfl rfl
                                obtain ⟨z967, ez967, az967, bz967⟩ := gJ.int (k := 3) (G := gGG) sh942.1 tb2 rfl rfl rfl
                                refine gz_call rfl (by decide) rfl (by decide) (by decide) (gcal_of rfl rfl rfl (Nat.le_of_ble_eq_true rfl) (gJ.recv (G := gGG) sh942.1 tpic rfl rfl)) (cl_Picture_begin _ sh942.1 pic tpic zq710 (by omega) zq688 (by omega) zq1 (by omega) bn s945 tbn b0 s946 tb0 b1 s947 tb1 b2 s948 tb2 co s949 tco dm s950 tdm fq732_0 s954 (by omega) fq732_1 s955 (by omega) fq732_2 s956 (by omega) fq865_0 s957 (by omega) fq865_1 s958 (by omega) fq865_2 s959 (by omega) z965 ez965 (by omega) z966 ez966 (by omega) z967 ez967 (by omega) (by omega) (by omega) (by omega) (by omega) (by omega) uq) (fun q968 _ wq968 => ?_)
                                obtain ⟨pq968, oq968, hq968⟩ := q968
                                obtain ⟨tyq968, xq968, fq968_0, xq968_0, gq968, efq968_0, afq968_0, bfq968_0, axq968_0, bxq968_0, uq968_0, uq968_1, uq968_2, uq968_3, yq968_0⟩ := wq968
                                refine ⟨_, gq968, ?_⟩
                                show gz gPP gGG gcn _ _ 231 [some (.ref x), some (.int (zi m)), some (.int (zi a)), some (.int (zi n)), some (.int (zi zq1)), some (.int (zi jn13v0)), some (.int (zi zq688)), some (.int (zi zq710)), some (.int (zi 2)), some (.int (zi zq865))] [] hq968 _
                                have G969 : gSg [112, 113] [] [54002, 54003, 54004, 54005, 54006, 54007, 54008, 54010, 54011, 54012, 54013, 82000, 82001, 82002, 82003, 82004, 82005, 82006, 82007, 82008, 83000, 83001, 83002, 83003, 83004, 83005, 83006, 83007, 83008, 84000, 84001, 84002, 84003, 84004, 84005, 84006, 84007, 84008, 112999, 113999] ty h tyq968 hq968 := gSg.tr (gSg.ss G0 sh942 (by decide)) xq968 (by decide) (by decide) (fun x hx => by cases hx)
                                have t970 : tyq968 x = 65 := gSg.typ xq968 sh942.1 tx rfl
                                have t971 : tyq968 src = 51 := gSg.typ xq968 sh942.1 tsrc rfl
                                have t972 : tyq968 pic = 54 := gSg.typ xq968 sh942.1 tpic rfl
                                have t973 : tyq968 bn = 57 := gSg.typ xq968 sh942.1 tbn rfl
                                have t974 : tyq968 b0 = 82 := gSg.typ xq968 sh942.1 tb0 rfl
                                have t975 : tyq968 b1 = 83 := gSg.typ xq968 sh942.1 tb1 rfl
                                have t976 : tyq968 b2 = 84 := gSg.typ xq968 sh942.1 tb2 rfl
                                have t977 : tyq968 co = 112 := gSg.typ xq968 sh942.1 tco rfl
                                have hl978 : hq968.2.2.2.1 co = h942.2.2.2.1 co := gSg.len xq968 sh942.1 tco rfl
                                have t979 : tyq968 dm = 113 := gSg.typ xq968 sh942.1 tdm rfl
                                have hl980 : hq968.2.2.2.1 dm = h942.2.2.2.1 dm := gSg.len xq968 sh942.1 tdm rfl
                                have s981 := gSg.at xq968 sh942.1 tx rfl (by decide) s943
                                have s982 := gSg.at xq968 sh942.1 tx rfl (by decide) s944
                                have s983 := gSg.at xq968 sh942.1 tpic rfl (by decide) s945
                                have s984 := gSg.at xq968 sh942.1 tbn rfl (by decide) s946
                                have s985 := gSg.at xq968 sh942.1 tbn rfl (by decide) s947
                                have s986 := gSg.at xq968 sh942.1 tbn rfl (by decide) s948
                                have s987 := gSg.at xq968 sh942.1 tsrc rfl (by decide) s951
                                have s988 := gSg.at xq968 sh942.1 tb0 rfl (by decide) s954
                                have s989 := gSg.at xq968 sh942.1 tb0 rfl (by decide) s955
                                have s990 := gSg.at xq968 sh942.1 tb0 rfl (by decide) s956
                                have s991 := gSg.at xq968 sh942.1 tb1 rfl (by decide) s957
                                have s992 := gSg.at xq968 sh942.1 tb1 rfl (by decide) s958
                                have s993 := gSg.at xq968 sh942.1 tb1 rfl (by decide) s959
                                have s994 := gSg.at xq968 sh942.1 tpic rfl (by decide) eh942
                                have s995 := gSg.at xq968 sh942.1 tb2 rfl (by decide) ez965
                                have s996 := gSg.at xq968 sh942.1 tb2 rfl (by decide) ez966
                                have s997 := gSg.at xq968 sh942.1 tb2 rfl (by decide) ez967
                                have uq998 := gSg.uq xq968 uq (by decide)
                                have sS999 : gSs rT 1027 tyq968 [54002, 54003, 54004, 54005, 54006, 54007, 54008, 54010, 54011, 54012, 54013, 82000, 82001, 82002, 82003, 82004, 82005, 82006, 82007, 82008, 83000, 83001, 83002, 83003, 83004, 83005, 83006, 83007, 83008, 84000, 84001, 84002, 84003, 84004, 84005, 84006, 84007, 84008, 112999, 113999] hq968 hq968 := gSs.rf xq968.1
                                refine gz_s 1 (pc' := 232) (L' := [some (.ref x), some (.int (zi m)), some (.int (zi a)), some (.int (zi n)), some (.int (zi zq1)), some (.int (zi jn13v0)), some (.int (zi zq688)), some (.int (zi zq710)), some (.int (zi 2)), some (.int (zi zq865))]) (S' := [.int (zi (-1))]) rfl ?_
                                have G1000 : gSg [112, 113] [] [54002, 54003, 54004, 54005, 54006, 54007, 54008, 54010, 54011, 54012, 54013, 82000, 82001, 82002, 82003, 82004, 82005, 82006, 82007, 82008, 83000, 83001, 83002, 83003, 83004, 83005, 83006, 83007, 83008, 84000, 84001, 84002, 84003, 84004, 84005, 84006, 84007, 84008, 112999, 113999] ty h tyq968 hq968 := gSg.ss G969 sS999 (by decide)
                                exact gz_end (I := .ireturn) (len := 1) rfl (Or.inl rfl) ⟨tyq968, G1000, (-1), fq968_0, xq968_0, rfl, (by omega), (by omega), efq968_0, (by omega), (by omega), (by omega), (by omega), (by omega), (by omega), (by omega), yq968_0⟩
                            · refine gy_icF rfl (by decide) (by decide) (by omega) (by omega) hc881 ?_
                              refine gy_s 9 (pc' := 179) (L' := [some (.ref x), some (.int (zi m)), some (.int (zi a)), some (.int (zi n)), some (.int (zi zq1)), some (.int (zi jn13v0)), some (.int (zi zq688)), some (.int (zi zq710)), some (.int (zi 2)), some (.int (zi zq865))]) (S' := [.int (((zi a) + (zi 8)) + ((zi 3) * (zi 2))), .int (zi 2), .ref x]) (L2 := [some (.ref x), some (.int (zi m)), some (.int (zi a)), some (.int (zi n)), some (.int (zi zq1)), some (.int (zi jn13v0)), some (.int (zi zq688)), some (.int (zi zq710)), some (.int (zi 2)), some (.int (zi zq865))]) (S2 := [.int (zi ((a + 8) + 6)), .int (zi 2), .ref x]) rfl (by simp only [zi_add, zi_sub, zi_mul, zi_neg, zi_and1, zi_and7, zi_and15, zi_and31, zi_and255, Int.reduceAdd, Int.reduceMul, Int.reduceSub]) (by simp only [zi_add, zi_sub, zi_mul, zi_neg, zi_and1, zi_and7, zi_and15, zi_and31, zi_and255, Int.reduceAdd, Int.reduceMul, Int.reduceSub]) ?_
                              refine gz_call rfl (by decide) rfl (by decide) (by decide) (gcal_of rfl rfl rfl (Nat.le_of_ble_eq_true rfl) (gJ.recv (G := gGG) sq865.1 tx rfl rfl)) (cl_readBand2 _ sq865.1 x tx 2 (by omega) ((a + 8) + 6) (by omega) src s866 tsrc pic s867 tpic bn s868 tbn b0 s869 tb0 b1 s870 tb1 b2 s871 tb2 sz s874 (by omega) uq) (fun q1001 _ wq1001 => ?_)
                              obtain ⟨pq1001, oq1001, hq1001⟩ := q1001
                              obtain ⟨xq1001, zq1001, fq1001_0, fq1001_1, fq1001_2, gq1001, aq1001, bq1001, efq1001_0, afq1001_0, bfq1001_0, efq1001_1, afq1001_1, bfq1001_1, efq1001_2, afq1001_2, bfq1001_2, uq1001_0⟩ := wq1001
                              refine ⟨_, gq1001, ?_⟩
                              show gz gPP gGG gcn _ _ 182 [some (.ref x), some (.int (zi m)), some (.int (zi a)), some (.int (zi n)), some (.int (zi zq1)), some (.int (zi jn13v0)), some (.int (zi zq688)), some (.int (zi zq710)), some (.int (zi 2)), some (.int (zi zq865))] [.int (zi zq1001)] hq1001 _
                              have sq1001 : gSs rT 1027 ty [54002, 54003, 54004, 54005, 54006, 54007, 54008, 54010, 54011, 54012, 54013, 82000, 82001, 82002, 82003, 82004, 82005, 82006, 82007, 82008, 83000, 83001, 83002, 83003, 83004, 83005, 83006, 83007, 83008, 84000, 84001, 84002, 84003, 84004, 84005, 84006, 84007, 84008, 112999, 113999] h hq1001 := gSs.tr sq865 xq1001 (by decide)
                              have s1002 := (xq1001.2.2.2.2.2 x 0 (by rw [tx]; decide)).trans s866
                              have s1003 := (xq1001.2.2.2.2.2 x 1 (by rw [tx]; decide)).trans s867
                              have s1004 := (xq1001.2.2.2.2.2 pic 0 (by rw [tpic]; decide)).trans s868
                              have s1005 := (xq1001.2.2.2.2.2 bn 0 (by rw [tbn]; decide)).trans s869
                              have s1006 := (xq1001.2.2.2.2.2 bn 1 (by rw [tbn]; decide)).trans s870
                              have s1007 := (xq1001.2.2.2.2.2 bn 2 (by rw [tbn]; decide)).trans s871
                              have s1008 := (xq1001.2.2.2.2.2 pic 2 (by rw [tpic]; decide)).trans s872
                              have s1009 := (xq1001.2.2.2.2.2 pic 3 (by rw [tpic]; decide)).trans s873
                              have s1010 := (xq1001.2.2.2.2.2 src 1 (by rw [tsrc]; decide)).trans s874
                              have s1011 := (xq1001.2.2.2.2.2 pic 7 (by rw [tpic]; decide)).trans s875
                              have s1012 := (xq1001.2.2.2.2.2 pic 8 (by rw [tpic]; decide)).trans s876
                              have s1013 := (xq1001.2.2.2.2.2 b0 1 (by rw [tb0]; decide)).trans s877
                              have s1014 := (xq1001.2.2.2.2.2 b0 2 (by rw [tb0]; decide)).trans s878
                              have s1015 := (xq1001.2.2.2.2.2 b0 3 (by rw [tb0]; decide)).trans s879
                              have s1016 := (xq1001.2.2.2.2.2 b1 1 (by rw [tb1]; decide)).trans efq865_0
                              have s1017 := (xq1001.2.2.2.2.2 b1 2 (by rw [tb1]; decide)).trans efq865_1
                              have s1018 := (xq1001.2.2.2.2.2 b1 3 (by rw [tb1]; decide)).trans efq865_2
                              refine gz_s 3 (pc' := 187) (L' := [some (.ref x), some (.int (zi m)), some (.int (zi a)), some (.int (zi n)), some (.int (zi zq1)), some (.int (zi jn13v0)), some (.int (zi zq688)), some (.int (zi zq710)), some (.int (zi 2)), some (.int (zi zq1001))]) (S' := [.int (zi (-1)), .int (zi zq1001)]) rfl ?_
                              by_cases hc1019 : (zq1001 : Int) = (-1)
                              · refine gy_icT (pc' := 193) rfl (by decide) (by decide) (by omega) (by omega) hc1019 ?_
                                refine gy_s 4 (pc' := 164) (L' := [some (.ref x), some (.int (zi m)), some (.int (zi a)), some (.int (zi n)), some (.int (zi zq1)), some (.int (zi jn13v0)), some (.int (zi zq688)), some (.int (zi zq710)), some (.int ((zi 2) + zi 1)), some (.int (zi zq1001))]) (S' := [.int (zi zq1), .int ((zi 2) + zi 1)]) (L2 := [some (.ref x), some (.int (zi m)), some (.int (zi a)), some (.int (zi n)), some (.int (zi zq1)), some (.int (zi jn13v0)), some (.int (zi zq688)), some (.int (zi zq710)), some (.int (zi 3)), some (.int (zi zq1001))]) (S2 := [.int (zi zq1), .int (zi 3)]) rfl (by simp only [zi_add, zi_sub, zi_mul, zi_neg, zi_and1, zi_and7, zi_and15, zi_and31, zi_and255, Int.reduceAdd, Int.reduceMul, Int.reduceSub]) (by simp only [zi_add, zi_sub, zi_mul, zi_neg, zi_and1, zi_and7, zi_and15, zi_and31, zi_and255, Int.reduceAdd, Int.reduceMul, Int.reduceSub]) ?_
                                refine gy_icT (pc' := 199) rfl (by decide) (by decide) (by omega) (by omega) (by first | (simp [zc]; done) | (simp only [zc]; omega)) ?_
                                refine gz_s 1 (pc' := 200) (L' := [some (.ref x), some (.int (zi m)), some (.int (zi a)), some (.int (zi n)), some (.int (zi zq1)), some (.int (zi jn13v0)), some (.int (zi zq688)), some (.int (zi zq710)), some (.int (zi 3)), some (.int (zi zq1001))]) (S' := [.ref x]) rfl ?_
                                refine gs_gtk rfl (by decide) rfl sq1001.1 tx rfl rfl s1003 ?_
                                refine gz_s 2 (pc' := 207) (L' := [some (.ref x), some (.int (zi m)), some (.int (zi a)), some (.int (zi n)), some (.int (zi zq1)), some (.int (zi jn13v0)), some (.int (zi zq688)), some (.int (zi zq710)), some (.int (zi 3)), some (.int (zi zq1001))]) (S' := [.int (zi 194), .int (zi m), .ref pic]) rfl ?_
                                by_cases hc1020 : ¬ (m : Int) = 194
                                · refine gy_icT (pc' := 214) rfl (by decide) (by decide) (by omega) (by omega) hc1020 ?_
                                  refine gz_s 1 (pc' := 215) (L' := [some (.ref x), some (.int (zi m)), some (.int (zi a)), some (.int (zi n)), some (.int (zi zq1)), some (.int (zi jn13v0)), some (.int (zi zq688)), some (.int (zi zq710)), some (.int (zi 3)), some (.int (zi zq1001))]) (S' := [.int (zi 0), .ref pic]) rfl ?_
                                  refine gs_put rfl (by decide) rfl sq1001 tpic rfl rfl rfl rfl (Or.inl rfl) (by decide) (by omega) (by omega) (fun h1021 sh1021 eh1021 fh1021 => ?_)
                                  have s1022 := (fh1021 x 0 (fun q => absurd q.2 (by decide))).trans s1002
                                  have s1023 := (fh1021 x 1 (fun q => absurd q.2 (by decide))).trans s1003
                                  have s1024 := (fh1021 pic 0 (fun q => absurd q.2 (by decide))).trans s1004
                                  have s1025 := (fh1021 bn 0 (fun q => absurd (((tbn).symm.trans (congrArg ty q.1)).trans tpic) (by decide))).trans s1005
                                  have s1026 := (fh1021 bn 1 (fun q => absurd (((tbn).symm.trans (congrArg ty q.1)).trans tpic) (by decide))).trans s1006
                                  have s1027 := (fh1021 bn 2 (fun q => absurd (((tbn).symm.trans (congrArg ty q.1)).trans tpic) (by decide))).trans s1007
                                  have s1028 := (fh1021 pic 2 (fun q => absurd q.2 (by decide))).trans s1008
                                  have s1029 := (fh1021 pic 3 (fun q => absurd q.2 (by decide))).trans s1009
                                  have s1030 := (fh1021 src 1 (fun q => absurd q.2 (by decide))).trans s1010
                                  have s1031 := (fh1021 pic 7 (fun q => absurd q.2 (by decide))).trans s1011
                                  have s1032 := (fh1021 pic 8 (fun q => absurd q.2 (by decide))).trans s1012
                                  have s1033 := (fh1021 b0 1 (fun q => absurd q.2 (by decide))).trans s1013
                                  have s1034 := (fh1021 b0 2 (fun q => absurd q.2 (by decide))).trans s1014
                                  have s1035 := (fh1021 b0 3 (fun q => absurd q.2 (by decide))).trans s1015
                                  have s1036 := (fh1021 b1 1 (fun q => absurd q.2 (by decide))).trans s1016
                                  have s1037 := (fh1021 b1 2 (fun q => absurd q.2 (by decide))).trans s1017
                                  have s1038 := (fh1021 b1 3 (fun q => absurd q.2 (by decide))).trans s1018
                                  have s1039 := (fh1021 b2 1 (fun q => absurd q.2 (by decide))).trans efq1001_0
                                  have s1040 := (fh1021 b2 2 (fun q => absurd q.2 (by decide))).trans efq1001_1
                                  have s1041 := (fh1021 b2 3 (fun q => absurd q.2 (by decide))).trans efq1001_2
                                  refine gz_s 1 (pc' := 219) (L' := [some (.ref x), some (.int (zi m)), some (.int (zi a)), some (.int (zi n)), some (.int (zi zq1)), some (.int (zi jn13v0)), some (.int (zi zq688)), some (.int (zi zq710)), some (.int (zi 3)), some (.int (zi zq1001))]) (S' := [.ref x]) rfl ?_
                                  refine gs_gtk rfl (by decide) rfl sh1021.1 tx rfl rfl s1023 ?_
                                  refine gz_s 3 (pc' := 228) (L' := [some (.ref x), some (.int (zi m)), some (.int (zi a)), some (.int (zi n)), some (.int (zi zq1)), some (.int (zi jn13v0)), some (.int (zi zq688)), some (.int (zi zq710)), some (.int (zi 3)), some (.int (zi zq1001))]) (S' := [.int (zi zq1), .int (zi zq688), .int (zi zq710), .ref pic]) rfl ?_
                                  have k1042 := sh1021.2.1
                                  have k1042b := sh1021.2.2.1
                                  have hl1043 : h1021.2.2.2.1 co = h.2.2.2.1 co := congrFun sh1021.2.2.2.2.1 co
                                  have hl1044 : h1021.2.2.2.1 dm = h.2.2.2.1 dm := congrFun sh1021.2.2.2.2.1 dm
                                  have hl1045 : h1021.2.2.2.1 co = h.2.2.2.1 co := congrFun sh1021.2.2.2.2.1 co
                                  have hl1046 : h1021.2.2.2.1 dm = h.2.2.2.1 dm := congrFun sh1021.2.2.2.2.1 dm
                                  refine gz_call rfl (by decide) rfl (by decide) (by decide) (gcal_of rfl rfl rfl (Nat.le_of_ble_eq_true rfl) (gJ.recv (G := gGG) sh1021.1 tpic rfl rfl)) (cl_Picture_begin _ sh1021.1 pic tpic zq710 (by omega) zq688 (by omega) zq1 (by omega) bn s1024 tbn b0 s1025 tb0 b1 s1026 tb1 b2 s1027 tb2 co s1028 tco dm s1029 tdm fq732_0 s1033 (by omega) fq732_1 s1034 (by omega) fq732_2 s1035 (by omega) fq865_0 s1036 (by omega) fq865_1 s1037 (by omega) fq865_2 s1038 (by omega) fq1001_0 s1039 (by omega) fq1001_1 s1040 (by omega) fq1001_2 s1041 (by omega) (by omega) (by omega) (by omega) (by omega) (by omega) uq) (fun q1047 _ wq1047 => ?_)
                                  obtain ⟨pq1047, oq1047, hq1047⟩ := q1047
                                  obtain ⟨tyq1047, xq1047, fq1047_0, xq1047_0, gq1047, efq1047_0, afq1047_0, bfq1047_0, axq1047_0, bxq1047_0, uq1047_0, uq1047_1, uq1047_2, uq1047_3, yq1047_0⟩ := wq1047
                                  refine ⟨_, gq1047, ?_⟩
                                  show gz gPP gGG gcn _ _ 231 [some (.ref x), some (.int (zi m)), some (.int (zi a)), some (.int (zi n)), some (.int (zi zq1)), some (.int (zi jn13v0)), some (.int (zi zq688)), some (.int (zi zq710)), some (.int (zi 3)), some (.int (zi zq1001))] [] hq1047 _
                                  have G1048 : gSg [112, 113] [] [54002, 54003, 54004, 54005, 54006, 54007, 54008, 54010, 54011, 54012, 54013, 82000, 82001, 82002, 82003, 82004, 82005, 82006, 82007, 82008, 83000, 83001, 83002, 83003, 83004, 83005, 83006, 83007, 83008, 84000, 84001, 84002, 84003, 84004, 84005, 84006, 84007, 84008, 112999, 113999] ty h tyq1047 hq1047 := gSg.tr (gSg.ss G0 sh1021 (by decide)) xq1047 (by decide) (by decide) (fun x hx => by cases hx)
                                  have t1049 : tyq1047 x = 65 := gSg.typ xq1047 sh1021.1 tx rfl
                                  have t1050 : tyq1047 src = 51 := gSg.typ xq1047 sh1021.1 tsrc rfl
                                  have t1051 : tyq1047 pic = 54 := gSg.typ xq1047 sh1021.1 tpic rfl
                                  have t1052 : tyq1047 bn = 57 := gSg.typ xq1047 sh1021.1 tbn rfl
                                  have t1053 : tyq1047 b0 = 82 := gSg.typ xq1047 sh1021.1 tb0 rfl
                                  have t1054 : tyq1047 b1 = 83 := gSg.typ xq1047 sh1021.1 tb1 rfl
                                  have t1055 : tyq1047 b2 = 84 := gSg.typ xq1047 sh1021.1 tb2 rfl
                                  have t1056 : tyq1047 co = 112 := gSg.typ xq1047 sh1021.1 tco rfl
                                  have hl1057 : hq1047.2.2.2.1 co = h1021.2.2.2.1 co := gSg.len xq1047 sh1021.1 tco rfl
                                  have t1058 : tyq1047 dm = 113 := gSg.typ xq1047 sh1021.1 tdm rfl
                                  have hl1059 : hq1047.2.2.2.1 dm = h1021.2.2.2.1 dm := gSg.len xq1047 sh1021.1 tdm rfl
                                  have s1060 := gSg.at xq1047 sh1021.1 tx rfl (by decide) s1022
                                  have s1061 := gSg.at xq1047 sh1021.1 tx rfl (by decide) s1023
                                  have s1062 := gSg.at xq1047 sh1021.1 tpic rfl (by decide) s1024
                                  have s1063 := gSg.at xq1047 sh1021.1 tbn rfl (by decide) s1025
                                  have s1064 := gSg.at xq1047 sh1021.1 tbn rfl (by decide) s1026
                                  have s1065 := gSg.at xq1047 sh1021.1 tbn rfl (by decide) s1027
                                  have s1066 := gSg.at xq1047 sh1021.1 tsrc rfl (by decide) s1030
                                  have s1067 := gSg.at xq1047 sh1021.1 tb0 rfl (by decide) s1033
                                  have s1068 := gSg.at xq1047 sh1021.1 tb0 rfl (by decide) s1034
                                  have s1069 := gSg.at xq1047 sh1021.1 tb0 rfl (by decide) s1035
                                  have s1070 := gSg.at xq1047 sh1021.1 tb1 rfl (by decide) s1036
                                  have s1071 := gSg.at xq1047 sh1021.1 tb1 rfl (by decide) s1037
                                  have s1072 := gSg.at xq1047 sh1021.1 tb1 rfl (by decide) s1038
                                  have s1073 := gSg.at xq1047 sh1021.1 tb2 rfl (by decide) s1039
                                  have s1074 := gSg.at xq1047 sh1021.1 tb2 rfl (by decide) s1040
                                  have s1075 := gSg.at xq1047 sh1021.1 tb2 rfl (by decide) s1041
                                  have s1076 := gSg.at xq1047 sh1021.1 tpic rfl (by decide) eh1021
                                  have uq1077 := gSg.uq xq1047 uq (by decide)
                                  have sS1078 : gSs rT 1027 tyq1047 [54002, 54003, 54004, 54005, 54006, 54007, 54008, 54010, 54011, 54012, 54013, 82000, 82001, 82002, 82003, 82004, 82005, 82006, 82007, 82008, 83000, 83001, 83002, 83003, 83004, 83005, 83006, 83007, 83008, 84000, 84001, 84002, 84003, 84004, 84005, 84006, 84007, 84008, 112999, 113999] hq1047 hq1047 := gSs.rf xq1047.1
                                  refine gz_s 1 (pc' := 232) (L' := [some (.ref x), some (.int (zi m)), some (.int (zi a)), some (.int (zi n)), some (.int (zi zq1)), some (.int (zi jn13v0)), some (.int (zi zq688)), some (.int (zi zq710)), some (.int (zi 3)), some (.int (zi zq1001))]) (S' := [.int (zi (-1))]) rfl ?_
                                  have G1079 : gSg [112, 113] [] [54002, 54003, 54004, 54005, 54006, 54007, 54008, 54010, 54011, 54012, 54013, 82000, 82001, 82002, 82003, 82004, 82005, 82006, 82007, 82008, 83000, 83001, 83002, 83003, 83004, 83005, 83006, 83007, 83008, 84000, 84001, 84002, 84003, 84004, 84005, 84006, 84007, 84008, 112999, 113999] ty h tyq1047 hq1047 := gSg.ss G1048 sS1078 (by decide)
                                  exact gz_end (I := .ireturn) (len := 1) rfl (Or.inl rfl) ⟨tyq1047, G1079, (-1), fq1047_0, xq1047_0, rfl, (by omega), (by omega), efq1047_0, (by omega), (by omega), (by omega), (by omega), (by omega), (by omega), (by omega), yq1047_0⟩
                                · refine gy_icF rfl (by decide) (by decide) (by omega) (by omega) hc1020 ?_
                                  refine gz_s 2 (pc' := 215) (L' := [some (.ref x), some (.int (zi m)), some (.int (zi a)), some (.int (zi n)), some (.int (zi zq1)), some (.int (zi jn13v0)), some (.int (zi zq688)), some (.int (zi zq710)), some (.int (zi 3)), some (.int (zi zq1001))]) (S' := [.int (zi 1), .ref pic]) rfl ?_
                                  refine gs_put rfl (by decide) rfl sq1001 tpic rfl rfl rfl rfl (Or.inl rfl) (by decide) (by omega) (by omega) (fun h1080 sh1080 eh1080 fh1080 => ?_)
                                  have s1081 := (fh1080 x 0 (fun q => absurd q.2 (by decide))).trans s1002
                                  have s1082 := (fh1080 x 1 (fun q => absurd q.2 (by decide))).trans s1003
                                  have s1083 := (fh1080 pic 0 (fun q => absurd q.2 (by decide))).trans s1004
                                  have s1084 := (fh1080 bn 0 (fun q => absurd (((tbn).symm.trans (congrArg ty q.1)).trans tpic) (by decide))).trans s1005
                                  have s1085 := (fh1080 bn 1 (fun q => absurd (((tbn).symm.trans (congrArg ty q.1)).trans tpic) (by decide))).trans s1006
                                  have s1086 := (fh1080 bn 2 (fun q => absurd (((tbn).symm.trans (congrArg ty q.1)).trans tpic) (by decide))).trans s1007
                                  have s1087 := (fh1080 pic 2 (fun q => absurd q.2 (by decide))).trans s1008
                                  have s1088 := (fh1080 pic 3 (fun q => absurd q.2 (by decide))).trans s1009
                                  have s1089 := (fh1080 src 1 (fun q => absurd q.2 (by decide))).trans s1010
                                  have s1090 := (fh1080 pic 7 (fun q => absurd q.2 (by decide))).trans s1011
                                  have s1091 := (fh1080 pic 8 (fun q => absurd q.2 (by decide))).trans s1012
                                  have s1092 := (fh1080 b0 1 (fun q => absurd q.2 (by decide))).trans s1013
                                  have s1093 := (fh1080 b0 2 (fun q => absurd q.2 (by decide))).trans s1014
                                  have s1094 := (fh1080 b0 3 (fun q => absurd q.2 (by decide))).trans s1015
                                  have s1095 := (fh1080 b1 1 (fun q => absurd q.2 (by decide))).trans s1016
                                  have s1096 := (fh1080 b1 2 (fun q => absurd q.2 (by decide))).trans s1017
                                  have s1097 := (fh1080 b1 3 (fun q => absurd q.2 (by decide))).trans s1018
                                  have s1098 := (fh1080 b2 1 (fun q => absurd q.2 (by decide))).trans efq1001_0
                                  have s1099 := (fh1080 b2 2 (fun q => absurd q.2 (by decide))).trans efq1001_1
                                  have s1100 := (fh1080 b2 3 (fun q => absurd q.2 (by decide))).trans efq1001_2
                                  refine gz_s 1 (pc' := 219) (L' := [some (.ref x), some (.int (zi m)), some (.int (zi a)), some (.int (zi n)), some (.int (zi zq1)), some (.int (zi jn13v0)), some (.int (zi zq688)), some (.int (zi zq710)), some (.int (zi 3)), some (.int (zi zq1001))]) (S' := [.ref x]) rfl ?_
                                  refine gs_gtk rfl (by decide) rfl sh1080.1 tx rfl rfl s1082 ?_
                                  refine gz_s 3 (pc' := 228) (L' := [some (.ref x), some (.int (zi m)), some (.int (zi a)), some (.int (zi n)), some (.int (zi zq1)), some (.int (zi jn13v0)), some (.int (zi zq688)), some (.int (zi zq710)), some (.int (zi 3)), some (.int (zi zq1001))]) (S' := [.int (zi zq1), .int (zi zq688), .int (zi zq710), .ref pic]) rfl ?_
                                  have k1101 := sh1080.2.1
                                  have k1101b := sh1080.2.2.1
                                  have hl1102 : h1080.2.2.2.1 co = h.2.2.2.1 co := congrFun sh1080.2.2.2.2.1 co
                                  have hl1103 : h1080.2.2.2.1 dm = h.2.2.2.1 dm := congrFun sh1080.2.2.2.2.1 dm
                                  have hl1104 : h1080.2.2.2.1 co = h.2.2.2.1 co := congrFun sh1080.2.2.2.2.1 co
                                  have hl1105 : h1080.2.2.2.1 dm = h.2.2.2.1 dm := congrFun sh1080.2.2.2.2.1 dm
                                  refine gz_call rfl (by decide) rfl (by decide) (by decide) (gcal_of rfl rfl rfl (Nat.le_of_ble_eq_true rfl) (gJ.recv (G := gGG) sh1080.1 tpic rfl rfl)) (cl_Picture_begin _ sh1080.1 pic tpic zq710 (by omega) zq688 (by omega) zq1 (by omega) bn s1083 tbn b0 s1084 tb0 b1 s1085 tb1 b2 s1086 tb2 co s1087 tco dm s1088 tdm fq732_0 s1092 (by omega) fq732_1 s1093 (by omega) fq732_2 s1094 (by omega) fq865_0 s1095 (by omega) fq865_1 s1096 (by omega) fq865_2 s1097 (by omega) fq1001_0 s1098 (by omega) fq1001_1 s1099 (by omega) fq1001_2 s1100 (by omega) (by omega) (by omega) (by omega) (by omega) (by omega) uq) (fun q1106 _ wq1106 => ?_)
                                  obtain ⟨pq1106, oq1106, hq1106⟩ := q1106
                                  obtain ⟨tyq1106, xq1106, fq1106_0, xq1106_0, gq1106, efq1106_0, afq1106_0, bfq1106_0, axq1106_0, bxq1106_0, uq1106_0, uq1106_1, uq1106_2, uq1106_3, yq1106_0⟩ := wq1106
                                  refine ⟨_, gq1106, ?_⟩
                                  show gz gPP gGG gcn _ _ 231 [some (.ref x), some (.int (zi m)), some (.int (zi a)), some (.int (zi n)), some (.int (zi zq1)), some (.int (zi jn13v0)), some (.int (zi zq688)), some (.int (zi zq710)), some (.int (zi 3)), some (.int (zi zq1001))] [] hq1106 _
                                  have G1107 : gSg [112, 113] [] [54002, 54003, 54004, 54005, 54006, 54007, 54008, 54010, 54011, 54012, 54013, 82000, 82001, 82002, 82003, 82004, 82005, 82006, 82007, 82008, 83000, 83001, 83002, 83003, 83004, 83005, 83006, 83007, 83008, 84000, 84001, 84002, 84003, 84004, 84005, 84006, 84007, 84008, 112999, 113999] ty h tyq1106 hq1106 := gSg.tr (gSg.ss G0 sh1080 (by decide)) xq1106 (by decide) (by decide) (fun x hx => by cases hx)
                                  have t1108 : tyq1106 x = 65 := gSg.typ xq1106 sh1080.1 tx rfl
                                  have t1109 : tyq1106 src = 51 := gSg.typ xq1106 sh1080.1 tsrc rfl
                                  have t1110 : tyq1106 pic = 54 := gSg.typ xq1106 sh1080.1 tpic rfl
                                  have t1111 : tyq1106 bn = 57 := gSg.typ xq1106 sh1080.1 tbn rfl
                                  have t1112 : tyq1106 b0 = 82 := gSg.typ xq1106 sh1080.1 tb0 rfl
                                  have t1113 : tyq1106 b1 = 83 := gSg.typ xq1106 sh1080.1 tb1 rfl
                                  have t1114 : tyq1106 b2 = 84 := gSg.typ xq1106 sh1080.1 tb2 rfl
                                  have t1115 : tyq1106 co = 112 := gSg.typ xq1106 sh1080.1 tco rfl
                                  have hl1116 : hq1106.2.2.2.1 co = h1080.2.2.2.1 co := gSg.len xq1106 sh1080.1 tco rfl
                                  have t1117 : tyq1106 dm = 113 := gSg.typ xq1106 sh1080.1 tdm rfl
                                  have hl1118 : hq1106.2.2.2.1 dm = h1080.2.2.2.1 dm := gSg.len xq1106 sh1080.1 tdm rfl
                                  have s1119 := gSg.at xq1106 sh1080.1 tx rfl (by decide) s1081
                                  have s1120 := gSg.at xq1106 sh1080.1 tx rfl (by decide) s1082
                                  have s1121 := gSg.at xq1106 sh1080.1 tpic rfl (by decide) s1083
                                  have s1122 := gSg.at xq1106 sh1080.1 tbn rfl (by decide) s1084
                                  have s1123 := gSg.at xq1106 sh1080.1 tbn rfl (by decide) s1085
                                  have s1124 := gSg.at xq1106 sh1080.1 tbn rfl (by decide) s1086
                                  have s1125 := gSg.at xq1106 sh1080.1 tsrc rfl (by decide) s1089
                                  have s1126 := gSg.at xq1106 sh1080.1 tb0 rfl (by decide) s1092
                                  have s1127 := gSg.at xq1106 sh1080.1 tb0 rfl (by decide) s1093
                                  have s1128 := gSg.at xq1106 sh1080.1 tb0 rfl (by decide) s1094
                                  have s1129 := gSg.at xq1106 sh1080.1 tb1 rfl (by decide) s1095
                                  have s1130 := gSg.at xq1106 sh1080.1 tb1 rfl (by decide) s1096
                                  have s1131 := gSg.at xq1106 sh1080.1 tb1 rfl (by decide) s1097
                                  have s1132 := gSg.at xq1106 sh1080.1 tb2 rfl (by decide) s1098
                                  have s1133 := gSg.at xq1106 sh1080.1 tb2 rfl (by decide) s1099
                                  have s1134 := gSg.at xq1106 sh1080.1 tb2 rfl (by decide) s1100
                                  have s1135 := gSg.at xq1106 sh1080.1 tpic rfl (by decide) eh1080
                                  have uq1136 := gSg.uq xq1106 uq (by decide)
                                  have sS1137 : gSs rT 1027 tyq1106 [54002, 54003, 54004, 54005, 54006, 54007, 54008, 54010, 54011, 54012, 54013, 82000, 82001, 82002, 82003, 82004, 82005, 82006, 82007, 82008, 83000, 83001, 83002, 83003, 83004, 83005, 83006, 83007, 83008, 84000, 84001, 84002, 84003, 84004, 84005, 84006, 84007, 84008, 112999, 113999] hq1106 hq1106 := gSs.rf xq1106.1
                                  refine gz_s 1 (pc' := 232) (L' := [some (.ref x), some (.int (zi m)), some (.int (zi a)), some (.int (zi n)), some (.int (zi zq1)), some (.int (zi jn13v0)), some (.int (zi zq688)), some (.int (zi zq710)), some (.int (zi 3)), some (.int (zi zq1001))]) (S' := [.int (zi (-1))]) rfl ?_
                                  have G1138 : gSg [112, 113] [] [54002, 54003, 54004, 54005, 54006, 54007, 54008, 54010, 54011, 54012, 54013, 82000, 82001, 82002, 82003, 82004, 82005, 82006, 82007, 82008, 83000, 83001, 83002, 83003, 83004, 83005, 83006, 83007, 83008, 84000, 84001, 84002, 84003, 84004, 84005, 84006, 84007, 84008, 112999, 113999] ty h tyq1106 hq1106 := gSg.ss G1107 sS1137 (by decide)
                                  exact gz_end (I := .ireturn) (len := 1) rfl (Or.inl rfl) ⟨tyq1106, G1138, (-1), fq1106_0, xq1106_0, rfl, (by omega), (by omega), efq1106_0, (by omega), (by omega), (by omega), (by omega), (by omega), (by omega), (by omega), yq1106_0⟩
                              · refine gy_icF rfl (by decide) (by decide) (by omega) (by omega) hc1019 ?_
                                refine gz_s 1 (pc' := 192) (L' := [some (.ref x), some (.int (zi m)), some (.int (zi a)), some (.int (zi n)), some (.int (zi zq1)), some (.int (zi jn13v0)), some (.int (zi zq688)), some (.int (zi zq710)), some (.int (zi 2)), some (.int (zi zq1001))]) (S' := [.int (zi zq1001)]) rfl ?_
                                have k1139 := sq1001.2.1
                                have k1139b := sq1001.2.2.1
                                have hl1140 : hq1001.2.2.2.1 co = h.2.2.2.1 co := congrFun sq1001.2.2.2.2.1 co
                                have hl1141 : hq1001.2.2.2.1 dm = h.2.2.2.1 dm := congrFun sq1001.2.2.2.2.1 dm
                                have k1142 := sq1001.2.1
                                have k1142b := sq1001.2.2.1
                                have hl1143 : hq1001.2.2.2.1 co = h.2.2.2.1 co := congrFun sq1001.2.2.2.2.1 co
                                have hl1144 : hq1001.2.2.2.1 dm = h.2.2.2.1 dm := congrFun sq1001.2.2.2.2.1 dm
                                have hpc1145 : gPC ty pic b0 b1 b2 (hq1001.2.2.2.1 dm : Int) hq1001 := gPC.zero sq1001.1 tpic s1004 tbn s1005 tb0 s1006 tb1 s1007 tb2 s1008 tco s1009 tdm (by rw [(by omega : (0 : Int) = cn)]; exact s1011) bl s1012 (by omega) (by omega) (by omega) (by omega) (by omega)
                                have G1146 : gSg [112, 113] [] [54002, 54003, 54004, 54005, 54006, 54007, 54008, 54010, 54011, 54012, 54013, 82000, 82001, 82002, 82003, 82004, 82005, 82006, 82007, 82008, 83000, 83001, 83002, 83003, 83004, 83005, 83006, 83007, 83008, 84000, 84001, 84002, 84003, 84004, 84005, 84006, 84007, 84008, 112999, 113999] ty h ty hq1001 := gSg.ss G0 sq1001 (by decide)
                                exact gz_end (I := .ireturn) (len := 1) rfl (Or.inl rfl) ⟨ty, G1146, zq1001, cn, (hq1001.2.2.2.1 dm : Int), rfl, (by omega), (by omega), s1011, (by omega), (by omega), (by omega), (by omega), (by omega), (by omega), (by omega), hpc1145⟩
                          · refine gy_icF rfl (by decide) (by decide) (by omega) (by omega) hc880 ?_
                            refine gz_s 1 (pc' := 192) (L' := [some (.ref x), some (.int (zi m)), some (.int (zi a)), some (.int (zi n)), some (.int (zi zq1)), some (.int (zi jn13v0)), some (.int (zi zq688)), some (.int (zi zq710)), some (.int (zi 1)), some (.int (zi zq865))]) (S' := [.int (zi zq865)]) rfl ?_
                            have k1147 := sq865.2.1
                            have k1147b := sq865.2.2.1
                            have hl1148 : hq865.2.2.2.1 co = h.2.2.2.1 co := congrFun sq865.2.2.2.2.1 co
                            have hl1149 : hq865.2.2.2.1 dm = h.2.2.2.1 dm := congrFun sq865.2.2.2.2.1 dm
                            have k1150 := sq865.2.1
                            have k1150b := sq865.2.2.1
                            have hl1151 : hq865.2.2.2.1 co = h.2.2.2.1 co := congrFun sq865.2.2.2.2.1 co
                            have hl1152 : hq865.2.2.2.1 dm = h.2.2.2.1 dm := congrFun sq865.2.2.2.2.1 dm
                            have hpc1153 : gPC ty pic b0 b1 b2 (hq865.2.2.2.1 dm : Int) hq865 := gPC.zero sq865.1 tpic s868 tbn s869 tb0 s870 tb1 s871 tb2 s872 tco s873 tdm (by rw [(by omega : (0 : Int) = cn)]; exact s875) bl s876 (by omega) (by omega) (by omega) (by omega) (by omega)
                            have G1154 : gSg [112, 113] [] [54002, 54003, 54004, 54005, 54006, 54007, 54008, 54010, 54011, 54012, 54013, 82000, 82001, 82002, 82003, 82004, 82005, 82006, 82007, 82008, 83000, 83001, 83002, 83003, 83004, 83005, 83006, 83007, 83008, 84000, 84001, 84002, 84003, 84004, 84005, 84006, 84007, 84008, 112999, 113999] ty h ty hq865 := gSg.ss G0 sq865 (by decide)
                            exact gz_end (I := .ireturn) (len := 1) rfl (Or.inl rfl) ⟨ty, G1154, zq865, cn, (hq865.2.2.2.1 dm : Int), rfl, (by omega), (by omega), s875, (by omega), (by omega), (by omega), (by omega), (by omega), (by omega), (by omega), hpc1153⟩
                      · refine gy_icF rfl (by decide) (by decide) (by omega) (by omega) hc744 ?_
                        refine gz_s 1 (pc' := 192) (L' := [some (.ref x), some (.int (zi m)), some (.int (zi a)), some (.int (zi n)), some (.int (zi zq1)), some (.int (zi jn13v0)), some (.int (zi zq688)), some (.int (zi zq710)), some (.int (zi 0)), some (.int (zi zq732))]) (S' := [.int (zi zq732)]) rfl ?_
                        have k1155 := sq732.2.1
                        have k1155b := sq732.2.2.1
                        have hl1156 : hq732.2.2.2.1 co = h.2.2.2.1 co := congrFun sq732.2.2.2.2.1 co
                        have hl1157 : hq732.2.2.2.1 dm = h.2.2.2.1 dm := congrFun sq732.2.2.2.2.1 dm
                        have k1158 := sq732.2.1
                        have k1158b := sq732.2.2.1
                        have hl1159 : hq732.2.2.2.1 co = h.2.2.2.1 co := congrFun sq732.2.2.2.2.1 co
                        have hl1160 : hq732.2.2.2.1 dm = h.2.2.2.1 dm := congrFun sq732.2.2.2.2.1 dm
                        have hpc1161 : gPC ty pic b0 b1 b2 (hq732.2.2.2.1 dm : Int) hq732 := gPC.zero sq732.1 tpic s735 tbn s736 tb0 s737 tb1 s738 tb2 s739 tco s740 tdm (by rw [(by omega : (0 : Int) = cn)]; exact s742) bl s743 (by omega) (by omega) (by omega) (by omega) (by omega)
                        have G1162 : gSg [112, 113] [] [54002, 54003, 54004, 54005, 54006, 54007, 54008, 54010, 54011, 54012, 54013, 82000, 82001, 82002, 82003, 82004, 82005, 82006, 82007, 82008, 83000, 83001, 83002, 83003, 83004, 83005, 83006, 83007, 83008, 84000, 84001, 84002, 84003, 84004, 84005, 84006, 84007, 84008, 112999, 113999] ty h ty hq732 := gSg.ss G0 sq732 (by decide)
                        exact gz_end (I := .ireturn) (len := 1) rfl (Or.inl rfl) ⟨ty, G1162, zq732, cn, (hq732.2.2.2.1 dm : Int), rfl, (by omega), (by omega), s742, (by omega), (by omega), (by omega), (by omega), (by omega), (by omega), (by omega), hpc1161⟩
                    · refine gy_icF rfl (by decide) (by decide) (by omega) (by omega) hc731 ?_
                      refine gy_s 3 (pc' := 146) (L' := [some (.ref x), some (.int (zi m)), some (.int (zi a)), some (.int (zi n)), some (.int (zi zq1)), some (.int (zi jn13v0)), some (.int (zi zq688)), some (.int (zi zq710)), none, none]) (S' := [.int ((zi a) + (zi 5))]) (L2 := [some (.ref x), some (.int (zi m)), some (.int (zi a)), some (.int (zi n)), some (.int (zi zq1)), some (.int (zi jn13v0)), some (.int (zi zq688)), some (.int (zi zq710)), none, none]) (S2 := [.int (zi (a + 5))]) rfl (by simp only [zi_add, zi_sub, zi_mul, zi_neg, zi_and1, zi_and7, zi_and15, zi_and31, zi_and255, Int.reduceAdd, Int.reduceMul, Int.reduceSub]) (by simp only [zi_add, zi_sub, zi_mul, zi_neg, zi_and1, zi_and7, zi_and15, zi_and31, zi_and255, Int.reduceAdd, Int.reduceMul, Int.reduceSub]) ?_
                      have k1163 := sq710.2.1
                      have k1163b := sq710.2.2.1
                      have hl1164 : hq710.2.2.2.1 co = h.2.2.2.1 co := congrFun sq710.2.2.2.2.1 co
                      have hl1165 : hq710.2.2.2.1 dm = h.2.2.2.1 dm := congrFun sq710.2.2.2.2.1 dm
                      have k1166 := sq710.2.1
                      have k1166b := sq710.2.2.1
                      have hl1167 : hq710.2.2.2.1 co = h.2.2.2.1 co := congrFun sq710.2.2.2.2.1 co
                      have hl1168 : hq710.2.2.2.1 dm = h.2.2.2.1 dm := congrFun sq710.2.2.2.2.1 dm
                      have hpc1169 : gPC ty pic b0 b1 b2 (hq710.2.2.2.1 dm : Int) hq710 := gPC.zero sq710.1 tpic s713 tbn s714 tb0 s715 tb1 s716 tb2 s717 tco s718 tdm (by rw [(by omega : (0 : Int) = cn)]; exact s720) bl s721 (by omega) (by omega) (by omega) (by omega) (by omega)
                      have G1170 : gSg [112, 113] [] [54002, 54003, 54004, 54005, 54006, 54007, 54008, 54010, 54011, 54012, 54013, 82000, 82001, 82002, 82003, 82004, 82005, 82006, 82007, 82008, 83000, 83001, 83002, 83003, 83004, 83005, 83006, 83007, 83008, 84000, 84001, 84002, 84003, 84004, 84005, 84006, 84007, 84008, 112999, 113999] ty h ty hq710 := gSg.ss G0 sq710 (by decide)
                      exact gz_end (I := .ireturn) (len := 1) rfl (Or.inl rfl) ⟨ty, G1170, a + 5, cn, (hq710.2.2.2.1 dm : Int), rfl, (by omega), (by omega), s720, (by omega), (by omega), (by omega), (by omega), (by omega), (by omega), (by omega), hpc1169⟩
                · refine gy_icF rfl (by decide) (by decide) (by omega) (by omega) hc709 ?_
                  refine gy_s 3 (pc' := 117) (L' := [some (.ref x), some (.int (zi m)), some (.int (zi a)), some (.int (zi n)), some (.int (zi zq1)), some (.int (zi jn13v0)), some (.int (zi zq688)), none, none, none]) (S' := [.int ((zi a) + (zi 3))]) (L2 := [some (.ref x), some (.int (zi m)), some (.int (zi a)), some (.int (zi n)), some (.int (zi zq1)), some (.int (zi jn13v0)), some (.int (zi zq688)), none, none, none]) (S2 := [.int (zi (a + 3))]) rfl (by simp only [zi_add, zi_sub, zi_mul, zi_neg, zi_and1, zi_and7, zi_and15, zi_and31, zi_and255, Int.reduceAdd, Int.reduceMul, Int.reduceSub]) (by simp only [zi_add, zi_sub, zi_mul, zi_neg, zi_and1, zi_and7, zi_and15, zi_and31, zi_and255, Int.reduceAdd, Int.reduceMul, Int.reduceSub]) ?_
                  have k1171 := sq688.2.1
                  have k1171b := sq688.2.2.1
                  have hl1172 : hq688.2.2.2.1 co = h.2.2.2.1 co := congrFun sq688.2.2.2.2.1 co
                  have hl1173 : hq688.2.2.2.1 dm = h.2.2.2.1 dm := congrFun sq688.2.2.2.2.1 dm
                  have k1174 := sq688.2.1
                  have k1174b := sq688.2.2.1
                  have hl1175 : hq688.2.2.2.1 co = h.2.2.2.1 co := congrFun sq688.2.2.2.2.1 co
                  have hl1176 : hq688.2.2.2.1 dm = h.2.2.2.1 dm := congrFun sq688.2.2.2.2.1 dm
                  have hpc1177 : gPC ty pic b0 b1 b2 (hq688.2.2.2.1 dm : Int) hq688 := gPC.zero sq688.1 tpic s691 tbn s692 tb0 s693 tb1 s694 tb2 s695 tco s696 tdm (by rw [(by omega : (0 : Int) = cn)]; exact s698) bl s699 (by omega) (by omega) (by omega) (by omega) (by omega)
                  have G1178 : gSg [112, 113] [] [54002, 54003, 54004, 54005, 54006, 54007, 54008, 54010, 54011, 54012, 54013, 82000, 82001, 82002, 82003, 82004, 82005, 82006, 82007, 82008, 83000, 83001, 83002, 83003, 83004, 83005, 83006, 83007, 83008, 84000, 84001, 84002, 84003, 84004, 84005, 84006, 84007, 84008, 112999, 113999] ty h ty hq688 := gSg.ss G0 sq688 (by decide)
                  exact gz_end (I := .ireturn) (len := 1) rfl (Or.inl rfl) ⟨ty, G1178, a + 3, cn, (hq688.2.2.2.1 dm : Int), rfl, (by omega), (by omega), s698, (by omega), (by omega), (by omega), (by omega), (by omega), (by omega), (by omega), hpc1177⟩
          · refine gy_icF rfl (by decide) (by decide) (by omega) (by omega) hc195 ?_
            refine gy_s 3 (pc' := 74) (L' := [some (.ref x), some (.int (zi m)), some (.int (zi a)), some (.int (zi n)), some (.int (zi zq1)), some (.int (zi jn13v0)), none, none, none, none]) (S' := [.int ((zi a) + (zi 2))]) (L2 := [some (.ref x), some (.int (zi m)), some (.int (zi a)), some (.int (zi n)), some (.int (zi zq1)), some (.int (zi jn13v0)), none, none, none, none]) (S2 := [.int (zi (a + 2))]) rfl (by simp only [zi_add, zi_sub, zi_mul, zi_neg, zi_and1, zi_and7, zi_and15, zi_and31, zi_and255, Int.reduceAdd, Int.reduceMul, Int.reduceSub]) (by simp only [zi_add, zi_sub, zi_mul, zi_neg, zi_and1, zi_and7, zi_and15, zi_and31, zi_and255, Int.reduceAdd, Int.reduceMul, Int.reduceSub]) ?_
            have k1179 := sq183.2.1
            have k1179b := sq183.2.2.1
            have hl1180 : hq183.2.2.2.1 co = h.2.2.2.1 co := congrFun sq183.2.2.2.2.1 co
            have hl1181 : hq183.2.2.2.1 dm = h.2.2.2.1 dm := congrFun sq183.2.2.2.2.1 dm
            have k1182 := sq183.2.1
            have k1182b := sq183.2.2.1
            have hl1183 : hq183.2.2.2.1 co = h.2.2.2.1 co := congrFun sq183.2.2.2.2.1 co
            have hl1184 : hq183.2.2.2.1 dm = h.2.2.2.1 dm := congrFun sq183.2.2.2.2.1 dm
            have hpc1185 : gPC ty pic b0 b1 b2 (hq183.2.2.2.1 dm : Int) hq183 := gPC.zero sq183.1 tpic s186 tbn s187 tb0 s188 tb1 s189 tb2 s190 tco s191 tdm (by rw [(by omega : (0 : Int) = cn)]; exact s193) bl s194 (by omega) (by omega) (by omega) (by omega) (by omega)
            have G1186 : gSg [112, 113] [] [54002, 54003, 54004, 54005, 54006, 54007, 54008, 54010, 54011, 54012, 54013, 82000, 82001, 82002, 82003, 82004, 82005, 82006, 82007, 82008, 83000, 83001, 83002, 83003, 83004, 83005, 83006, 83007, 83008, 84000, 84001, 84002, 84003, 84004, 84005, 84006, 84007, 84008, 112999, 113999] ty h ty hq183 := gSg.ss G0 sq183 (by decide)
            exact gz_end (I := .ireturn) (len := 1) rfl (Or.inl rfl) ⟨ty, G1186, a + 2, cn, (hq183.2.2.2.1 dm : Int), rfl, (by omega), (by omega), s193, (by omega), (by omega), (by omega), (by omega), (by omega), (by omega), (by omega), hpc1185⟩
        · refine gy_icF rfl (by decide) (by decide) (by omega) (by omega) hc182 ?_
          refine gz_s 1 (pc' := 55) (L' := [some (.ref x), some (.int (zi m)), some (.int (zi a)), some (.int (zi n)), some (.int (zi zq1)), some (.int (zi jn13v0)), none, none, none, none]) (S' := [.int (zi a)]) rfl ?_
          have k1187 := sq1.2.1
          have k1187b := sq1.2.2.1
          have hl1188 : hq1.2.2.2.1 co = h.2.2.2.1 co := congrFun sq1.2.2.2.2.1 co
          have hl1189 : hq1.2.2.2.1 dm = h.2.2.2.1 dm := congrFun sq1.2.2.2.2.1 dm
          have k1190 := sq1.2.1
          have k1190b := sq1.2.2.1
          have hl1191 : hq1.2.2.2.1 co = h.2.2.2.1 co := congrFun sq1.2.2.2.2.1 co
          have hl1192 : hq1.2.2.2.1 dm = h.2.2.2.1 dm := congrFun sq1.2.2.2.2.1 dm
          have hpc1193 : gPC ty pic b0 b1 b2 (hq1.2.2.2.1 dm : Int) hq1 := gPC.zero sq1.1 tpic s4 tbn s5 tb0 s6 tb1 s7 tb2 s8 tco s9 tdm (by rw [(by omega : (0 : Int) = cn)]; exact s11) bl s12 (by omega) (by omega) (by omega) (by omega) (by omega)
          have G1194 : gSg [112, 113] [] [54002, 54003, 54004, 54005, 54006, 54007, 54008, 54010, 54011, 54012, 54013, 82000, 82001, 82002, 82003, 82004, 82005, 82006, 82007, 82008, 83000, 83001, 83002, 83003, 83004, 83005, 83006, 83007, 83008, 84000, 84001, 84002, 84003, 84004, 84005, 84006, 84007, 84008, 112999, 113999] ty h ty hq1 := gSg.ss G0 sq1 (by decide)
          exact gz_end (I := .ireturn) (len := 1) rfl (Or.inl rfl) ⟨ty, G1194, a, cn, (hq1.2.2.2.1 dm : Int), rfl, (by omega), (by omega), s11, (by omega), (by omega), (by omega), (by omega), (by omega), (by omega), (by omega), hpc1193⟩
  by_cases hc1195 : (zq1 : Int) = 1
  · refine gy_icT (pc' := 25) rfl (by decide) (by decide) (by omega) (by omega) hc1195 ?_
    refine gz_s 2 (pc' := 30) (L' := [some (.ref x), some (.int (zi m)), some (.int (zi a)), some (.int (zi n)), some (.int (zi zq1)), none, none, none, none, none]) (S' := [.int (zi 1)]) rfl ?_
    exact jn13 1 (by omega)
  · refine gy_icF rfl (by decide) (by decide) (by omega) (by omega) hc1195 ?_
    refine gz_s 2 (pc' := 22) (L' := [some (.ref x), some (.int (zi m)), some (.int (zi a)), some (.int (zi n)), some (.int (zi zq1)), none, none, none, none, none]) (S' := [.int (zi 3), .int (zi zq1)]) rfl ?_
    by_cases hc1196 : ¬ (zq1 : Int) = 3
    · refine gy_icT (pc' := 29) rfl (by decide) (by decide) (by omega) (by omega) hc1196 ?_
      refine gz_s 1 (pc' := 30) (L' := [some (.ref x), some (.int (zi m)), some (.int (zi a)), some (.int (zi n)), some (.int (zi zq1)), none, none, none, none, none]) (S' := [.int (zi 0)]) rfl ?_
      exact jn13 0 (by omega)
    · refine gy_icF rfl (by decide) (by decide) (by omega) (by omega) hc1196 ?_
      refine gz_s 2 (pc' := 30) (L' := [some (.ref x), some (.int (zi m)), some (.int (zi a)), some (.int (zi n)), some (.int (zi zq1)), none, none, none, none, none]) (S' := [.int (zi 1)]) rfl ?_
      exact jn13 1 (by omega)
