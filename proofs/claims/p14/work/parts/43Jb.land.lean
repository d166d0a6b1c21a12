/-! ===== methods of the landed text (by program) ===== -/
set_option maxRecDepth 20000 in
set_option maxHeartbeats 4000000 in
theorem cl_Reader_readFrame (d : Nat) {ty : Nat → Nat} {h : gH} (hJ : gJ rT 1027 ty h) (x : Nat) (tx : ty x = 65) (m : Int) (rm : 0 ≤ m ∧ m ≤ 255) (a : Int) (ra : 0 ≤ a ∧ a ≤ 4100) (n : Int) (rn : 0 ≤ n ∧ n ≤ 65535) (src : Nat) (esrc : h.2.2.2.2 x 0 = .ref src) (tsrc : ty src = 51) (pic : Nat) (epic : h.2.2.2.2 x 1 = .ref pic) (tpic : ty pic = 54) (bn : Nat) (ebn : h.2.2.2.2 pic 0 = .ref bn) (tbn : ty bn = 57) (b0 : Nat) (eb0 : h.2.2.2.2 bn 0 = .ref b0) (tb0 : ty b0 = 82) (b1 : Nat) (eb1 : h.2.2.2.2 bn 1 = .ref b1) (tb1 : ty b1 = 83) (b2 : Nat) (eb2 : h.2.2.2.2 bn 2 = .ref b2) (tb2 : ty b2 = 84) (co : Nat) (eco : h.2.2.2.2 pic 2 = .ref co) (tco : ty co = 112) (dm : Nat) (edm : h.2.2.2.2 pic 3 = .ref dm) (tdm : ty dm = 113) (sz : Int) (esz : h.2.2.2.2 src 1 = .int (zi sz)) (rsz : 0 ≤ sz ∧ sz ≤ 2000) (cn : Int) (ecn : h.2.2.2.2 pic 7 = .int (zi cn)) (rcn : 0 ≤ cn ∧ cn ≤ 0) (bl : Int) (ebl : h.2.2.2.2 pic 8 = .int (zi bl)) (rbl : 0 ≤ bl ∧ bl ≤ 0) (w : Int) (ew : h.2.2.2.2 pic 5 = .int (zi w)) (rw : 0 ≤ w ∧ w ≤ 0) (pp0 : (h.2.2.2.1 co : Int) = 64 * (h.2.2.2.1 dm : Int)) (uq : gUq ty) : gz gPP gGG gcn (d + 3) gt28 0 (gent [.ref x, .int (zi m), .int (zi a), .int (zi n)] 10) [] h (fun q _ => ∃ ty9 : Nat → Nat, gSg [112, 113] [] [54002, 54003, 54004, 54005, 54006, 54007, 54008, 54010, 54011, 54012, 54013, 82000, 82001, 82002, 82003, 82004, 82005, 82006, 82007, 82008, 83000, 83001, 83002, 83003, 83004, 83005, 83006, 83007, 83008, 84000, 84001, 84002, 84003, 84004, 84005, 84006, 84007, 84008, 112999, 113999] ty h ty9 q.2.2 ∧ ∃ z cn1 ld1 : Int, gfin gt28 q.1 q.2.1 = some (some (.int (zi z))) ∧ (-1) ≤ z ∧ z ≤ 4400 ∧ q.2.2.2.2.2.2 pic 7 = .int (zi cn1) ∧ 0 ≤ cn1 ∧ cn1 ≤ 3 ∧ 0 ≤ ld1 ∧ ld1 ≤ 192 ∧ (((q.2.2.1 : Int) - h.1) ≤ 2 * (ld1 - h.2.2.2.1 dm)) ∧ (((q.2.2.2.1 : Int) - h.2.1) ≤ 12480 * (ld1 - h.2.2.2.1 dm)) ∧ ((h.2.2.2.1 dm : Int) ≤ ld1) ∧ (gPC ty9 pic b0 b1 b2 ld1 q.2.2)) := by
  have hS : gSs rT 1027 ty [54002, 54003, 54004, 54005, 54006, 54007, 54008, 54010, 54011, 54012, 54013, 82000, 82001, 82002, 82003, 82004, 82005, 82006, 82007, 82008, 83000, 83001, 83002, 83003, 83004, 83005, 83006, 83007, 83008, 84000, 84001, 84002, 84003, 84004, 84005, 84006, 84007, 84008, 112999, 113999] h h := gSs.rf hJ
  have G0 : gSg [112, 113] [] [54002, 54003, 54004, 54005, 54006, 54007, 54008, 54010, 54011, 54012, 54013, 82000, 82001, 82002, 82003, 82004, 82005, 82006, 82007, 82008, 83000, 83001, 83002, 83003, 83004, 83005, 83006, 83007, 83008, 84000, 84001, 84002, 84003, 84004, 84005, 84006, 84007, 84008, 112999, 113999] ty h ty h := gSg.rf hJ (fun x hx => by cases hx)
  refine gz_s 1 (pc' := 1) (L' := [some (.ref x), some (.int (zi m)), some (.int (zi a)), some (.int (zi n)), none, none, none, none, none, none]) (S' := [.ref x]) rfl ?_
  refine gs_gtk rfl (by decide) rfl hS.1 tx rfl rfl esrc ?_
  refine gy_s 3 (pc' := 8) (L' := [some (.ref x), some (.int (zi m)), some (.int (zi a)), some (.int (zi n)), none, none, none, none, none, none]) (S' := [.int ((zi a) + (zi 7)), .ref src]) (L2 := [some (.ref x), some (.int (zi m)), some (.int (zi a)), some (.int (zi n)), none, none, none, none, none, none]) (S2 := [.int (zi (a + 7)), .ref src]) rfl (by simp only [zi_add, zi_sub, zi_mul, zi_neg, zi_and1, zi_and7, zi_and15, zi_and31, zi_and255, Int.reduceAdd, Int.reduceMul, Int.reduceSub]) (by simp only [zi_add, zi_sub, zi_mul, zi_neg, zi_and1, zi_and7, zi_and15, zi_and31, zi_and255, Int.reduceAdd, Int.reduceMul, Int.reduceSub]) ?_
  refine gz_call rfl (by decide) rfl (by decide) (by decide) (gcal_of rfl rfl rfl (Nat.le_of_ble_eq_true rfl) (gJ.recv (G := gGG) hS.1 tsrc rfl rfl)) (cl_Collected_byteAt _ hS.1 src tsrc (a + 7) (by omega) sz esz (by omega) uq) (fun q1 _ wq1 => ?_)
  obtain ⟨pq1, oq1, hq1⟩ := q1
  obtain ⟨xq1, zq1, gq1, aq1, bq1, uq1_0⟩ := wq1
  refine ⟨_, gq1, ?_⟩
  show gz gPP gGG gcn _ _ 11 [some (.ref x), some (.int (zi m)), some (.int (zi a)), some (.int (zi n)), none, none, none, none, none, none] [.int (zi zq1)] hq1 _
  have sq1 : gSs rT 1027 ty [54002, 54003, 54004, 54005, 54006, 54007, 54008, 54010, 54011, 54012, 54013, 82000, 82001, 82002, 82003, 82004, 82005, 82006, 82007, 82008, 83000, 83001, 83002, 83003, 83004, 83005, 83006, 83007, 83008, 84000, 84001, 84002, 84003, 84004, 84005, 84006, 84007, 84008, 112999, 113999] h hq1 := gSs.tr hS xq1 (by decide)
  have s2 := (xq1.2.2.2.2.2 x 0 (by rw [tx]; decide)).trans esrc
  have s3 := (xq1.2.2.2.2.2 x 1 (by rw [tx]; decide)).trans epic
  have s4 := (xq1.2.2.2.2.2 pic 0 (by rw [tpic]; decide)).trans ebn
  have s5 := (xq1.2.2.2.2.2 bn 0 (by rw [tbn]; decide)).trans eb0
  have s6 := (xq1.2.2.2.2.2 bn 1 (by rw [tbn]; decide)).trans eb1
  have s7 := (xq1.2.2.2.2.2 bn 2 (by rw [tbn]; decide)).trans eb2
  have s8 := (xq1.2.2.2.2.2 pic 2 (by rw [tpic]; decide)).trans eco
  have s9 := (xq1.2.2.2.2.2 pic 3 (by rw [tpic]; decide)).trans edm
  have s10 := (xq1.2.2.2.2.2 src 1 (by rw [tsrc]; decide)).trans esz
  have s11 := (xq1.2.2.2.2.2 pic 7 (by rw [tpic]; decide)).trans ecn
  have s12 := (xq1.2.2.2.2.2 pic 8 (by rw [tpic]; decide)).trans ebl
  have s13 := (xq1.2.2.2.2.2 pic 5 (by rw [tpic]; decide)).trans ew
  refine gz_s 3 (pc' := 16) (L' := [some (.ref x), some (.int (zi m)), some (.int (zi a)), some (.int (zi n)), some (.int (zi zq1)), none, none, none, none, none]) (S' := [.int (zi 1), .int (zi zq1)]) rfl ?_
  have jn14 : ∀ (jn14v0 : Int), ((0 ≤ jn14v0) ∧ (jn14v0 ≤ 1) ∧ (jn14v0 = 1 → (zq1 = 1 ∨ zq1 = 3))) → gz gPP gGG gcn (d + 3) gt28 30 [some (.ref x), some (.int (zi m)), some (.int (zi a)), some (.int (zi n)), some (.int (zi zq1)), none, none, none, none, none] [.int (zi jn14v0)] hq1 (fun q _ => ∃ ty9 : Nat → Nat, gSg [112, 113] [] [54002, 54003, 54004, 54005, 54006, 54007, 54008, 54010, 54011, 54012, 54013, 82000, 82001, 82002, 82003, 82004, 82005, 82006, 82007, 82008, 83000, 83001, 83002, 83003, 83004, 83005, 83006, 83007, 83008, 84000, 84001, 84002, 84003, 84004, 84005, 84006, 84007, 84008, 112999, 113999] ty h ty9 q.2.2 ∧ ∃ z cn1 ld1 : Int, gfin gt28 q.1 q.2.1 = some (some (.int (zi z))) ∧ (-1) ≤ z ∧ z ≤ 4400 ∧ q.2.2.2.2.2.2 pic 7 = .int (zi cn1) ∧ 0 ≤ cn1 ∧ cn1 ≤ 3 ∧ 0 ≤ ld1 ∧ ld1 ≤ 192 ∧ (((q.2.2.1 : Int) - h.1) ≤ 2 * (ld1 - h.2.2.2.1 dm)) ∧ (((q.2.2.2.1 : Int) - h.2.1) ≤ 12480 * (ld1 - h.2.2.2.1 dm)) ∧ ((h.2.2.2.1 dm : Int) ≤ ld1) ∧ (gPC ty9 pic b0 b1 b2 ld1 q.2.2)) := by
    intro jn14v0 jn14d
    refine gz_s 3 (pc' := 35) (L' := [some (.ref x), some (.int (zi m)), some (.int (zi a)), some (.int (zi n)), some (.int (zi zq1)), some (.int (zi jn14v0)), none, none, none, none]) (S' := [.int (zi 8), .int (zi n)]) rfl ?_
    by_cases hc15 : (n : Int) < 8
    · refine gy_icT (pc' := 54) rfl (by decide) (by decide) (by omega) (by omega) hc15 ?_
      refine gz_s 1 (pc' := 55) (L' := [some (.ref x), some (.int (zi m)), some (.int (zi a)), some (.int (zi n)), some (.int (zi zq1)), some (.int (zi jn14v0)), none, none, none, none]) (S' := [.int (zi a)]) rfl ?_
      have k16 := sq1.2.1
      have k16b := sq1.2.2.1
      have hl17 : hq1.2.2.2.1 co = h.2.2.2.1 co := congrFun sq1.2.2.2.2.1 co
      have hl18 : hq1.2.2.2.1 dm = h.2.2.2.1 dm := congrFun sq1.2.2.2.2.1 dm
      have hl19 : 0 ≤ hq1.2.2.2.1 co ∧ hq1.2.2.2.1 co ≤ 12288 := gJ.rowl (G := gGG) sq1.1 tco rfl
      have hl20 : 0 ≤ hq1.2.2.2.1 dm ∧ hq1.2.2.2.1 dm ≤ 192 := gJ.rowl (G := gGG) sq1.1 tdm rfl
      have k21 := sq1.2.1
      have k21b := sq1.2.2.1
      have hl22 : hq1.2.2.2.1 co = h.2.2.2.1 co := congrFun sq1.2.2.2.2.1 co
      have hl23 : hq1.2.2.2.1 dm = h.2.2.2.1 dm := congrFun sq1.2.2.2.2.1 dm
      have hpc24 : gPC ty pic b0 b1 b2 (hq1.2.2.2.1 dm : Int) hq1 := gPC.zero sq1.1 tpic s4 tbn s5 tb0 s6 tb1 s7 tb2 s8 tco s9 tdm (by rw [(by omega : (0 : Int) = cn)]; exact s11) bl s12 (by omega) w s13 (by omega) (by omega) (by omega) (by omega) (by omega)
      have G25 : gSg [112, 113] [] [54002, 54003, 54004, 54005, 54006, 54007, 54008, 54010, 54011, 54012, 54013, 82000, 82001, 82002, 82003, 82004, 82005, 82006, 82007, 82008, 83000, 83001, 83002, 83003, 83004, 83005, 83006, 83007, 83008, 84000, 84001, 84002, 84003, 84004, 84005, 84006, 84007, 84008, 112999, 113999] ty h ty hq1 := gSg.ss G0 sq1 (by decide)
      exact gz_end (I := .ireturn) (len := 1) rfl (Or.inl rfl) ⟨ty, G25, a, cn, (hq1.2.2.2.1 dm : Int), rfl, (by omega), (by omega), s11, (by omega), (by omega), (by omega), (by omega), (by dsimp only; omega), (by dsimp only; omega), (by omega), hpc24⟩
    · refine gy_icF rfl (by decide) (by decide) (by omega) (by omega) hc15 ?_
      refine gz_s 1 (pc' := 40) (L' := [some (.ref x), some (.int (zi m)), some (.int (zi a)), some (.int (zi n)), some (.int (zi zq1)), some (.int (zi jn14v0)), none, none, none, none]) (S' := [.int (zi jn14v0)]) rfl ?_
      by_cases hc26 : (jn14v0 : Int) = 0
      · refine gy_ifT (pc' := 56) rfl (by decide) (by decide) (by omega) hc26 ?_
        refine gz_s 1 (pc' := 57) (L' := [some (.ref x), some (.int (zi m)), some (.int (zi a)), some (.int (zi n)), some (.int (zi zq1)), some (.int (zi jn14v0)), none, none, none, none]) (S' := [.ref x]) rfl ?_
        refine gs_gtk rfl (by decide) rfl sq1.1 tx rfl rfl s2 ?_
        refine gy_s 3 (pc' := 63) (L' := [some (.ref x), some (.int (zi m)), some (.int (zi a)), some (.int (zi n)), some (.int (zi zq1)), some (.int (zi jn14v0)), none, none, none, none]) (S' := [.int ((zi a) + (zi 2)), .ref src]) (L2 := [some (.ref x), some (.int (zi m)), some (.int (zi a)), some (.int (zi n)), some (.int (zi zq1)), some (.int (zi jn14v0)), none, none, none, none]) (S2 := [.int (zi (a + 2)), .ref src]) rfl (by simp only [zi_add, zi_sub, zi_mul, zi_neg, zi_and1, zi_and7, zi_and15, zi_and31, zi_and255, Int.reduceAdd, Int.reduceMul, Int.reduceSub]) (by simp only [zi_add, zi_sub, zi_mul, zi_neg, zi_and1, zi_and7, zi_and15, zi_and31, zi_and255, Int.reduceAdd, Int.reduceMul, Int.reduceSub]) ?_
        refine gz_call rfl (by decide) rfl (by decide) (by decide) (gcal_of rfl rfl rfl (Nat.le_of_ble_eq_true rfl) (gJ.recv (G := gGG) sq1.1 tsrc rfl rfl)) (cl_Collected_byteAt _ sq1.1 src tsrc (a + 2) (by omega) sz s10 (by omega) uq) (fun q27 _ wq27 => ?_)
        obtain ⟨pq27, oq27, hq27⟩ := q27
        obtain ⟨xq27, zq27, gq27, aq27, bq27, uq27_0⟩ := wq27
        refine ⟨_, gq27, ?_⟩
        show gz gPP gGG gcn _ _ 66 [some (.ref x), some (.int (zi m)), some (.int (zi a)), some (.int (zi n)), some (.int (zi zq1)), some (.int (zi jn14v0)), none, none, none, none] [.int (zi zq27)] hq27 _
        have sq27 : gSs rT 1027 ty [54002, 54003, 54004, 54005, 54006, 54007, 54008, 54010, 54011, 54012, 54013, 82000, 82001, 82002, 82003, 82004, 82005, 82006, 82007, 82008, 83000, 83001, 83002, 83003, 83004, 83005, 83006, 83007, 83008, 84000, 84001, 84002, 84003, 84004, 84005, 84006, 84007, 84008, 112999, 113999] h hq27 := gSs.tr sq1 xq27 (by decide)
        have s28 := (xq27.2.2.2.2.2 x 0 (by rw [tx]; decide)).trans s2
        have s29 := (xq27.2.2.2.2.2 x 1 (by rw [tx]; decide)).trans s3
        have s30 := (xq27.2.2.2.2.2 pic 0 (by rw [tpic]; decide)).trans s4
        have s31 := (xq27.2.2.2.2.2 bn 0 (by rw [tbn]; decide)).trans s5
        have s32 := (xq27.2.2.2.2.2 bn 1 (by rw [tbn]; decide)).trans s6
        have s33 := (xq27.2.2.2.2.2 bn 2 (by rw [tbn]; decide)).trans s7
        have s34 := (xq27.2.2.2.2.2 pic 2 (by rw [tpic]; decide)).trans s8
        have s35 := (xq27.2.2.2.2.2 pic 3 (by rw [tpic]; decide)).trans s9
        have s36 := (xq27.2.2.2.2.2 src 1 (by rw [tsrc]; decide)).trans s10
        have s37 := (xq27.2.2.2.2.2 pic 7 (by rw [tpic]; decide)).trans s11
        have s38 := (xq27.2.2.2.2.2 pic 8 (by rw [tpic]; decide)).trans s12
        have s39 := (xq27.2.2.2.2.2 pic 5 (by rw [tpic]; decide)).trans s13
        refine gz_s 1 (pc' := 68) (L' := [some (.ref x), some (.int (zi m)), some (.int (zi a)), some (.int (zi n)), some (.int (zi zq1)), some (.int (zi jn14v0)), none, none, none, none]) (S' := [.int (zi 8), .int (zi zq27)]) rfl ?_
        by_cases hc40 : (zq27 : Int) = 8
        · refine gy_icT (pc' := 75) rfl (by decide) (by decide) (by omega) (by omega) hc40 ?_
          refine gz_s 1 (pc' := 76) (L' := [some (.ref x), some (.int (zi m)), some (.int (zi a)), some (.int (zi n)), some (.int (zi zq1)), some (.int (zi jn14v0)), none, none, none, none]) (S' := [.ref x]) rfl ?_
          refine gs_gtk rfl (by decide) rfl sq27.1 tx rfl rfl s28 ?_
          refine gy_s 3 (pc' := 82) (L' := [some (.ref x), some (.int (zi m)), some (.int (zi a)), some (.int (zi n)), some (.int (zi zq1)), some (.int (zi jn14v0)), none, none, none, none]) (S' := [.int ((zi a) + (zi 3)), .ref src]) (L2 := [some (.ref x), some (.int (zi m)), some (.int (zi a)), some (.int (zi n)), some (.int (zi zq1)), some (.int (zi jn14v0)), none, none, none, none]) (S2 := [.int (zi (a + 3)), .ref src]) rfl (by simp only [zi_add, zi_sub, zi_mul, zi_neg, zi_and1, zi_and7, zi_and15, zi_and31, zi_and255, Int.reduceAdd, Int.reduceMul, Int.reduceSub]) (by simp only [zi_add, zi_sub, zi_mul, zi_neg, zi_and1, zi_and7, zi_and15, zi_and31, zi_and255, Int.reduceAdd, Int.reduceMul, Int.reduceSub]) ?_
          refine gz_call rfl (by decide) rfl (by decide) (by decide) (gcal_of rfl rfl rfl (Nat.le_of_ble_eq_true rfl) (gJ.recv (G := gGG) sq27.1 tsrc rfl rfl)) (cl_Collected_twoAt _ sq27.1 src tsrc (a + 3) (by omega) sz s36 (by omega) uq) (fun q41 _ wq41 => ?_)
          obtain ⟨pq41, oq41, hq41⟩ := q41
          obtain ⟨xq41, zq41, gq41, aq41, bq41, uq41_0⟩ := wq41
          refine ⟨_, gq41, ?_⟩
          show gz gPP gGG gcn _ _ 85 [some (.ref x), some (.int (zi m)), some (.int (zi a)), some (.int (zi n)), some (.int (zi zq1)), some (.int (zi jn14v0)), none, none, none, none] [.int (zi zq41)] hq41 _
          have sq41 : gSs rT 1027 ty [54002, 54003, 54004, 54005, 54006, 54007, 54008, 54010, 54011, 54012, 54013, 82000, 82001, 82002, 82003, 82004, 82005, 82006, 82007, 82008, 83000, 83001, 83002, 83003, 83004, 83005, 83006, 83007, 83008, 84000, 84001, 84002, 84003, 84004, 84005, 84006, 84007, 84008, 112999, 113999] h hq41 := gSs.tr sq27 xq41 (by decide)
          have s42 := (xq41.2.2.2.2.2 x 0 (by rw [tx]; decide)).trans s28
          have s43 := (xq41.2.2.2.2.2 x 1 (by rw [tx]; decide)).trans s29
          have s44 := (xq41.2.2.2.2.2 pic 0 (by rw [tpic]; decide)).trans s30
          have s45 := (xq41.2.2.2.2.2 bn 0 (by rw [tbn]; decide)).trans s31
          have s46 := (xq41.2.2.2.2.2 bn 1 (by rw [tbn]; decide)).trans s32
          have s47 := (xq41.2.2.2.2.2 bn 2 (by rw [tbn]; decide)).trans s33
          have s48 := (xq41.2.2.2.2.2 pic 2 (by rw [tpic]; decide)).trans s34
          have s49 := (xq41.2.2.2.2.2 pic 3 (by rw [tpic]; decide)).trans s35
          have s50 := (xq41.2.2.2.2.2 src 1 (by rw [tsrc]; decide)).trans s36
          have s51 := (xq41.2.2.2.2.2 pic 7 (by rw [tpic]; decide)).trans s37
          have s52 := (xq41.2.2.2.2.2 pic 8 (by rw [tpic]; decide)).trans s38
          have s53 := (xq41.2.2.2.2.2 pic 5 (by rw [tpic]; decide)).trans s39
          refine gz_s 2 (pc' := 89) (L' := [some (.ref x), some (.int (zi m)), some (.int (zi a)), some (.int (zi n)), some (.int (zi zq1)), some (.int (zi jn14v0)), some (.int (zi zq41)), none, none, none]) (S' := [.int (zi zq41)]) rfl ?_
          by_cases hc54 : ¬ (zq41 : Int) = 0
          · refine gy_ifT (pc' := 101) rfl (by decide) (by decide) (by omega) hc54 ?_
            refine gz_s 2 (pc' := 104) (L' := [some (.ref x), some (.int (zi m)), some (.int (zi a)), some (.int (zi n)), some (.int (zi zq1)), some (.int (zi jn14v0)), some (.int (zi zq41)), none, none, none]) (S' := [.int (zi 1), .int (zi zq41)]) rfl ?_
            by_cases hc55 : (zq41 : Int) < 1
            · refine gy_icT (pc' := 114) rfl (by decide) (by decide) (by omega) (by omega) hc55 ?_
              refine gy_s 3 (pc' := 117) (L' := [some (.ref x), some (.int (zi m)), some (.int (zi a)), some (.int (zi n)), some (.int (zi zq1)), some (.int (zi jn14v0)), some (.int (zi zq41)), none, none, none]) (S' := [.int ((zi a) + (zi 3))]) (L2 := [some (.ref x), some (.int (zi m)), some (.int (zi a)), some (.int (zi n)), some (.int (zi zq1)), some (.int (zi jn14v0)), some (.int (zi zq41)), none, none, none]) (S2 := [.int (zi (a + 3))]) rfl (by simp only [zi_add, zi_sub, zi_mul, zi_neg, zi_and1, zi_and7, zi_and15, zi_and31, zi_and255, Int.reduceAdd, Int.reduceMul, Int.reduceSub]) (by simp only [zi_add, zi_sub, zi_mul, zi_neg, zi_and1, zi_and7, zi_and15, zi_and31, zi_and255, Int.reduceAdd, Int.reduceMul, Int.reduceSub]) ?_
              have k56 := sq41.2.1
              have k56b := sq41.2.2.1
              have hl57 : hq41.2.2.2.1 co = h.2.2.2.1 co := congrFun sq41.2.2.2.2.1 co
              have hl58 : hq41.2.2.2.1 dm = h.2.2.2.1 dm := congrFun sq41.2.2.2.2.1 dm
              have hl59 : 0 ≤ hq41.2.2.2.1 co ∧ hq41.2.2.2.1 co ≤ 12288 := gJ.rowl (G := gGG) sq41.1 tco rfl
              have hl60 : 0 ≤ hq41.2.2.2.1 dm ∧ hq41.2.2.2.1 dm ≤ 192 := gJ.rowl (G := gGG) sq41.1 tdm rfl
              have k61 := sq41.2.1
              have k61b := sq41.2.2.1
              have hl62 : hq41.2.2.2.1 co = h.2.2.2.1 co := congrFun sq41.2.2.2.2.1 co
              have hl63 : hq41.2.2.2.1 dm = h.2.2.2.1 dm := congrFun sq41.2.2.2.2.1 dm
              have hpc64 : gPC ty pic b0 b1 b2 (hq41.2.2.2.1 dm : Int) hq41 := gPC.zero sq41.1 tpic s44 tbn s45 tb0 s46 tb1 s47 tb2 s48 tco s49 tdm (by rw [(by omega : (0 : Int) = cn)]; exact s51) bl s52 (by omega) w s53 (by omega) (by omega) (by omega) (by omega) (by omega)
              have G65 : gSg [112, 113] [] [54002, 54003, 54004, 54005, 54006, 54007, 54008, 54010, 54011, 54012, 54013, 82000, 82001, 82002, 82003, 82004, 82005, 82006, 82007, 82008, 83000, 83001, 83002, 83003, 83004, 83005, 83006, 83007, 83008, 84000, 84001, 84002, 84003, 84004, 84005, 84006, 84007, 84008, 112999, 113999] ty h ty hq41 := gSg.ss G0 sq41 (by decide)
              exact gz_end (I := .ireturn) (len := 1) rfl (Or.inl rfl) ⟨ty, G65, a + 3, cn, (hq41.2.2.2.1 dm : Int), rfl, (by omega), (by omega), s51, (by omega), (by omega), (by omega), (by omega), (by dsimp only; omega), (by dsimp only; omega), (by omega), hpc64⟩
            · refine gy_icF rfl (by decide) (by decide) (by omega) (by omega) hc55 ?_
              refine gz_s 2 (pc' := 111) (L' := [some (.ref x), some (.int (zi m)), some (.int (zi a)), some (.int (zi n)), some (.int (zi zq1)), some (.int (zi jn14v0)), some (.int (zi zq41)), none, none, none]) (S' := [.int (zi 64), .int (zi zq41)]) rfl ?_
              by_cases hc66 : (zq41 : Int) ≤ 64
              · refine gy_icT (pc' := 118) rfl (by decide) (by decide) (by omega) (by omega) hc66 ?_
                refine gz_s 1 (pc' := 119) (L' := [some (.ref x), some (.int (zi m)), some (.int (zi a)), some (.int (zi n)), some (.int (zi zq1)), some (.int (zi jn14v0)), some (.int (zi zq41)), none, none, none]) (S' := [.ref x]) rfl ?_
                refine gs_gtk rfl (by decide) rfl sq41.1 tx rfl rfl s42 ?_
                refine gy_s 3 (pc' := 125) (L' := [some (.ref x), some (.int (zi m)), some (.int (zi a)), some (.int (zi n)), some (.int (zi zq1)), some (.int (zi jn14v0)), some (.int (zi zq41)), none, none, none]) (S' := [.int ((zi a) + (zi 5)), .ref src]) (L2 := [some (.ref x), some (.int (zi m)), some (.int (zi a)), some (.int (zi n)), some (.int (zi zq1)), some (.int (zi jn14v0)), some (.int (zi zq41)), none, none, none]) (S2 := [.int (zi (a + 5)), .ref src]) rfl (by simp only [zi_add, zi_sub, zi_mul, zi_neg, zi_and1, zi_and7, zi_and15, zi_and31, zi_and255, Int.reduceAdd, Int.reduceMul, Int.reduceSub]) (by simp only [zi_add, zi_sub, zi_mul, zi_neg, zi_and1, zi_and7, zi_and15, zi_and31, zi_and255, Int.reduceAdd, Int.reduceMul, Int.reduceSub]) ?_
                refine gz_call rfl (by decide) rfl (by decide) (by decide) (gcal_of rfl rfl rfl (Nat.le_of_ble_eq_true rfl) (gJ.recv (G := gGG) sq41.1 tsrc rfl rfl)) (cl_Collected_twoAt _ sq41.1 src tsrc (a + 5) (by omega) sz s50 (by omega) uq) (fun q67 _ wq67 => ?_)
                obtain ⟨pq67, oq67, hq67⟩ := q67
                obtain ⟨xq67, zq67, gq67, aq67, bq67, uq67_0⟩ := wq67
                refine ⟨_, gq67, ?_⟩
                show gz gPP gGG gcn _ _ 128 [some (.ref x), some (.int (zi m)), some (.int (zi a)), some (.int (zi n)), some (.int (zi zq1)), some (.int (zi jn14v0)), some (.int (zi zq41)), none, none, none] [.int (zi zq67)] hq67 _
                have sq67 : gSs rT 1027 ty [54002, 54003, 54004, 54005, 54006, 54007, 54008, 54010, 54011, 54012, 54013, 82000, 82001, 82002, 82003, 82004, 82005, 82006, 82007, 82008, 83000, 83001, 83002, 83003, 83004, 83005, 83006, 83007, 83008, 84000, 84001, 84002, 84003, 84004, 84005, 84006, 84007, 84008, 112999, 113999] h hq67 := gSs.tr sq41 xq67 (by decide)
                have s68 := (xq67.2.2.2.2.2 x 0 (by rw [tx]; decide)).trans s42
                have s69 := (xq67.2.2.2.2.2 x 1 (by rw [tx]; decide)).trans s43
                have s70 := (xq67.2.2.2.2.2 pic 0 (by rw [tpic]; decide)).trans s44
                have s71 := (xq67.2.2.2.2.2 bn 0 (by rw [tbn]; decide)).trans s45
                have s72 := (xq67.2.2.2.2.2 bn 1 (by rw [tbn]; decide)).trans s46
                have s73 := (xq67.2.2.2.2.2 bn 2 (by rw [tbn]; decide)).trans s47
                have s74 := (xq67.2.2.2.2.2 pic 2 (by rw [tpic]; decide)).trans s48
                have s75 := (xq67.2.2.2.2.2 pic 3 (by rw [tpic]; decide)).trans s49
                have s76 := (xq67.2.2.2.2.2 src 1 (by rw [tsrc]; decide)).trans s50
                have s77 := (xq67.2.2.2.2.2 pic 7 (by rw [tpic]; decide)).trans s51
                have s78 := (xq67.2.2.2.2.2 pic 8 (by rw [tpic]; decide)).trans s52
                have s79 := (xq67.2.2.2.2.2 pic 5 (by rw [tpic]; decide)).trans s53
                refine gz_s 3 (pc' := 133) (L' := [some (.ref x), some (.int (zi m)), some (.int (zi a)), some (.int (zi n)), some (.int (zi zq1)), some (.int (zi jn14v0)), some (.int (zi zq41)), some (.int (zi zq67)), none, none]) (S' := [.int (zi 1), .int (zi zq67)]) rfl ?_
                by_cases hc80 : (zq67 : Int) < 1
                · refine gy_icT (pc' := 143) rfl (by decide) (by decide) (by omega) (by omega) hc80 ?_
                  refine gy_s 3 (pc' := 146) (L' := [some (.ref x), some (.int (zi m)), some (.int (zi a)), some (.int (zi n)), some (.int (zi zq1)), some (.int (zi jn14v0)), some (.int (zi zq41)), some (.int (zi zq67)), none, none]) (S' := [.int ((zi a) + (zi 5))]) (L2 := [some (.ref x), some (.int (zi m)), some (.int (zi a)), some (.int (zi n)), some (.int (zi zq1)), some (.int (zi jn14v0)), some (.int (zi zq41)), some (.int (zi zq67)), none, none]) (S2 := [.int (zi (a + 5))]) rfl (by simp only [zi_add, zi_sub, zi_mul, zi_neg, zi_and1, zi_and7, zi_and15, zi_and31, zi_and255, Int.reduceAdd, Int.reduceMul, Int.reduceSub]) (by simp only [zi_add, zi_sub, zi_mul, zi_neg, zi_and1, zi_and7, zi_and15, zi_and31, zi_and255, Int.reduceAdd, Int.reduceMul, Int.reduceSub]) ?_
                  have k81 := sq67.2.1
                  have k81b := sq67.2.2.1
                  have hl82 : hq67.2.2.2.1 co = h.2.2.2.1 co := congrFun sq67.2.2.2.2.1 co
                  have hl83 : hq67.2.2.2.1 dm = h.2.2.2.1 dm := congrFun sq67.2.2.2.2.1 dm
                  have hl84 : 0 ≤ hq67.2.2.2.1 co ∧ hq67.2.2.2.1 co ≤ 12288 := gJ.rowl (G := gGG) sq67.1 tco rfl
                  have hl85 : 0 ≤ hq67.2.2.2.1 dm ∧ hq67.2.2.2.1 dm ≤ 192 := gJ.rowl (G := gGG) sq67.1 tdm rfl
                  have k86 := sq67.2.1
                  have k86b := sq67.2.2.1
                  have hl87 : hq67.2.2.2.1 co = h.2.2.2.1 co := congrFun sq67.2.2.2.2.1 co
                  have hl88 : hq67.2.2.2.1 dm = h.2.2.2.1 dm := congrFun sq67.2.2.2.2.1 dm
                  have hpc89 : gPC ty pic b0 b1 b2 (hq67.2.2.2.1 dm : Int) hq67 := gPC.zero sq67.1 tpic s70 tbn s71 tb0 s72 tb1 s73 tb2 s74 tco s75 tdm (by rw [(by omega : (0 : Int) = cn)]; exact s77) bl s78 (by omega) w s79 (by omega) (by omega) (by omega) (by omega) (by omega)
                  have G90 : gSg [112, 113] [] [54002, 54003, 54004, 54005, 54006, 54007, 54008, 54010, 54011, 54012, 54013, 82000, 82001, 82002, 82003, 82004, 82005, 82006, 82007, 82008, 83000, 83001, 83002, 83003, 83004, 83005, 83006, 83007, 83008, 84000, 84001, 84002, 84003, 84004, 84005, 84006, 84007, 84008, 112999, 113999] ty h ty hq67 := gSg.ss G0 sq67 (by decide)
                  exact gz_end (I := .ireturn) (len := 1) rfl (Or.inl rfl) ⟨ty, G90, a + 5, cn, (hq67.2.2.2.1 dm : Int), rfl, (by omega), (by omega), s77, (by omega), (by omega), (by omega), (by omega), (by dsimp only; omega), (by dsimp only; omega), (by omega), hpc89⟩
                · refine gy_icF rfl (by decide) (by decide) (by omega) (by omega) hc80 ?_
                  refine gz_s 2 (pc' := 140) (L' := [some (.ref x), some (.int (zi m)), some (.int (zi a)), some (.int (zi n)), some (.int (zi zq1)), some (.int (zi jn14v0)), some (.int (zi zq41)), some (.int (zi zq67)), none, none]) (S' := [.int (zi 64), .int (zi zq67)]) rfl ?_
                  by_cases hc91 : (zq67 : Int) ≤ 64
                  · refine gy_icT (pc' := 147) rfl (by decide) (by decide) (by omega) (by omega) hc91 ?_
                    refine gz_s 1 (pc' := 149) (L' := [some (.ref x), some (.int (zi m)), some (.int (zi a)), some (.int (zi n)), some (.int (zi zq1)), some (.int (zi jn14v0)), some (.int (zi zq41)), some (.int (zi zq67)), none, none]) (S' := [.int (zi jn14v0)]) rfl ?_
                    refine gy_ifF rfl (by decide) (by decide) (by omega) (by first | (simp [zc]; done) | (simp only [zc]; omega)) ?_
                    refine gy_s 3 (pc' := 156) (L' := [some (.ref x), some (.int (zi m)), some (.int (zi a)), some (.int (zi n)), some (.int (zi zq1)), some (.int (zi jn14v0)), some (.int (zi zq41)), some (.int (zi zq67)), none, none]) (S' := [.int ((zi a) + (zi 7))]) (L2 := [some (.ref x), some (.int (zi m)), some (.int (zi a)), some (.int (zi n)), some (.int (zi zq1)), some (.int (zi jn14v0)), some (.int (zi zq41)), some (.int (zi zq67)), none, none]) (S2 := [.int (zi (a + 7))]) rfl (by simp only [zi_add, zi_sub, zi_mul, zi_neg, zi_and1, zi_and7, zi_and15, zi_and31, zi_and255, Int.reduceAdd, Int.reduceMul, Int.reduceSub]) (by simp only [zi_add, zi_sub, zi_mul, zi_neg, zi_and1, zi_and7, zi_and15, zi_and31, zi_and255, Int.reduceAdd, Int.reduceMul, Int.reduceSub]) ?_
                    have k92 := sq67.2.1
                    have k92b := sq67.2.2.1
                    have hl93 : hq67.2.2.2.1 co = h.2.2.2.1 co := congrFun sq67.2.2.2.2.1 co
                    have hl94 : hq67.2.2.2.1 dm = h.2.2.2.1 dm := congrFun sq67.2.2.2.2.1 dm
                    have hl95 : 0 ≤ hq67.2.2.2.1 co ∧ hq67.2.2.2.1 co ≤ 12288 := gJ.rowl (G := gGG) sq67.1 tco rfl
                    have hl96 : 0 ≤ hq67.2.2.2.1 dm ∧ hq67.2.2.2.1 dm ≤ 192 := gJ.rowl (G := gGG) sq67.1 tdm rfl
                    have k97 := sq67.2.1
                    have k97b := sq67.2.2.1
                    have hl98 : hq67.2.2.2.1 co = h.2.2.2.1 co := congrFun sq67.2.2.2.2.1 co
                    have hl99 : hq67.2.2.2.1 dm = h.2.2.2.1 dm := congrFun sq67.2.2.2.2.1 dm
                    have hpc100 : gPC ty pic b0 b1 b2 (hq67.2.2.2.1 dm : Int) hq67 := gPC.zero sq67.1 tpic s70 tbn s71 tb0 s72 tb1 s73 tb2 s74 tco s75 tdm (by rw [(by omega : (0 : Int) = cn)]; exact s77) bl s78 (by omega) w s79 (by omega) (by omega) (by omega) (by omega) (by omega)
                    have G101 : gSg [112, 113] [] [54002, 54003, 54004, 54005, 54006, 54007, 54008, 54010, 54011, 54012, 54013, 82000, 82001, 82002, 82003, 82004, 82005, 82006, 82007, 82008, 83000, 83001, 83002, 83003, 83004, 83005, 83006, 83007, 83008, 84000, 84001, 84002, 84003, 84004, 84005, 84006, 84007, 84008, 112999, 113999] ty h ty hq67 := gSg.ss G0 sq67 (by decide)
                    exact gz_end (I := .ireturn) (len := 1) rfl (Or.inl rfl) ⟨ty, G101, a + 7, cn, (hq67.2.2.2.1 dm : Int), rfl, (by omega), (by omega), s77, (by omega), (by omega), (by omega), (by omega), (by dsimp only; omega), (by dsimp only; omega), (by omega), hpc100⟩
                  · refine gy_icF rfl (by decide) (by decide) (by omega) (by omega) hc91 ?_
                    refine gy_s 3 (pc' := 146) (L' := [some (.ref x), some (.int (zi m)), some (.int (zi a)), some (.int (zi n)), some (.int (zi zq1)), some (.int (zi jn14v0)), some (.int (zi zq41)), some (.int (zi zq67)), none, none]) (S' := [.int ((zi a) + (zi 5))]) (L2 := [some (.ref x), some (.int (zi m)), some (.int (zi a)), some (.int (zi n)), some (.int (zi zq1)), some (.int (zi jn14v0)), some (.int (zi zq41)), some (.int (zi zq67)), none, none]) (S2 := [.int (zi (a + 5))]) rfl (by simp only [zi_add, zi_sub, zi_mul, zi_neg, zi_and1, zi_and7, zi_and15, zi_and31, zi_and255, Int.reduceAdd, Int.reduceMul, Int.reduceSub]) (by simp only [zi_add, zi_sub, zi_mul, zi_neg, zi_and1, zi_and7, zi_and15, zi_and31, zi_and255, Int.reduceAdd, Int.reduceMul, Int.reduceSub]) ?_
                    have k102 := sq67.2.1
                    have k102b := sq67.2.2.1
                    have hl103 : hq67.2.2.2.1 co = h.2.2.2.1 co := congrFun sq67.2.2.2.2.1 co
                    have hl104 : hq67.2.2.2.1 dm = h.2.2.2.1 dm := congrFun sq67.2.2.2.2.1 dm
                    have hl105 : 0 ≤ hq67.2.2.2.1 co ∧ hq67.2.2.2.1 co ≤ 12288 := gJ.rowl (G := gGG) sq67.1 tco rfl
                    have hl106 : 0 ≤ hq67.2.2.2.1 dm ∧ hq67.2.2.2.1 dm ≤ 192 := gJ.rowl (G := gGG) sq67.1 tdm rfl
                    have k107 := sq67.2.1
                    have k107b := sq67.2.2.1
                    have hl108 : hq67.2.2.2.1 co = h.2.2.2.1 co := congrFun sq67.2.2.2.2.1 co
                    have hl109 : hq67.2.2.2.1 dm = h.2.2.2.1 dm := congrFun sq67.2.2.2.2.1 dm
                    have hpc110 : gPC ty pic b0 b1 b2 (hq67.2.2.2.1 dm : Int) hq67 := gPC.zero sq67.1 tpic s70 tbn s71 tb0 s72 tb1 s73 tb2 s74 tco s75 tdm (by rw [(by omega : (0 : Int) = cn)]; exact s77) bl s78 (by omega) w s79 (by omega) (by omega) (by omega) (by omega) (by omega)
                    have G111 : gSg [112, 113] [] [54002, 54003, 54004, 54005, 54006, 54007, 54008, 54010, 54011, 54012, 54013, 82000, 82001, 82002, 82003, 82004, 82005, 82006, 82007, 82008, 83000, 83001, 83002, 83003, 83004, 83005, 83006, 83007, 83008, 84000, 84001, 84002, 84003, 84004, 84005, 84006, 84007, 84008, 112999, 113999] ty h ty hq67 := gSg.ss G0 sq67 (by decide)
                    exact gz_end (I := .ireturn) (len := 1) rfl (Or.inl rfl) ⟨ty, G111, a + 5, cn, (hq67.2.2.2.1 dm : Int), rfl, (by omega), (by omega), s77, (by omega), (by omega), (by omega), (by omega), (by dsimp only; omega), (by dsimp only; omega), (by omega), hpc110⟩
              · refine gy_icF rfl (by decide) (by decide) (by omega) (by omega) hc66 ?_
                refine gy_s 3 (pc' := 117) (L' := [some (.ref x), some (.int (zi m)), some (.int (zi a)), some (.int (zi n)), some (.int (zi zq1)), some (.int (zi jn14v0)), some (.int (zi zq41)), none, none, none]) (S' := [.int ((zi a) + (zi 3))]) (L2 := [some (.ref x), some (.int (zi m)), some (.int (zi a)), some (.int (zi n)), some (.int (zi zq1)), some (.int (zi jn14v0)), some (.int (zi zq41)), none, none, none]) (S2 := [.int (zi (a + 3))]) rfl (by simp only [zi_add, zi_sub, zi_mul, zi_neg, zi_and1, zi_and7, zi_and15, zi_and31, zi_and255, Int.reduceAdd, Int.reduceMul, Int.reduceSub]) (by simp only [zi_add, zi_sub, zi_mul, zi_neg, zi_and1, zi_and7, zi_and15, zi_and31, zi_and255, Int.reduceAdd, Int.reduceMul, Int.reduceSub]) ?_
                have k112 := sq41.2.1
                have k112b := sq41.2.2.1
                have hl113 : hq41.2.2.2.1 co = h.2.2.2.1 co := congrFun sq41.2.2.2.2.1 co
                have hl114 : hq41.2.2.2.1 dm = h.2.2.2.1 dm := congrFun sq41.2.2.2.2.1 dm
                have hl115 : 0 ≤ hq41.2.2.2.1 co ∧ hq41.2.2.2.1 co ≤ 12288 := gJ.rowl (G := gGG) sq41.1 tco rfl
                have hl116 : 0 ≤ hq41.2.2.2.1 dm ∧ hq41.2.2.2.1 dm ≤ 192 := gJ.rowl (G := gGG) sq41.1 tdm rfl
                have k117 := sq41.2.1
                have k117b := sq41.2.2.1
                have hl118 : hq41.2.2.2.1 co = h.2.2.2.1 co := congrFun sq41.2.2.2.2.1 co
                have hl119 : hq41.2.2.2.1 dm = h.2.2.2.1 dm := congrFun sq41.2.2.2.2.1 dm
                have hpc120 : gPC ty pic b0 b1 b2 (hq41.2.2.2.1 dm : Int) hq41 := gPC.zero sq41.1 tpic s44 tbn s45 tb0 s46 tb1 s47 tb2 s48 tco s49 tdm (by rw [(by omega : (0 : Int) = cn)]; exact s51) bl s52 (by omega) w s53 (by omega) (by omega) (by omega) (by omega) (by omega)
                have G121 : gSg [112, 113] [] [54002, 54003, 54004, 54005, 54006, 54007, 54008, 54010, 54011, 54012, 54013, 82000, 82001, 82002, 82003, 82004, 82005, 82006, 82007, 82008, 83000, 83001, 83002, 83003, 83004, 83005, 83006, 83007, 83008, 84000, 84001, 84002, 84003, 84004, 84005, 84006, 84007, 84008, 112999, 113999] ty h ty hq41 := gSg.ss G0 sq41 (by decide)
                exact gz_end (I := .ireturn) (len := 1) rfl (Or.inl rfl) ⟨ty, G121, a + 3, cn, (hq41.2.2.2.1 dm : Int), rfl, (by omega), (by omega), s51, (by omega), (by omega), (by omega), (by omega), (by dsimp only; omega), (by dsimp only; omega), (by omega), hpc120⟩
          · refine gy_ifF rfl (by decide) (by decide) (by omega) hc54 ?_
            refine gy_s 4 (pc' := 96) (L' := [some (.ref x), some (.int (zi m)), some (.int (zi a)), some (.int (zi n)), some (.int (zi zq1)), some (.int (zi jn14v0)), some (.int (zi zq41)), none, none, none]) (S' := [.int ((zi a) + (zi 5)), .ref x]) (L2 := [some (.ref x), some (.int (zi m)), some (.int (zi a)), some (.int (zi n)), some (.int (zi zq1)), some (.int (zi jn14v0)), some (.int (zi zq41)), none, none, none]) (S2 := [.int (zi (a + 5)), .ref x]) rfl (by simp only [zi_add, zi_sub, zi_mul, zi_neg, zi_and1, zi_and7, zi_and15, zi_and31, zi_and255, Int.reduceAdd, Int.reduceMul, Int.reduceSub]) (by simp only [zi_add, zi_sub, zi_mul, zi_neg, zi_and1, zi_and7, zi_and15, zi_and31, zi_and255, Int.reduceAdd, Int.reduceMul, Int.reduceSub]) ?_
            refine gz_call rfl (by decide) rfl (by decide) (by decide) (gcal_of rfl rfl rfl (Nat.le_of_ble_eq_true rfl) (gJ.recv (G := gGG) sq41.1 tx rfl rfl)) (cl_Reader_heightBehind _ sq41.1 x tx (a + 5) (by omega) src s42 tsrc sz s50 (by omega) uq) (fun q122 _ wq122 => ?_)
            obtain ⟨pq122, oq122, hq122⟩ := q122
            obtain ⟨xq122, zq122, gq122, aq122, bq122⟩ := wq122
            refine ⟨_, gq122, ?_⟩
            show gz gPP gGG gcn _ _ 99 [some (.ref x), some (.int (zi m)), some (.int (zi a)), some (.int (zi n)), some (.int (zi zq1)), some (.int (zi jn14v0)), some (.int (zi zq41)), none, none, none] [.int (zi zq122)] hq122 _
            have sq122 : gSs rT 1027 ty [54002, 54003, 54004, 54005, 54006, 54007, 54008, 54010, 54011, 54012, 54013, 82000, 82001, 82002, 82003, 82004, 82005, 82006, 82007, 82008, 83000, 83001, 83002, 83003, 83004, 83005, 83006, 83007, 83008, 84000, 84001, 84002, 84003, 84004, 84005, 84006, 84007, 84008, 112999, 113999] h hq122 := gSs.tr sq41 xq122 (by decide)
            have s123 := (xq122.2.2.2.2.2 x 0 (by rw [tx]; decide)).trans s42
            have s124 := (xq122.2.2.2.2.2 x 1 (by rw [tx]; decide)).trans s43
            have s125 := (xq122.2.2.2.2.2 pic 0 (by rw [tpic]; decide)).trans s44
            have s126 := (xq122.2.2.2.2.2 bn 0 (by rw [tbn]; decide)).trans s45
            have s127 := (xq122.2.2.2.2.2 bn 1 (by rw [tbn]; decide)).trans s46
            have s128 := (xq122.2.2.2.2.2 bn 2 (by rw [tbn]; decide)).trans s47
            have s129 := (xq122.2.2.2.2.2 pic 2 (by rw [tpic]; decide)).trans s48
            have s130 := (xq122.2.2.2.2.2 pic 3 (by rw [tpic]; decide)).trans s49
            have s131 := (xq122.2.2.2.2.2 src 1 (by rw [tsrc]; decide)).trans s50
            have s132 := (xq122.2.2.2.2.2 pic 7 (by rw [tpic]; decide)).trans s51
            have s133 := (xq122.2.2.2.2.2 pic 8 (by rw [tpic]; decide)).trans s52
            have s134 := (xq122.2.2.2.2.2 pic 5 (by rw [tpic]; decide)).trans s53
            refine gz_s 3 (pc' := 104) (L' := [some (.ref x), some (.int (zi m)), some (.int (zi a)), some (.int (zi n)), some (.int (zi zq1)), some (.int (zi jn14v0)), some (.int (zi zq122)), none, none, none]) (S' := [.int (zi 1), .int (zi zq122)]) rfl ?_
            by_cases hc135 : (zq122 : Int) < 1
            · refine gy_icT (pc' := 114) rfl (by decide) (by decide) (by omega) (by omega) hc135 ?_
              refine gy_s 3 (pc' := 117) (L' := [some (.ref x), some (.int (zi m)), some (.int (zi a)), some (.int (zi n)), some (.int (zi zq1)), some (.int (zi jn14v0)), some (.int (zi zq122)), none, none, none]) (S' := [.int ((zi a) + (zi 3))]) (L2 := [some (.ref x), some (.int (zi m)), some (.int (zi a)), some (.int (zi n)), some (.int (zi zq1)), some (.int (zi jn14v0)), some (.int (zi zq122)), none, none, none]) (S2 := [.int (zi (a + 3))]) rfl (by simp only [zi_add, zi_sub, zi_mul, zi_neg, zi_and1, zi_and7, zi_and15, zi_and31, zi_and255, Int.reduceAdd, Int.reduceMul, Int.reduceSub]) (by simp only [zi_add, zi_sub, zi_mul, zi_neg, zi_and1, zi_and7, zi_and15, zi_and31, zi_and255, Int.reduceAdd, Int.reduceMul, Int.reduceSub]) ?_
              have k136 := sq122.2.1
              have k136b := sq122.2.2.1
              have hl137 : hq122.2.2.2.1 co = h.2.2.2.1 co := congrFun sq122.2.2.2.2.1 co
              have hl138 : hq122.2.2.2.1 dm = h.2.2.2.1 dm := congrFun sq122.2.2.2.2.1 dm
              have hl139 : 0 ≤ hq122.2.2.2.1 co ∧ hq122.2.2.2.1 co ≤ 12288 := gJ.rowl (G := gGG) sq122.1 tco rfl
              have hl140 : 0 ≤ hq122.2.2.2.1 dm ∧ hq122.2.2.2.1 dm ≤ 192 := gJ.rowl (G := gGG) sq122.1 tdm rfl
              have k141 := sq122.2.1
              have k141b := sq122.2.2.1
              have hl142 : hq122.2.2.2.1 co = h.2.2.2.1 co := congrFun sq122.2.2.2.2.1 co
              have hl143 : hq122.2.2.2.1 dm = h.2.2.2.1 dm := congrFun sq122.2.2.2.2.1 dm
              have hpc144 : gPC ty pic b0 b1 b2 (hq122.2.2.2.1 dm : Int) hq122 := gPC.zero sq122.1 tpic s125 tbn s126 tb0 s127 tb1 s128 tb2 s129 tco s130 tdm (by rw [(by omega : (0 : Int) = cn)]; exact s132) bl s133 (by omega) w s134 (by omega) (by omega) (by omega) (by omega) (by omega)
              have G145 : gSg [112, 113] [] [54002, 54003, 54004, 54005, 54006, 54007, 54008, 54010, 54011, 54012, 54013, 82000, 82001, 82002, 82003, 82004, 82005, 82006, 82007, 82008, 83000, 83001, 83002, 83003, 83004, 83005, 83006, 83007, 83008, 84000, 84001, 84002, 84003, 84004, 84005, 84006, 84007, 84008, 112999, 113999] ty h ty hq122 := gSg.ss G0 sq122 (by decide)
              exact gz_end (I := .ireturn) (len := 1) rfl (Or.inl rfl) ⟨ty, G145, a + 3, cn, (hq122.2.2.2.1 dm : Int), rfl, (by omega), (by omega), s132, (by omega), (by omega), (by omega), (by omega), (by dsimp only; omega), (by dsimp only; omega), (by omega), hpc144⟩
            · refine gy_icF rfl (by decide) (by decide) (by omega) (by omega) hc135 ?_
              refine gz_s 2 (pc' := 111) (L' := [some (.ref x), some (.int (zi m)), some (.int (zi a)), some (.int (zi n)), some (.int (zi zq1)), some (.int (zi jn14v0)), some (.int (zi zq122)), none, none, none]) (S' := [.int (zi 64), .int (zi zq122)]) rfl ?_
              by_cases hc146 : (zq122 : Int) ≤ 64
              · refine gy_icT (pc' := 118) rfl (by decide) (by decide) (by omega) (by omega) hc146 ?_
                refine gz_s 1 (pc' := 119) (L' := [some (.ref x), some (.int (zi m)), some (.int (zi a)), some (.int (zi n)), some (.int (zi zq1)), some (.int (zi jn14v0)), some (.int (zi zq122)), none, none, none]) (S' := [.ref x]) rfl ?_
                refine gs_gtk rfl (by decide) rfl sq122.1 tx rfl rfl s123 ?_
                refine gy_s 3 (pc' := 125) (L' := [some (.ref x), some (.int (zi m)), some (.int (zi a)), some (.int (zi n)), some (.int (zi zq1)), some (.int (zi jn14v0)), some (.int (zi zq122)), none, none, none]) (S' := [.int ((zi a) + (zi 5)), .ref src]) (L2 := [some (.ref x), some (.int (zi m)), some (.int (zi a)), some (.int (zi n)), some (.int (zi zq1)), some (.int (zi jn14v0)), some (.int (zi zq122)), none, none, none]) (S2 := [.int (zi (a + 5)), .ref src]) rfl (by simp only [zi_add, zi_sub, zi_mul, zi_neg, zi_and1, zi_and7, zi_and15, zi_and31, zi_and255, Int.reduceAdd, Int.reduceMul, Int.reduceSub]) (by simp only [zi_add, zi_sub, zi_mul, zi_neg, zi_and1, zi_and7, zi_and15, zi_and31, zi_and255, Int.reduceAdd, Int.reduceMul, Int.reduceSub]) ?_
                refine gz_call rfl (by decide) rfl (by decide) (by decide) (gcal_of rfl rfl rfl (Nat.le_of_ble_eq_true rfl) (gJ.recv (G := gGG) sq122.1 tsrc rfl rfl)) (cl_Collected_twoAt _ sq122.1 src tsrc (a + 5) (by omega) sz s131 (by omega) uq) (fun q147 _ wq147 => ?_)
                obtain ⟨pq147, oq147, hq147⟩ := q147
                obtain ⟨xq147, zq147, gq147, aq147, bq147, uq147_0⟩ := wq147
                refine ⟨_, gq147, ?_⟩
                show gz gPP gGG gcn _ _ 128 [some (.ref x), some (.int (zi m)), some (.int (zi a)), some (.int (zi n)), some (.int (zi zq1)), some (.int (zi jn14v0)), some (.int (zi zq122)), none, none, none] [.int (zi zq147)] hq147 _
                have sq147 : gSs rT 1027 ty [54002, 54003, 54004, 54005, 54006, 54007, 54008, 54010, 54011, 54012, 54013, 82000, 82001, 82002, 82003, 82004, 82005, 82006, 82007, 82008, 83000, 83001, 83002, 83003, 83004, 83005, 83006, 83007, 83008, 84000, 84001, 84002, 84003, 84004, 84005, 84006, 84007, 84008, 112999, 113999] h hq147 := gSs.tr sq122 xq147 (by decide)
                have s148 := (xq147.2.2.2.2.2 x 0 (by rw [tx]; decide)).trans s123
                have s149 := (xq147.2.2.2.2.2 x 1 (by rw [tx]; decide)).trans s124
                have s150 := (xq147.2.2.2.2.2 pic 0 (by rw [tpic]; decide)).trans s125
                have s151 := (xq147.2.2.2.2.2 bn 0 (by rw [tbn]; decide)).trans s126
                have s152 := (xq147.2.2.2.2.2 bn 1 (by rw [tbn]; decide)).trans s127
                have s153 := (xq147.2.2.2.2.2 bn 2 (by rw [tbn]; decide)).trans s128
                have s154 := (xq147.2.2.2.2.2 pic 2 (by rw [tpic]; decide)).trans s129
                have s155 := (xq147.2.2.2.2.2 pic 3 (by rw [tpic]; decide)).trans s130
                have s156 := (xq147.2.2.2.2.2 src 1 (by rw [tsrc]; decide)).trans s131
                have s157 := (xq147.2.2.2.2.2 pic 7 (by rw [tpic]; decide)).trans s132
                have s158 := (xq147.2.2.2.2.2 pic 8 (by rw [tpic]; decide)).trans s133
                have s159 := (xq147.2.2.2.2.2 pic 5 (by rw [tpic]; decide)).trans s134
                refine gz_s 3 (pc' := 133) (L' := [some (.ref x), some (.int (zi m)), some (.int (zi a)), some (.int (zi n)), some (.int (zi zq1)), some (.int (zi jn14v0)), some (.int (zi zq122)), some (.int (zi zq147)), none, none]) (S' := [.int (zi 1), .int (zi zq147)]) rfl ?_
                by_cases hc160 : (zq147 : Int) < 1
                · refine gy_icT (pc' := 143) rfl (by decide) (by decide) (by omega) (by omega) hc160 ?_
                  refine gy_s 3 (pc' := 146) (L' := [some (.ref x), some (.int (zi m)), some (.int (zi a)), some (.int (zi n)), some (.int (zi zq1)), some (.int (zi jn14v0)), some (.int (zi zq122)), some (.int (zi zq147)), none, none]) (S' := [.int ((zi a) + (zi 5))]) (L2 := [some (.ref x), some (.int (zi m)), some (.int (zi a)), some (.int (zi n)), some (.int (zi zq1)), some (.int (zi jn14v0)), some (.int (zi zq122)), some (.int (zi zq147)), none, none]) (S2 := [.int (zi (a + 5))]) rfl (by simp only [zi_add, zi_sub, zi_mul, zi_neg, zi_and1, zi_and7, zi_and15, zi_and31, zi_and255, Int.reduceAdd, Int.reduceMul, Int.reduceSub]) (by simp only [zi_add, zi_sub, zi_mul, zi_neg, zi_and1, zi_and7, zi_and15, zi_and31, zi_and255, Int.reduceAdd, Int.reduceMul, Int.reduceSub]) ?_
                  have k161 := sq147.2.1
                  have k161b := sq147.2.2.1
                  have hl162 : hq147.2.2.2.1 co = h.2.2.2.1 co := congrFun sq147.2.2.2.2.1 co
                  have hl163 : hq147.2.2.2.1 dm = h.2.2.2.1 dm := congrFun sq147.2.2.2.2.1 dm
                  have hl164 : 0 ≤ hq147.2.2.2.1 co ∧ hq147.2.2.2.1 co ≤ 12288 := gJ.rowl (G := gGG) sq147.1 tco rfl
                  have hl165 : 0 ≤ hq147.2.2.2.1 dm ∧ hq147.2.2.2.1 dm ≤ 192 := gJ.rowl (G := gGG) sq147.1 tdm rfl
                  have k166 := sq147.2.1
                  have k166b := sq147.2.2.1
                  have hl167 : hq147.2.2.2.1 co = h.2.2.2.1 co := congrFun sq147.2.2.2.2.1 co
                  have hl168 : hq147.2.2.2.1 dm = h.2.2.2.1 dm := congrFun sq147.2.2.2.2.1 dm
                  have hpc169 : gPC ty pic b0 b1 b2 (hq147.2.2.2.1 dm : Int) hq147 := gPC.zero sq147.1 tpic s150 tbn s151 tb0 s152 tb1 s153 tb2 s154 tco s155 tdm (by rw [(by omega : (0 : Int) = cn)]; exact s157) bl s158 (by omega) w s159 (by omega) (by omega) (by omega) (by omega) (by omega)
                  have G170 : gSg [112, 113] [] [54002, 54003, 54004, 54005, 54006, 54007, 54008, 54010, 54011, 54012, 54013, 82000, 82001, 82002, 82003, 82004, 82005, 82006, 82007, 82008, 83000, 83001, 83002, 83003, 83004, 83005, 83006, 83007, 83008, 84000, 84001, 84002, 84003, 84004, 84005, 84006, 84007, 84008, 112999, 113999] ty h ty hq147 := gSg.ss G0 sq147 (by decide)
                  exact gz_end (I := .ireturn) (len := 1) rfl (Or.inl rfl) ⟨ty, G170, a + 5, cn, (hq147.2.2.2.1 dm : Int), rfl, (by omega), (by omega), s157, (by omega), (by omega), (by omega), (by omega), (by dsimp only; omega), (by dsimp only; omega), (by omega), hpc169⟩
                · refine gy_icF rfl (by decide) (by decide) (by omega) (by omega) hc160 ?_
                  refine gz_s 2 (pc' := 140) (L' := [some (.ref x), some (.int (zi m)), some (.int (zi a)), some (.int (zi n)), some (.int (zi zq1)), some (.int (zi jn14v0)), some (.int (zi zq122)), some (.int (zi zq147)), none, none]) (S' := [.int (zi 64), .int (zi zq147)]) rfl ?_
                  by_cases hc171 : (zq147 : Int) ≤ 64
                  · refine gy_icT (pc' := 147) rfl (by decide) (by decide) (by omega) (by omega) hc171 ?_
                    refine gz_s 1 (pc' := 149) (L' := [some (.ref x), some (.int (zi m)), some (.int (zi a)), some (.int (zi n)), some (.int (zi zq1)), some (.int (zi jn14v0)), some (.int (zi zq122)), some (.int (zi zq147)), none, none]) (S' := [.int (zi jn14v0)]) rfl ?_
                    refine gy_ifF rfl (by decide) (by decide) (by omega) (by first | (simp [zc]; done) | (simp only [zc]; omega)) ?_
                    refine gy_s 3 (pc' := 156) (L' := [some (.ref x), some (.int (zi m)), some (.int (zi a)), some (.int (zi n)), some (.int (zi zq1)), some (.int (zi jn14v0)), some (.int (zi zq122)), some (.int (zi zq147)), none, none]) (S' := [.int ((zi a) + (zi 7))]) (L2 := [some (.ref x), some (.int (zi m)), some (.int (zi a)), some (.int (zi n)), some (.int (zi zq1)), some (.int (zi jn14v0)), some (.int (zi zq122)), some (.int (zi zq147)), none, none]) (S2 := [.int (zi (a + 7))]) rfl (by simp only [zi_add, zi_sub, zi_mul, zi_neg, zi_and1, zi_and7, zi_and15, zi_and31, zi_and255, Int.reduceAdd, Int.reduceMul, Int.reduceSub]) (by simp only [zi_add, zi_sub, zi_mul, zi_neg, zi_and1, zi_and7, zi_and15, zi_and31, zi_and255, Int.reduceAdd, Int.reduceMul, Int.reduceSub]) ?_
                    have k172 := sq147.2.1
                    have k172b := sq147.2.2.1
                    have hl173 : hq147.2.2.2.1 co = h.2.2.2.1 co := congrFun sq147.2.2.2.2.1 co
                    have hl174 : hq147.2.2.2.1 dm = h.2.2.2.1 dm := congrFun sq147.2.2.2.2.1 dm
                    have hl175 : 0 ≤ hq147.2.2.2.1 co ∧ hq147.2.2.2.1 co ≤ 12288 := gJ.rowl (G := gGG) sq147.1 tco rfl
                    have hl176 : 0 ≤ hq147.2.2.2.1 dm ∧ hq147.2.2.2.1 dm ≤ 192 := gJ.rowl (G := gGG) sq147.1 tdm rfl
                    have k177 := sq147.2.1
                    have k177b := sq147.2.2.1
                    have hl178 : hq147.2.2.2.1 co = h.2.2.2.1 co := congrFun sq147.2.2.2.2.1 co
                    have hl179 : hq147.2.2.2.1 dm = h.2.2.2.1 dm := congrFun sq147.2.2.2.2.1 dm
                    have hpc180 : gPC ty pic b0 b1 b2 (hq147.2.2.2.1 dm : Int) hq147 := gPC.zero sq147.1 tpic s150 tbn s151 tb0 s152 tb1 s153 tb2 s154 tco s155 tdm (by rw [(by omega : (0 : Int) = cn)]; exact s157) bl s158 (by omega) w s159 (by omega) (by omega) (by omega) (by omega) (by omega)
                    have G181 : gSg [112, 113] [] [54002, 54003, 54004, 54005, 54006, 54007, 54008, 54010, 54011, 54012, 54013, 82000, 82001, 82002, 82003, 82004, 82005, 82006, 82007, 82008, 83000, 83001, 83002, 83003, 83004, 83005, 83006, 83007, 83008, 84000, 84001, 84002, 84003, 84004, 84005, 84006, 84007, 84008, 112999, 113999] ty h ty hq147 := gSg.ss G0 sq147 (by decide)
                    exact gz_end (I := .ireturn) (len := 1) rfl (Or.inl rfl) ⟨ty, G181, a + 7, cn, (hq147.2.2.2.1 dm : Int), rfl, (by omega), (by omega), s157, (by omega), (by omega), (by omega), (by omega), (by dsimp only; omega), (by dsimp only; omega), (by omega), hpc180⟩
                  · refine gy_icF rfl (by decide) (by decide) (by omega) (by omega) hc171 ?_
                    refine gy_s 3 (pc' := 146) (L' := [some (.ref x), some (.int (zi m)), some (.int (zi a)), some (.int (zi n)), some (.int (zi zq1)), some (.int (zi jn14v0)), some (.int (zi zq122)), some (.int (zi zq147)), none, none]) (S' := [.int ((zi a) + (zi 5))]) (L2 := [some (.ref x), some (.int (zi m)), some (.int (zi a)), some (.int (zi n)), some (.int (zi zq1)), some (.int (zi jn14v0)), some (.int (zi zq122)), some (.int (zi zq147)), none, none]) (S2 := [.int (zi (a + 5))]) rfl (by simp only [zi_add, zi_sub, zi_mul, zi_neg, zi_and1, zi_and7, zi_and15, zi_and31, zi_and255, Int.reduceAdd, Int.reduceMul, Int.reduceSub]) (by simp only [zi_add, zi_sub, zi_mul, zi_neg, zi_and1, zi_and7, zi_and15, zi_and31, zi_and255, Int.reduceAdd, Int.reduceMul, Int.reduceSub]) ?_
                    have k182 := sq147.2.1
                    have k182b := sq147.2.2.1
                    have hl183 : hq147.2.2.2.1 co = h.2.2.2.1 co := congrFun sq147.2.2.2.2.1 co
                    have hl184 : hq147.2.2.2.1 dm = h.2.2.2.1 dm := congrFun sq147.2.2.2.2.1 dm
                    have hl185 : 0 ≤ hq147.2.2.2.1 co ∧ hq147.2.2.2.1 co ≤ 12288 := gJ.rowl (G := gGG) sq147.1 tco rfl
                    have hl186 : 0 ≤ hq147.2.2.2.1 dm ∧ hq147.2.2.2.1 dm ≤ 192 := gJ.rowl (G := gGG) sq147.1 tdm rfl
                    have k187 := sq147.2.1
                    have k187b := sq147.2.2.1
                    have hl188 : hq147.2.2.2.1 co = h.2.2.2.1 co := congrFun sq147.2.2.2.2.1 co
                    have hl189 : hq147.2.2.2.1 dm = h.2.2.2.1 dm := congrFun sq147.2.2.2.2.1 dm
                    have hpc190 : gPC ty pic b0 b1 b2 (hq147.2.2.2.1 dm : Int) hq147 := gPC.zero sq147.1 tpic s150 tbn s151 tb0 s152 tb1 s153 tb2 s154 tco s155 tdm (by rw [(by omega : (0 : Int) = cn)]; exact s157) bl s158 (by omega) w s159 (by omega) (by omega) (by omega) (by omega) (by omega)
                    have G191 : gSg [112, 113] [] [54002, 54003, 54004, 54005, 54006, 54007, 54008, 54010, 54011, 54012, 54013, 82000, 82001, 82002, 82003, 82004, 82005, 82006, 82007, 82008, 83000, 83001, 83002, 83003, 83004, 83005, 83006, 83007, 83008, 84000, 84001, 84002, 84003, 84004, 84005, 84006, 84007, 84008, 112999, 113999] ty h ty hq147 := gSg.ss G0 sq147 (by decide)
                    exact gz_end (I := .ireturn) (len := 1) rfl (Or.inl rfl) ⟨ty, G191, a + 5, cn, (hq147.2.2.2.1 dm : Int), rfl, (by omega), (by omega), s157, (by omega), (by omega), (by omega), (by omega), (by dsimp only; omega), (by dsimp only; omega), (by omega), hpc190⟩
              · refine gy_icF rfl (by decide) (by decide) (by omega) (by omega) hc146 ?_
                refine gy_s 3 (pc' := 117) (L' := [some (.ref x), some (.int (zi m)), some (.int (zi a)), some (.int (zi n)), some (.int (zi zq1)), some (.int (zi jn14v0)), some (.int (zi zq122)), none, none, none]) (S' := [.int ((zi a) + (zi 3))]) (L2 := [some (.ref x), some (.int (zi m)), some (.int (zi a)), some (.int (zi n)), some (.int (zi zq1)), some (.int (zi jn14v0)), some (.int (zi zq122)), none, none, none]) (S2 := [.int (zi (a + 3))]) rfl (by simp only [zi_add, zi_sub, zi_mul, zi_neg, zi_and1, zi_and7, zi_and15, zi_and31, zi_and255, Int.reduceAdd, Int.reduceMul, Int.reduceSub]) (by simp only [zi_add, zi_sub, zi_mul, zi_neg, zi_and1, zi_and7, zi_and15, zi_and31, zi_and255, Int.reduceAdd, Int.reduceMul, Int.reduceSub]) ?_
                have k192 := sq122.2.1
                have k192b := sq122.2.2.1
                have hl193 : hq122.2.2.2.1 co = h.2.2.2.1 co := congrFun sq122.2.2.2.2.1 co
                have hl194 : hq122.2.2.2.1 dm = h.2.2.2.1 dm := congrFun sq122.2.2.2.2.1 dm
                have hl195 : 0 ≤ hq122.2.2.2.1 co ∧ hq122.2.2.2.1 co ≤ 12288 := gJ.rowl (G := gGG) sq122.1 tco rfl
                have hl196 : 0 ≤ hq122.2.2.2.1 dm ∧ hq122.2.2.2.1 dm ≤ 192 := gJ.rowl (G := gGG) sq122.1 tdm rfl
                have k197 := sq122.2.1
                have k197b := sq122.2.2.1
                have hl198 : hq122.2.2.2.1 co = h.2.2.2.1 co := congrFun sq122.2.2.2.2.1 co
                have hl199 : hq122.2.2.2.1 dm = h.2.2.2.1 dm := congrFun sq122.2.2.2.2.1 dm
                have hpc200 : gPC ty pic b0 b1 b2 (hq122.2.2.2.1 dm : Int) hq122 := gPC.zero sq122.1 tpic s125 tbn s126 tb0 s127 tb1 s128 tb2 s129 tco s130 tdm (by rw [(by omega : (0 : Int) = cn)]; exact s132) bl s133 (by omega) w s134 (by omega) (by omega) (by omega) (by omega) (by omega)
                have G201 : gSg [112, 113] [] [54002, 54003, 54004, 54005, 54006, 54007, 54008, 54010, 54011, 54012, 54013, 82000, 82001, 82002, 82003, 82004, 82005, 82006, 82007, 82008, 83000, 83001, 83002, 83003, 83004, 83005, 83006, 83007, 83008, 84000, 84001, 84002, 84003, 84004, 84005, 84006, 84007, 84008, 112999, 113999] ty h ty hq122 := gSg.ss G0 sq122 (by decide)
                exact gz_end (I := .ireturn) (len := 1) rfl (Or.inl rfl) ⟨ty, G201, a + 3, cn, (hq122.2.2.2.1 dm : Int), rfl, (by omega), (by omega), s132, (by omega), (by omega), (by omega), (by omega), (by dsimp only; omega), (by dsimp only; omega), (by omega), hpc200⟩
        · refine gy_icF rfl (by decide) (by decide) (by omega) (by omega) hc40 ?_
          refine gy_s 3 (pc' := 74) (L' := [some (.ref x), some (.int (zi m)), some (.int (zi a)), some (.int (zi n)), some (.int (zi zq1)), some (.int (zi jn14v0)), none, none, none, none]) (S' := [.int ((zi a) + (zi 2))]) (L2 := [some (.ref x), some (.int (zi m)), some (.int (zi a)), some (.int (zi n)), some (.int (zi zq1)), some (.int (zi jn14v0)), none, none, none, none]) (S2 := [.int (zi (a + 2))]) rfl (by simp only [zi_add, zi_sub, zi_mul, zi_neg, zi_and1, zi_and7, zi_and15, zi_and31, zi_and255, Int.reduceAdd, Int.reduceMul, Int.reduceSub]) (by simp only [zi_add, zi_sub, zi_mul, zi_neg, zi_and1, zi_and7, zi_and15, zi_and31, zi_and255, Int.reduceAdd, Int.reduceMul, Int.reduceSub]) ?_
          have k202 := sq27.2.1
          have k202b := sq27.2.2.1
          have hl203 : hq27.2.2.2.1 co = h.2.2.2.1 co := congrFun sq27.2.2.2.2.1 co
          have hl204 : hq27.2.2.2.1 dm = h.2.2.2.1 dm := congrFun sq27.2.2.2.2.1 dm
          have hl205 : 0 ≤ hq27.2.2.2.1 co ∧ hq27.2.2.2.1 co ≤ 12288 := gJ.rowl (G := gGG) sq27.1 tco rfl
          have hl206 : 0 ≤ hq27.2.2.2.1 dm ∧ hq27.2.2.2.1 dm ≤ 192 := gJ.rowl (G := gGG) sq27.1 tdm rfl
          have k207 := sq27.2.1
          have k207b := sq27.2.2.1
          have hl208 : hq27.2.2.2.1 co = h.2.2.2.1 co := congrFun sq27.2.2.2.2.1 co
          have hl209 : hq27.2.2.2.1 dm = h.2.2.2.1 dm := congrFun sq27.2.2.2.2.1 dm
          have hpc210 : gPC ty pic b0 b1 b2 (hq27.2.2.2.1 dm : Int) hq27 := gPC.zero sq27.1 tpic s30 tbn s31 tb0 s32 tb1 s33 tb2 s34 tco s35 tdm (by rw [(by omega : (0 : Int) = cn)]; exact s37) bl s38 (by omega) w s39 (by omega) (by omega) (by omega) (by omega) (by omega)
          have G211 : gSg [112, 113] [] [54002, 54003, 54004, 54005, 54006, 54007, 54008, 54010, 54011, 54012, 54013, 82000, 82001, 82002, 82003, 82004, 82005, 82006, 82007, 82008, 83000, 83001, 83002, 83003, 83004, 83005, 83006, 83007, 83008, 84000, 84001, 84002, 84003, 84004, 84005, 84006, 84007, 84008, 112999, 113999] ty h ty hq27 := gSg.ss G0 sq27 (by decide)
          exact gz_end (I := .ireturn) (len := 1) rfl (Or.inl rfl) ⟨ty, G211, a + 2, cn, (hq27.2.2.2.1 dm : Int), rfl, (by omega), (by omega), s37, (by omega), (by omega), (by omega), (by omega), (by dsimp only; omega), (by dsimp only; omega), (by omega), hpc210⟩
      · refine gy_ifF rfl (by decide) (by decide) (by omega) hc26 ?_
        refine gy_s 6 (pc' := 51) (L' := [some (.ref x), some (.int (zi m)), some (.int (zi a)), some (.int (zi n)), some (.int (zi zq1)), some (.int (zi jn14v0)), none, none, none, none]) (S' := [.int ((zi 8) + ((zi 3) * (zi zq1))), .int (zi n)]) (L2 := [some (.ref x), some (.int (zi m)), some (.int (zi a)), some (.int (zi n)), some (.int (zi zq1)), some (.int (zi jn14v0)), none, none, none, none]) (S2 := [.int (zi (8 + (3 * zq1))), .int (zi n)]) rfl (by simp only [zi_add, zi_sub, zi_mul, zi_neg, zi_and1, zi_and7, zi_and15, zi_and31, zi_and255, Int.reduceAdd, Int.reduceMul, Int.reduceSub]) (by simp only [zi_add, zi_sub, zi_mul, zi_neg, zi_and1, zi_and7, zi_and15, zi_and31, zi_and255, Int.reduceAdd, Int.reduceMul, Int.reduceSub]) ?_
        by_cases hc212 : (n : Int) = 8 + (3 * zq1)
        · refine gy_icT (pc' := 56) rfl (by decide) (by decide) (by omega) (by omega) hc212 ?_
          refine gz_s 1 (pc' := 57) (L' := [some (.ref x), some (.int (zi m)), some (.int (zi a)), some (.int (zi n)), some (.int (zi zq1)), some (.int (zi jn14v0)), none, none, none, none]) (S' := [.ref x]) rfl ?_
          refine gs_gtk rfl (by decide) rfl sq1.1 tx rfl rfl s2 ?_
          refine gy_s 3 (pc' := 63) (L' := [some (.ref x), some (.int (zi m)), some (.int (zi a)), some (.int (zi n)), some (.int (zi zq1)), some (.int (zi jn14v0)), none, none, none, none]) (S' := [.int ((zi a) + (zi 2)), .ref src]) (L2 := [some (.ref x), some (.int (zi m)), some (.int (zi a)), some (.int (zi n)), some (.int (zi zq1)), some (.int (zi jn14v0)), none, none, none, none]) (S2 := [.int (zi (a + 2)), .ref src]) rfl (by simp only [zi_add, zi_sub, zi_mul, zi_neg, zi_and1, zi_and7, zi_and15, zi_and31, zi_and255, Int.reduceAdd, Int.reduceMul, Int.reduceSub]) (by simp only [zi_add, zi_sub, zi_mul, zi_neg, zi_and1, zi_and7, zi_and15, zi_and31, zi_and255, Int.reduceAdd, Int.reduceMul, Int.reduceSub]) ?_
          refine gz_call rfl (by decide) rfl (by decide) (by decide) (gcal_of rfl rfl rfl (Nat.le_of_ble_eq_true rfl) (gJ.recv (G := gGG) sq1.1 tsrc rfl rfl)) (cl_Collected_byteAt _ sq1.1 src tsrc (a + 2) (by omega) sz s10 (by omega) uq) (fun q213 _ wq213 => ?_)
          obtain ⟨pq213, oq213, hq213⟩ := q213
          obtain ⟨xq213, zq213, gq213, aq213, bq213, uq213_0⟩ := wq213
          refine ⟨_, gq213, ?_⟩
          show gz gPP gGG gcn _ _ 66 [some (.ref x), some (.int (zi m)), some (.int (zi a)), some (.int (zi n)), some (.int (zi zq1)), some (.int (zi jn14v0)), none, none, none, none] [.int (zi zq213)] hq213 _
          have sq213 : gSs rT 1027 ty [54002, 54003, 54004, 54005, 54006, 54007, 54008, 54010, 54011, 54012, 54013, 82000, 82001, 82002, 82003, 82004, 82005, 82006, 82007, 82008, 83000, 83001, 83002, 83003, 83004, 83005, 83006, 83007, 83008, 84000, 84001, 84002, 84003, 84004, 84005, 84006, 84007, 84008, 112999, 113999] h hq213 := gSs.tr sq1 xq213 (by decide)
          have s214 := (xq213.2.2.2.2.2 x 0 (by rw [tx]; decide)).trans s2
          have s215 := (xq213.2.2.2.2.2 x 1 (by rw [tx]; decide)).trans s3
          have s216 := (xq213.2.2.2.2.2 pic 0 (by rw [tpic]; decide)).trans s4
          have s217 := (xq213.2.2.2.2.2 bn 0 (by rw [tbn]; decide)).trans s5
          have s218 := (xq213.2.2.2.2.2 bn 1 (by rw [tbn]; decide)).trans s6
          have s219 := (xq213.2.2.2.2.2 bn 2 (by rw [tbn]; decide)).trans s7
          have s220 := (xq213.2.2.2.2.2 pic 2 (by rw [tpic]; decide)).trans s8
          have s221 := (xq213.2.2.2.2.2 pic 3 (by rw [tpic]; decide)).trans s9
          have s222 := (xq213.2.2.2.2.2 src 1 (by rw [tsrc]; decide)).trans s10
          have s223 := (xq213.2.2.2.2.2 pic 7 (by rw [tpic]; decide)).trans s11
          have s224 := (xq213.2.2.2.2.2 pic 8 (by rw [tpic]; decide)).trans s12
          have s225 := (xq213.2.2.2.2.2 pic 5 (by rw [tpic]; decide)).trans s13
          refine gz_s 1 (pc' := 68) (L' := [some (.ref x), some (.int (zi m)), some (.int (zi a)), some (.int (zi n)), some (.int (zi zq1)), some (.int (zi jn14v0)), none, none, none, none]) (S' := [.int (zi 8), .int (zi zq213)]) rfl ?_
          by_cases hc226 : (zq213 : Int) = 8
          · refine gy_icT (pc' := 75) rfl (by decide) (by decide) (by omega) (by omega) hc226 ?_
            refine gz_s 1 (pc' := 76) (L' := [some (.ref x), some (.int (zi m)), some (.int (zi a)), some (.int (zi n)), some (.int (zi zq1)), some (.int (zi jn14v0)), none, none, none, none]) (S' := [.ref x]) rfl ?_
            refine gs_gtk rfl (by decide) rfl sq213.1 tx rfl rfl s214 ?_
            refine gy_s 3 (pc' := 82) (L' := [some (.ref x), some (.int (zi m)), some (.int (zi a)), some (.int (zi n)), some (.int (zi zq1)), some (.int (zi jn14v0)), none, none, none, none]) (S' := [.int ((zi a) + (zi 3)), .ref src]) (L2 := [some (.ref x), some (.int (zi m)), some (.int (zi a)), some (.int (zi n)), some (.int (zi zq1)), some (.int (zi jn14v0)), none, none, none, none]) (S2 := [.int (zi (a + 3)), .ref src]) rfl (by simp only [zi_add, zi_sub, zi_mul, zi_neg, zi_and1, zi_and7, zi_and15, zi_and31, zi_and255, Int.reduceAdd, Int.reduceMul, Int.reduceSub]) (by simp only [zi_add, zi_sub, zi_mul, zi_neg, zi_and1, zi_and7, zi_and15, zi_and31, zi_and255, Int.reduceAdd, Int.reduceMul, Int.reduceSub]) ?_
            refine gz_call rfl (by decide) rfl (by decide) (by decide) (gcal_of rfl rfl rfl (Nat.le_of_ble_eq_true rfl) (gJ.recv (G := gGG) sq213.1 tsrc rfl rfl)) (cl_Collected_twoAt _ sq213.1 src tsrc (a + 3) (by omega) sz s222 (by omega) uq) (fun q227 _ wq227 => ?_)
            obtain ⟨pq227, oq227, hq227⟩ := q227
            obtain ⟨xq227, zq227, gq227, aq227, bq227, uq227_0⟩ := wq227
            refine ⟨_, gq227, ?_⟩
            show gz gPP gGG gcn _ _ 85 [some (.ref x), some (.int (zi m)), some (.int (zi a)), some (.int (zi n)), some (.int (zi zq1)), some (.int (zi jn14v0)), none, none, none, none] [.int (zi zq227)] hq227 _
            have sq227 : gSs rT 1027 ty [54002, 54003, 54004, 54005, 54006, 54007, 54008, 54010, 54011, 54012, 54013, 82000, 82001, 82002, 82003, 82004, 82005, 82006, 82007, 82008, 83000, 83001, 83002, 83003, 83004, 83005, 83006, 83007, 83008, 84000, 84001, 84002, 84003, 84004, 84005, 84006, 84007, 84008, 112999, 113999] h hq227 := gSs.tr sq213 xq227 (by decide)
            have s228 := (xq227.2.2.2.2.2 x 0 (by rw [tx]; decide)).trans s214
            have s229 := (xq227.2.2.2.2.2 x 1 (by rw [tx]; decide)).trans s215
            have s230 := (xq227.2.2.2.2.2 pic 0 (by rw [tpic]; decide)).trans s216
            have s231 := (xq227.2.2.2.2.2 bn 0 (by rw [tbn]; decide)).trans s217
            have s232 := (xq227.2.2.2.2.2 bn 1 (by rw [tbn]; decide)).trans s218
            have s233 := (xq227.2.2.2.2.2 bn 2 (by rw [tbn]; decide)).trans s219
            have s234 := (xq227.2.2.2.2.2 pic 2 (by rw [tpic]; decide)).trans s220
            have s235 := (xq227.2.2.2.2.2 pic 3 (by rw [tpic]; decide)).trans s221
            have s236 := (xq227.2.2.2.2.2 src 1 (by rw [tsrc]; decide)).trans s222
            have s237 := (xq227.2.2.2.2.2 pic 7 (by rw [tpic]; decide)).trans s223
            have s238 := (xq227.2.2.2.2.2 pic 8 (by rw [tpic]; decide)).trans s224
            have s239 := (xq227.2.2.2.2.2 pic 5 (by rw [tpic]; decide)).trans s225
            refine gz_s 2 (pc' := 89) (L' := [some (.ref x), some (.int (zi m)), some (.int (zi a)), some (.int (zi n)), some (.int (zi zq1)), some (.int (zi jn14v0)), some (.int (zi zq227)), none, none, none]) (S' := [.int (zi zq227)]) rfl ?_
            by_cases hc240 : ¬ (zq227 : Int) = 0
            · refine gy_ifT (pc' := 101) rfl (by decide) (by decide) (by omega) hc240 ?_
              refine gz_s 2 (pc' := 104) (L' := [some (.ref x), some (.int (zi m)), some (.int (zi a)), some (.int (zi n)), some (.int (zi zq1)), some (.int (zi jn14v0)), some (.int (zi zq227)), none, none, none]) (S' := [.int (zi 1), .int (zi zq227)]) rfl ?_
              by_cases hc241 : (zq227 : Int) < 1
              · refine gy_icT (pc' := 114) rfl (by decide) (by decide) (by omega) (by omega) hc241 ?_
                refine gy_s 3 (pc' := 117) (L' := [some (.ref x), some (.int (zi m)), some (.int (zi a)), some (.int (zi n)), some (.int (zi zq1)), some (.int (zi jn14v0)), some (.int (zi zq227)), none, none, none]) (S' := [.int ((zi a) + (zi 3))]) (L2 := [some (.ref x), some (.int (zi m)), some (.int (zi a)), some (.int (zi n)), some (.int (zi zq1)), some (.int (zi jn14v0)), some (.int (zi zq227)), none, none, none]) (S2 := [.int (zi (a + 3))]) rfl (by simp only [zi_add, zi_sub, zi_mul, zi_neg, zi_and1, zi_and7, zi_and15, zi_and31, zi_and255, Int.reduceAdd, Int.reduceMul, Int.reduceSub]) (by simp only [zi_add, zi_sub, zi_mul, zi_neg, zi_and1, zi_and7, zi_and15, zi_and31, zi_and255, Int.reduceAdd, Int.reduceMul, Int.reduceSub]) ?_
                have k242 := sq227.2.1
                have k242b := sq227.2.2.1
                have hl243 : hq227.2.2.2.1 co = h.2.2.2.1 co := congrFun sq227.2.2.2.2.1 co
                have hl244 : hq227.2.2.2.1 dm = h.2.2.2.1 dm := congrFun sq227.2.2.2.2.1 dm
                have hl245 : 0 ≤ hq227.2.2.2.1 co ∧ hq227.2.2.2.1 co ≤ 12288 := gJ.rowl (G := gGG) sq227.1 tco rfl
                have hl246 : 0 ≤ hq227.2.2.2.1 dm ∧ hq227.2.2.2.1 dm ≤ 192 := gJ.rowl (G := gGG) sq227.1 tdm rfl
                have k247 := sq227.2.1
                have k247b := sq227.2.2.1
                have hl248 : hq227.2.2.2.1 co = h.2.2.2.1 co := congrFun sq227.2.2.2.2.1 co
                have hl249 : hq227.2.2.2.1 dm = h.2.2.2.1 dm := congrFun sq227.2.2.2.2.1 dm
                have hpc250 : gPC ty pic b0 b1 b2 (hq227.2.2.2.1 dm : Int) hq227 := gPC.zero sq227.1 tpic s230 tbn s231 tb0 s232 tb1 s233 tb2 s234 tco s235 tdm (by rw [(by omega : (0 : Int) = cn)]; exact s237) bl s238 (by omega) w s239 (by omega) (by omega) (by omega) (by omega) (by omega)
                have G251 : gSg [112, 113] [] [54002, 54003, 54004, 54005, 54006, 54007, 54008, 54010, 54011, 54012, 54013, 82000, 82001, 82002, 82003, 82004, 82005, 82006, 82007, 82008, 83000, 83001, 83002, 83003, 83004, 83005, 83006, 83007, 83008, 84000, 84001, 84002, 84003, 84004, 84005, 84006, 84007, 84008, 112999, 113999] ty h ty hq227 := gSg.ss G0 sq227 (by decide)
                exact gz_end (I := .ireturn) (len := 1) rfl (Or.inl rfl) ⟨ty, G251, a + 3, cn, (hq227.2.2.2.1 dm : Int), rfl, (by omega), (by omega), s237, (by omega), (by omega), (by omega), (by omega), (by dsimp only; omega), (by dsimp only; omega), (by omega), hpc250⟩
              · refine gy_icF rfl (by decide) (by decide) (by omega) (by omega) hc241 ?_
                refine gz_s 2 (pc' := 111) (L' := [some (.ref x), some (.int (zi m)), some (.int (zi a)), some (.int (zi n)), some (.int (zi zq1)), some (.int (zi jn14v0)), some (.int (zi zq227)), none, none, none]) (S' := [.int (zi 64), .int (zi zq227)]) rfl ?_
                by_cases hc252 : (zq227 : Int) ≤ 64
                · refine gy_icT (pc' := 118) rfl (by decide) (by decide) (by omega) (by omega) hc252 ?_
                  refine gz_s 1 (pc' := 119) (L' := [some (.ref x), some (.int (zi m)), some (.int (zi a)), some (.int (zi n)), some (.int (zi zq1)), some (.int (zi jn14v0)), some (.int (zi zq227)), none, none, none]) (S' := [.ref x]) rfl ?_
                  refine gs_gtk rfl (by decide) rfl sq227.1 tx rfl rfl s228 ?_
                  refine gy_s 3 (pc' := 125) (L' := [some (.ref x), some (.int (zi m)), some (.int (zi a)), some (.int (zi n)), some (.int (zi zq1)), some (.int (zi jn14v0)), some (.int (zi zq227)), none, none, none]) (S' := [.int ((zi a) + (zi 5)), .ref src]) (L2 := [some (.ref x), some (.int (zi m)), some (.int (zi a)), some (.int (zi n)), some (.int (zi zq1)), some (.int (zi jn14v0)), some (.int (zi zq227)), none, none, none]) (S2 := [.int (zi (a + 5)), .ref src]) rfl (by simp only [zi_add, zi_sub, zi_mul, zi_neg, zi_and1, zi_and7, zi_and15, zi_and31, zi_and255, Int.reduceAdd, Int.reduceMul, Int.reduceSub]) (by simp only [zi_add, zi_sub, zi_mul, zi_neg, zi_and1, zi_and7, zi_and15, zi_and31, zi_and255, Int.reduceAdd, Int.reduceMul, Int.reduceSub]) ?_
                  refine gz_call rfl (by decide) rfl (by decide) (by decide) (gcal_of rfl rfl rfl (Nat.le_of_ble_eq_true rfl) (gJ.recv (G := gGG) sq227.1 tsrc rfl rfl)) (cl_Collected_twoAt _ sq227.1 src tsrc (a + 5) (by omega) sz s236 (by omega) uq) (fun q253 _ wq253 => ?_)
                  obtain ⟨pq253, oq253, hq253⟩ := q253
                  obtain ⟨xq253, zq253, gq253, aq253, bq253, uq253_0⟩ := wq253
                  refine ⟨_, gq253, ?_⟩
                  show gz gPP gGG gcn _ _ 128 [some (.ref x), some (.int (zi m)), some (.int (zi a)), some (.int (zi n)), some (.int (zi zq1)), some (.int (zi jn14v0)), some (.int (zi zq227)), none, none, none] [.int (zi zq253)] hq253 _
                  have sq253 : gSs rT 1027 ty [54002, 54003, 54004, 54005, 54006, 54007, 54008, 54010, 54011, 54012, 54013, 82000, 82001, 82002, 82003, 82004, 82005, 82006, 82007, 82008, 83000, 83001, 83002, 83003, 83004, 83005, 83006, 83007, 83008, 84000, 84001, 84002, 84003, 84004, 84005, 84006, 84007, 84008, 112999, 113999] h hq253 := gSs.tr sq227 xq253 (by decide)
                  have s254 := (xq253.2.2.2.2.2 x 0 (by rw [tx]; decide)).trans s228
                  have s255 := (xq253.2.2.2.2.2 x 1 (by rw [tx]; decide)).trans s229
                  have s256 := (xq253.2.2.2.2.2 pic 0 (by rw [tpic]; decide)).trans s230
                  have s257 := (xq253.2.2.2.2.2 bn 0 (by rw [tbn]; decide)).trans s231
                  have s258 := (xq253.2.2.2.2.2 bn 1 (by rw [tbn]; decide)).trans s232
                  have s259 := (xq253.2.2.2.2.2 bn 2 (by rw [tbn]; decide)).trans s233
                  have s260 := (xq253.2.2.2.2.2 pic 2 (by rw [tpic]; decide)).trans s234
                  have s261 := (xq253.2.2.2.2.2 pic 3 (by rw [tpic]; decide)).trans s235
                  have s262 := (xq253.2.2.2.2.2 src 1 (by rw [tsrc]; decide)).trans s236
                  have s263 := (xq253.2.2.2.2.2 pic 7 (by rw [tpic]; decide)).trans s237
                  have s264 := (xq253.2.2.2.2.2 pic 8 (by rw [tpic]; decide)).trans s238
                  have s265 := (xq253.2.2.2.2.2 pic 5 (by rw [tpic]; decide)).trans s239
                  refine gz_s 3 (pc' := 133) (L' := [some (.ref x), some (.int (zi m)), some (.int (zi a)), some (.int (zi n)), some (.int (zi zq1)), some (.int (zi jn14v0)), some (.int (zi zq227)), some (.int (zi zq253)), none, none]) (S' := [.int (zi 1), .int (zi zq253)]) rfl ?_
                  by_cases hc266 : (zq253 : Int) < 1
                  · refine gy_icT (pc' := 143) rfl (by decide) (by decide) (by omega) (by omega) hc266 ?_
                    refine gy_s 3 (pc' := 146) (L' := [some (.ref x), some (.int (zi m)), some (.int (zi a)), some (.int (zi n)), some (.int (zi zq1)), some (.int (zi jn14v0)), some (.int (zi zq227)), some (.int (zi zq253)), none, none]) (S' := [.int ((zi a) + (zi 5))]) (L2 := [some (.ref x), some (.int (zi m)), some (.int (zi a)), some (.int (zi n)), some (.int (zi zq1)), some (.int (zi jn14v0)), some (.int (zi zq227)), some (.int (zi zq253)), none, none]) (S2 := [.int (zi (a + 5))]) rfl (by simp only [zi_add, zi_sub, zi_mul, zi_neg, zi_and1, zi_and7, zi_and15, zi_and31, zi_and255, Int.reduceAdd, Int.reduceMul, Int.reduceSub]) (by simp only [zi_add, zi_sub, zi_mul, zi_neg, zi_and1, zi_and7, zi_and15, zi_and31, zi_and255, Int.reduceAdd, Int.reduceMul, Int.reduceSub]) ?_
                    have k267 := sq253.2.1
                    have k267b := sq253.2.2.1
                    have hl268 : hq253.2.2.2.1 co = h.2.2.2.1 co := congrFun sq253.2.2.2.2.1 co
                    have hl269 : hq253.2.2.2.1 dm = h.2.2.2.1 dm := congrFun sq253.2.2.2.2.1 dm
                    have hl270 : 0 ≤ hq253.2.2.2.1 co ∧ hq253.2.2.2.1 co ≤ 12288 := gJ.rowl (G := gGG) sq253.1 tco rfl
                    have hl271 : 0 ≤ hq253.2.2.2.1 dm ∧ hq253.2.2.2.1 dm ≤ 192 := gJ.rowl (G := gGG) sq253.1 tdm rfl
                    have k272 := sq253.2.1
                    have k272b := sq253.2.2.1
                    have hl273 : hq253.2.2.2.1 co = h.2.2.2.1 co := congrFun sq253.2.2.2.2.1 co
                    have hl274 : hq253.2.2.2.1 dm = h.2.2.2.1 dm := congrFun sq253.2.2.2.2.1 dm
                    have hpc275 : gPC ty pic b0 b1 b2 (hq253.2.2.2.1 dm : Int) hq253 := gPC.zero sq253.1 tpic s256 tbn s257 tb0 s258 tb1 s259 tb2 s260 tco s261 tdm (by rw [(by omega : (0 : Int) = cn)]; exact s263) bl s264 (by omega) w s265 (by omega) (by omega) (by omega) (by omega) (by omega)
                    have G276 : gSg [112, 113] [] [54002, 54003, 54004, 54005, 54006, 54007, 54008, 54010, 54011, 54012, 54013, 82000, 82001, 82002, 82003, 82004, 82005, 82006, 82007, 82008, 83000, 83001, 83002, 83003, 83004, 83005, 83006, 83007, 83008, 84000, 84001, 84002, 84003, 84004, 84005, 84006, 84007, 84008, 112999, 113999] ty h ty hq253 := gSg.ss G0 sq253 (by decide)
                    exact gz_end (I := .ireturn) (len := 1) rfl (Or.inl rfl) ⟨ty, G276, a + 5, cn, (hq253.2.2.2.1 dm : Int), rfl, (by omega), (by omega), s263, (by omega), (by omega), (by omega), (by omega), (by dsimp only; omega), (by dsimp only; omega), (by omega), hpc275⟩
                  · refine gy_icF rfl (by decide) (by decide) (by omega) (by omega) hc266 ?_
                    refine gz_s 2 (pc' := 140) (L' := [some (.ref x), some (.int (zi m)), some (.int (zi a)), some (.int (zi n)), some (.int (zi zq1)), some (.int (zi jn14v0)), some (.int (zi zq227)), some (.int (zi zq253)), none, none]) (S' := [.int (zi 64), .int (zi zq253)]) rfl ?_
                    by_cases hc277 : (zq253 : Int) ≤ 64
                    · refine gy_icT (pc' := 147) rfl (by decide) (by decide) (by omega) (by omega) hc277 ?_
                      refine gz_s 1 (pc' := 149) (L' := [some (.ref x), some (.int (zi m)), some (.int (zi a)), some (.int (zi n)), some (.int (zi zq1)), some (.int (zi jn14v0)), some (.int (zi zq227)), some (.int (zi zq253)), none, none]) (S' := [.int (zi jn14v0)]) rfl ?_
                      refine gy_ifT (pc' := 157) rfl (by decide) (by decide) (by omega) (by first | (simp [zc]; done) | (simp only [zc]; omega)) ?_
                      refine gz_s 4 (pc' := 164) (L' := [some (.ref x), some (.int (zi m)), some (.int (zi a)), some (.int (zi n)), some (.int (zi zq1)), some (.int (zi jn14v0)), some (.int (zi zq227)), some (.int (zi zq253)), some (.int (zi 0)), none]) (S' := [.int (zi zq1), .int (zi 0)]) rfl ?_
                      refine gy_icF rfl (by decide) (by decide) (by omega) (by omega) (by first | (simp [zc]; done) | (simp only [zc]; omega)) ?_
                      refine gy_s 9 (pc' := 179) (L' := [some (.ref x), some (.int (zi m)), some (.int (zi a)), some (.int (zi n)), some (.int (zi zq1)), some (.int (zi jn14v0)), some (.int (zi zq227)), some (.int (zi zq253)), some (.int (zi 0)), none]) (S' := [.int (((zi a) + (zi 8)) + ((zi 3) * (zi 0))), .int (zi 0), .ref x]) (L2 := [some (.ref x), some (.int (zi m)), some (.int (zi a)), some (.int (zi n)), some (.int (zi zq1)), some (.int (zi jn14v0)), some (.int (zi zq227)), some (.int (zi zq253)), some (.int (zi 0)), none]) (S2 := [.int (zi ((a + 8) + 0)), .int (zi 0), .ref x]) rfl (by simp only [zi_add, zi_sub, zi_mul, zi_neg, zi_and1, zi_and7, zi_and15, zi_and31, zi_and255, Int.reduceAdd, Int.reduceMul, Int.reduceSub]) (by simp only [zi_add, zi_sub, zi_mul, zi_neg, zi_and1, zi_and7, zi_and15, zi_and31, zi_and255, Int.reduceAdd, Int.reduceMul, Int.reduceSub]) ?_
                      refine gz_call rfl (by decide) rfl (by decide) (by decide) (gcal_of rfl rfl rfl (Nat.le_of_ble_eq_true rfl) (gJ.recv (G := gGG) sq253.1 tx rfl rfl)) (cl_readBand0 _ sq253.1 x tx 0 (by omega) ((a + 8) + 0) (by omega) src s254 tsrc pic s255 tpic bn s256 tbn b0 s257 tb0 sz s262 (by omega) uq) (fun q278 _ wq278 => ?_)
                      obtain ⟨pq278, oq278, hq278⟩ := q278
                      obtain ⟨xq278, zq278, fq278_0, fq278_1, fq278_2, gq278, aq278, bq278, efq278_0, afq278_0, bfq278_0, efq278_1, afq278_1, bfq278_1, efq278_2, afq278_2, bfq278_2, uq278_0⟩ := wq278
                      refine ⟨_, gq278, ?_⟩
                      show gz gPP gGG gcn _ _ 182 [some (.ref x), some (.int (zi m)), some (.int (zi a)), some (.int (zi n)), some (.int (zi zq1)), some (.int (zi jn14v0)), some (.int (zi zq227)), some (.int (zi zq253)), some (.int (zi 0)), none] [.int (zi zq278)] hq278 _
                      have sq278 : gSs rT 1027 ty [54002, 54003, 54004, 54005, 54006, 54007, 54008, 54010, 54011, 54012, 54013, 82000, 82001, 82002, 82003, 82004, 82005, 82006, 82007, 82008, 83000, 83001, 83002, 83003, 83004, 83005, 83006, 83007, 83008, 84000, 84001, 84002, 84003, 84004, 84005, 84006, 84007, 84008, 112999, 113999] h hq278 := gSs.tr sq253 xq278 (by decide)
                      have s279 := (xq278.2.2.2.2.2 x 0 (by rw [tx]; decide)).trans s254
                      have s280 := (xq278.2.2.2.2.2 x 1 (by rw [tx]; decide)).trans s255
                      have s281 := (xq278.2.2.2.2.2 pic 0 (by rw [tpic]; decide)).trans s256
                      have s282 := (xq278.2.2.2.2.2 bn 0 (by rw [tbn]; decide)).trans s257
                      have s283 := (xq278.2.2.2.2.2 bn 1 (by rw [tbn]; decide)).trans s258
                      have s284 := (xq278.2.2.2.2.2 bn 2 (by rw [tbn]; decide)).trans s259
                      have s285 := (xq278.2.2.2.2.2 pic 2 (by rw [tpic]; decide)).trans s260
                      have s286 := (xq278.2.2.2.2.2 pic 3 (by rw [tpic]; decide)).trans s261
                      have s287 := (xq278.2.2.2.2.2 src 1 (by rw [tsrc]; decide)).trans s262
                      have s288 := (xq278.2.2.2.2.2 pic 7 (by rw [tpic]; decide)).trans s263
                      have s289 := (xq278.2.2.2.2.2 pic 8 (by rw [tpic]; decide)).trans s264
                      have s290 := (xq278.2.2.2.2.2 pic 5 (by rw [tpic]; decide)).trans s265
                      refine gz_s 3 (pc' := 187) (L' := [some (.ref x), some (.int (zi m)), some (.int (zi a)), some (.int (zi n)), some (.int (zi zq1)), some (.int (zi jn14v0)), some (.int (zi zq227)), some (.int (zi zq253)), some (.int (zi 0)), some (.int (zi zq278))]) (S' := [.int (zi (-1)), .int (zi zq278)]) rfl ?_
                      by_cases hc291 : (zq278 : Int) = (-1)
                      · refine gy_icT (pc' := 193) rfl (by decide) (by decide) (by omega) (by omega) hc291 ?_
                        refine gy_s 4 (pc' := 164) (L' := [some (.ref x), some (.int (zi m)), some (.int (zi a)), some (.int (zi n)), some (.int (zi zq1)), some (.int (zi jn14v0)), some (.int (zi zq227)), some (.int (zi zq253)), some (.int ((zi 0) + zi 1)), some (.int (zi zq278))]) (S' := [.int (zi zq1), .int ((zi 0) + zi 1)]) (L2 := [some (.ref x), some (.int (zi m)), some (.int (zi a)), some (.int (zi n)), some (.int (zi zq1)), some (.int (zi jn14v0)), some (.int (zi zq227)), some (.int (zi zq253)), some (.int (zi 1)), some (.int (zi zq278))]) (S2 := [.int (zi zq1), .int (zi 1)]) rfl (by simp only [zi_add, zi_sub, zi_mul, zi_neg, zi_and1, zi_and7, zi_and15, zi_and31, zi_and255, Int.reduceAdd, Int.reduceMul, Int.reduceSub]) (by simp only [zi_add, zi_sub, zi_mul, zi_neg, zi_and1, zi_and7, zi_and15, zi_and31, zi_and255, Int.reduceAdd, Int.reduceMul, Int.reduceSub]) ?_
                        by_cases hc292 : (zq1 : Int) ≤ 1
                        · refine gy_icT (pc' := 199) rfl (by decide) (by decide) (by omega) (by omega) hc292 ?_
                          refine gz_s 1 (pc' := 200) (L' := [some (.ref x), some (.int (zi m)), some (.int (zi a)), some (.int (zi n)), some (.int (zi zq1)), some (.int (zi jn14v0)), some (.int (zi zq227)), some (.int (zi zq253)), some (.int (zi 1)), some (.int (zi zq278))]) (S' := [.ref x]) rfl ?_
                          refine gs_gtk rfl (by decide) rfl sq278.1 tx rfl rfl s280 ?_
                          refine gz_s 2 (pc' := 207) (L' := [some (.ref x), some (.int (zi m)), some (.int (zi a)), some (.int (zi n)), some (.int (zi zq1)), some (.int (zi jn14v0)), some (.int (zi zq227)), some (.int (zi zq253)), some (.int (zi 1)), some (.int (zi zq278))]) (S' := [.int (zi 194), .int (zi m), .ref pic]) rfl ?_
                          by_cases hc293 : ¬ (m : Int) = 194
                          · refine gy_icT (pc' := 214) rfl (by decide) (by decide) (by omega) (by omega) hc293 ?_
                            refine gz_s 1 (pc' := 215) (L' := [some (.ref x), some (.int (zi m)), some (.int (zi a)), some (.int (zi n)), some (.int (zi zq1)), some (.int (zi jn14v0)), some (.int (zi zq227)), some (.int (zi zq253)), some (.int (zi 1)), some (.int (zi zq278))]) (S' := [.int (zi 0), .ref pic]) rfl ?_
                            refine gs_put rfl (by decide) rfl sq278 tpic rfl rfl rfl rfl (Or.inl rfl) (by decide) (by omega) (by omega) (fun h294 sh294 eh294 fh294 => ?_)
                            have s295 := (fh294 x 0 (fun q => absurd q.2 (by decide))).trans s279
                            have s296 := (fh294 x 1 (fun q => absurd q.2 (by decide))).trans s280
                            have s297 := (fh294 pic 0 (fun q => absurd q.2 (by decide))).trans s281
                            have s298 := (fh294 bn 0 (fun q => absurd (((tbn).symm.trans (congrArg ty q.1)).trans tpic) (by decide))).trans s282
                            have s299 := (fh294 bn 1 (fun q => absurd (((tbn).symm.trans (congrArg ty q.1)).trans tpic) (by decide))).trans s283
                            have s300 := (fh294 bn 2 (fun q => absurd (((tbn).symm.trans (congrArg ty q.1)).trans tpic) (by decide))).trans s284
                            have s301 := (fh294 pic 2 (fun q => absurd q.2 (by decide))).trans s285
                            have s302 := (fh294 pic 3 (fun q => absurd q.2 (by decide))).trans s286
                            have s303 := (fh294 src 1 (fun q => absurd q.2 (by decide))).trans s287
                            have s304 := (fh294 pic 7 (fun q => absurd q.2 (by decide))).trans s288
                            have s305 := (fh294 pic 8 (fun q => absurd q.2 (by decide))).trans s289
                            have s306 := (fh294 pic 5 (fun q => absurd q.2 (by decide))).trans s290
                            have s307 := (fh294 b0 1 (fun q => absurd q.2 (by decide))).trans efq278_0
                            have s308 := (fh294 b0 2 (fun q => absurd q.2 (by decide))).trans efq278_1
                            have s309 := (fh294 b0 3 (fun q => absurd q.2 (by decide))).trans efq278_2
                            refine gz_s 1 (pc' := 219) (L' := [some (.ref x), some (.int (zi m)), some (.int (zi a)), some (.int (zi n)), some (.int (zi zq1)), some (.int (zi jn14v0)), some (.int (zi zq227)), some (.int (zi zq253)), some (.int (zi 1)), some (.int (zi zq278))]) (S' := [.ref x]) rfl ?_
                            refine gs_gtk rfl (by decide) rfl sh294.1 tx rfl rfl s296 ?_
                            refine gz_s 3 (pc' := 228) (L' := [some (.ref x), some (.int (zi m)), some (.int (zi a)), some (.int (zi n)), some (.int (zi zq1)), some (.int (zi jn14v0)), some (.int (zi zq227)), some (.int (zi zq253)), some (.int (zi 1)), some (.int (zi zq278))]) (S' := [.int (zi zq1), .int (zi zq227), .int (zi zq253), .ref pic]) rfl ?_
                            have k310 := sh294.2.1
                            have k310b := sh294.2.2.1
                            have hl311 : h294.2.2.2.1 co = h.2.2.2.1 co := congrFun sh294.2.2.2.2.1 co
                            have hl312 : h294.2.2.2.1 dm = h.2.2.2.1 dm := congrFun sh294.2.2.2.2.1 dm
                            have hl313 : h294.2.2.2.1 co = h.2.2.2.1 co := congrFun sh294.2.2.2.2.1 co
                            have hl314 : h294.2.2.2.1 dm = h.2.2.2.1 dm := congrFun sh294.2.2.2.2.1 dm
                            obtain ⟨z315, ez315, az315, bz315⟩ := gJ.int (k := 1) (G := gGG) sh294.1 tb1 rfl rfl rfl
                            obtain ⟨z316, ez316, az316, bz316⟩ := gJ.int (k := 2) (G := gGG) sh294.1 tb1 rfl rfl rfl
                            obtain ⟨z317, ez317, az317, bz317⟩ := gJ.int (k := 3) (G := gGG) sh294.1 tb1 rfl rfl rfl
                            obtain ⟨z318, ez318, az318, bz318⟩ := gJ.int (k := 1) (G := gGG) sh294.1 tb2 rfl rfl rfl
                            obtain ⟨z319, ez319, az319, bz319⟩ := gJ.int (k := 2) (G := gGG) sh294.1 tb2 rfl rfl rfl
                            obtain ⟨z320, ez320, az320, bz320⟩ := gJ.int (k := 3) (G := gGG) sh294.1 tb2 rfl rfl rfl
                            refine gz_call rfl (by decide) rfl (by decide) (by decide) (gcal_of rfl rfl rfl (Nat.le_of_ble_eq_true rfl) (gJ.recv (G := gGG) sh294.1 tpic rfl rfl)) (cl_Picture_begin _ sh294.1 pic tpic zq253 (by omega) zq227 (by omega) zq1 (by omega) bn s297 tbn b0 s298 tb0 b1 s299 tb1 b2 s300 tb2 co s301 tco dm s302 tdm fq278_0 s307 (by omega) fq278_1 s308 (by omega) fq278_2 s309 (by omega) z315 ez315 (by omega) z316 ez316 (by omega) z317 ez317 (by omega) z318 ez318 (by omega) z319 ez319 (by omega) z320 ez320 (by omega) (by omega) (by omega) (by omega) (by omega) (by omega) uq) (fun q321 _ wq321 => ?_)
                            obtain ⟨pq321, oq321, hq321⟩ := q321
                            obtain ⟨tyq321, xq321, fq321_0, xq321_0, gq321, efq321_0, afq321_0, bfq321_0, axq321_0, bxq321_0, uq321_0, uq321_1, uq321_2, uq321_3, yq321_0⟩ := wq321
                            dsimp only at uq321_1 uq321_2
                            refine ⟨_, gq321, ?_⟩
                            show gz gPP gGG gcn _ _ 231 [some (.ref x), some (.int (zi m)), some (.int (zi a)), some (.int (zi n)), some (.int (zi zq1)), some (.int (zi jn14v0)), some (.int (zi zq227)), some (.int (zi zq253)), some (.int (zi 1)), some (.int (zi zq278))] [] hq321 _
                            have G322 : gSg [112, 113] [] [54002, 54003, 54004, 54005, 54006, 54007, 54008, 54010, 54011, 54012, 54013, 82000, 82001, 82002, 82003, 82004, 82005, 82006, 82007, 82008, 83000, 83001, 83002, 83003, 83004, 83005, 83006, 83007, 83008, 84000, 84001, 84002, 84003, 84004, 84005, 84006, 84007, 84008, 112999, 113999] ty h tyq321 hq321 := gSg.tr (gSg.ss G0 sh294 (by decide)) xq321 (by decide) (by decide) (fun x hx => by cases hx)
                            have t323 : tyq321 x = 65 := gSg.typ xq321 sh294.1 tx rfl
                            have t324 : tyq321 src = 51 := gSg.typ xq321 sh294.1 tsrc rfl
                            have t325 : tyq321 pic = 54 := gSg.typ xq321 sh294.1 tpic rfl
                            have t326 : tyq321 bn = 57 := gSg.typ xq321 sh294.1 tbn rfl
                            have t327 : tyq321 b0 = 82 := gSg.typ xq321 sh294.1 tb0 rfl
                            have t328 : tyq321 b1 = 83 := gSg.typ xq321 sh294.1 tb1 rfl
                            have t329 : tyq321 b2 = 84 := gSg.typ xq321 sh294.1 tb2 rfl
                            have t330 : tyq321 co = 112 := gSg.typ xq321 sh294.1 tco rfl
                            have hl331 : hq321.2.2.2.1 co = h294.2.2.2.1 co := gSg.len xq321 sh294.1 tco rfl
                            have t332 : tyq321 dm = 113 := gSg.typ xq321 sh294.1 tdm rfl
                            have hl333 : hq321.2.2.2.1 dm = h294.2.2.2.1 dm := gSg.len xq321 sh294.1 tdm rfl
                            have s334 := gSg.at xq321 sh294.1 tx rfl (by decide) s295
                            have s335 := gSg.at xq321 sh294.1 tx rfl (by decide) s296
                            have s336 := gSg.at xq321 sh294.1 tpic rfl (by decide) s297
                            have s337 := gSg.at xq321 sh294.1 tbn rfl (by decide) s298
                            have s338 := gSg.at xq321 sh294.1 tbn rfl (by decide) s299
                            have s339 := gSg.at xq321 sh294.1 tbn rfl (by decide) s300
                            have s340 := gSg.at xq321 sh294.1 tsrc rfl (by decide) s303
                            have s341 := gSg.at xq321 sh294.1 tb0 rfl (by decide) s307
                            have s342 := gSg.at xq321 sh294.1 tb0 rfl (by decide) s308
                            have s343 := gSg.at xq321 sh294.1 tb0 rfl (by decide) s309
                            have s344 := gSg.at xq321 sh294.1 tpic rfl (by decide) eh294
                            have s345 := gSg.at xq321 sh294.1 tb1 rfl (by decide) ez315
                            have s346 := gSg.at xq321 sh294.1 tb1 rfl (by decide) ez316
                            have s347 := gSg.at xq321 sh294.1 tb1 rfl (by decide) ez317
                            have s348 := gSg.at xq321 sh294.1 tb2 rfl (by decide) ez318
                            have s349 := gSg.at xq321 sh294.1 tb2 rfl (by decide) ez319
                            have s350 := gSg.at xq321 sh294.1 tb2 rfl (by decide) ez320
                            have uq351 := gSg.uq xq321 uq (by decide)
                            have sS352 : gSs rT 1027 tyq321 [54002, 54003, 54004, 54005, 54006, 54007, 54008, 54010, 54011, 54012, 54013, 82000, 82001, 82002, 82003, 82004, 82005, 82006, 82007, 82008, 83000, 83001, 83002, 83003, 83004, 83005, 83006, 83007, 83008, 84000, 84001, 84002, 84003, 84004, 84005, 84006, 84007, 84008, 112999, 113999] hq321 hq321 := gSs.rf xq321.1
                            refine gz_s 1 (pc' := 232) (L' := [some (.ref x), some (.int (zi m)), some (.int (zi a)), some (.int (zi n)), some (.int (zi zq1)), some (.int (zi jn14v0)), some (.int (zi zq227)), some (.int (zi zq253)), some (.int (zi 1)), some (.int (zi zq278))]) (S' := [.int (zi (-1))]) rfl ?_
                            have hl353 : 0 ≤ hq321.2.2.2.1 co ∧ hq321.2.2.2.1 co ≤ 12288 := gJ.rowl (G := gGG) sS352.1 t330 rfl
                            have hl354 : 0 ≤ hq321.2.2.2.1 dm ∧ hq321.2.2.2.1 dm ≤ 192 := gJ.rowl (G := gGG) sS352.1 t332 rfl
                            have G355 : gSg [112, 113] [] [54002, 54003, 54004, 54005, 54006, 54007, 54008, 54010, 54011, 54012, 54013, 82000, 82001, 82002, 82003, 82004, 82005, 82006, 82007, 82008, 83000, 83001, 83002, 83003, 83004, 83005, 83006, 83007, 83008, 84000, 84001, 84002, 84003, 84004, 84005, 84006, 84007, 84008, 112999, 113999] ty h tyq321 hq321 := gSg.ss G322 sS352 (by decide)
                            exact gz_end (I := .ireturn) (len := 1) rfl (Or.inl rfl) ⟨tyq321, G355, (-1), fq321_0, xq321_0, rfl, (by omega), (by omega), efq321_0, (by omega), (by omega), (by omega), (by omega), (by dsimp only; omega), (by dsimp only; omega), (by omega), yq321_0⟩
                          · refine gy_icF rfl (by decide) (by decide) (by omega) (by omega) hc293 ?_
                            refine gz_s 2 (pc' := 215) (L' := [some (.ref x), some (.int (zi m)), some (.int (zi a)), some (.int (zi n)), some (.int (zi zq1)), some (.int (zi jn14v0)), some (.int (zi zq227)), some (.int (zi zq253)), some (.int (zi 1)), some (.int (zi zq278))]) (S' := [.int (zi 1), .ref pic]) rfl ?_
                            refine gs_put rfl (by decide) rfl sq278 tpic rfl rfl rfl rfl (Or.inl rfl) (by decide) (by omega) (by omega) (fun h356 sh356 eh356 fh356 => ?_)
                            have s357 := (fh356 x 0 (fun q => absurd q.2 (by decide))).trans s279
                            have s358 := (fh356 x 1 (fun q => absurd q.2 (by decide))).trans s280
                            have s359 := (fh356 pic 0 (fun q => absurd q.2 (by decide))).trans s281
                            have s360 := (fh356 bn 0 (fun q => absurd (((tbn).symm.trans (congrArg ty q.1)).trans tpic) (by decide))).trans s282
                            have s361 := (fh356 bn 1 (fun q => absurd (((tbn).symm.trans (congrArg ty q.1)).trans tpic) (by decide))).trans s283
                            have s362 := (fh356 bn 2 (fun q => absurd (((tbn).symm.trans (congrArg ty q.1)).trans tpic) (by decide))).trans s284
                            have s363 := (fh356 pic 2 (fun q => absurd q.2 (by decide))).trans s285
                            have s364 := (fh356 pic 3 (fun q => absurd q.2 (by decide))).trans s286
                            have s365 := (fh356 src 1 (fun q => absurd q.2 (by decide))).trans s287
                            have s366 := (fh356 pic 7 (fun q => absurd q.2 (by decide))).trans s288
                            have s367 := (fh356 pic 8 (fun q => absurd q.2 (by decide))).trans s289
                            have s368 := (fh356 pic 5 (fun q => absurd q.2 (by decide))).trans s290
                            have s369 := (fh356 b0 1 (fun q => absurd q.2 (by decide))).trans efq278_0
                            have s370 := (fh356 b0 2 (fun q => absurd q.2 (by decide))).trans efq278_1
                            have s371 := (fh356 b0 3 (fun q => absurd q.2 (by decide))).trans efq278_2
                            refine gz_s 1 (pc' := 219) (L' := [some (.ref x), some (.int (zi m)), some (.int (zi a)), some (.int (zi n)), some (.int (zi zq1)), some (.int (zi jn14v0)), some (.int (zi zq227)), some (.int (zi zq253)), some (.int (zi 1)), some (.int (zi zq278))]) (S' := [.ref x]) rfl ?_
                            refine gs_gtk rfl (by decide) rfl sh356.1 tx rfl rfl s358 ?_
                            refine gz_s 3 (pc' := 228) (L' := [some (.ref x), some (.int (zi m)), some (.int (zi a)), some (.int (zi n)), some (.int (zi zq1)), some (.int (zi jn14v0)), some (.int (zi zq227)), some (.int (zi zq253)), some (.int (zi 1)), some (.int (zi zq278))]) (S' := [.int (zi zq1), .int (zi zq227), .int (zi zq253), .ref pic]) rfl ?_
                            have k372 := sh356.2.1
                            have k372b := sh356.2.2.1
                            have hl373 : h356.2.2.2.1 co = h.2.2.2.1 co := congrFun sh356.2.2.2.2.1 co
                            have hl374 : h356.2.2.2.1 dm = h.2.2.2.1 dm := congrFun sh356.2.2.2.2.1 dm
                            have hl375 : h356.2.2.2.1 co = h.2.2.2.1 co := congrFun sh356.2.2.2.2.1 co
                            have hl376 : h356.2.2.2.1 dm = h.2.2.2.1 dm := congrFun sh356.2.2.2.2.1 dm
                            obtain ⟨z377, ez377, az377, bz377⟩ := gJ.int (k := 1) (G := gGG) sh356.1 tb1 rfl rfl rfl
                            obtain ⟨z378, ez378, az378, bz378⟩ := gJ.int (k := 2) (G := gGG) sh356.1 tb1 rfl rfl rfl
                            obtain ⟨z379, ez379, az379, bz379⟩ := gJ.int (k := 3) (G := gGG) sh356.1 tb1 rfl rfl rfl
                            obtain ⟨z380, ez380, az380, bz380⟩ := gJ.int (k := 1) (G := gGG) sh356.1 tb2 rfl rfl rfl
                            obtain ⟨z381, ez381, az381, bz381⟩ := gJ.int (k := 2) (G := gGG) sh356.1 tb2 rfl rfl rfl
                            obtain ⟨z382, ez382, az382, bz382⟩ := gJ.int (k := 3) (G := gGG) sh356.1 tb2 rfl rfl rfl
                            refine gz_call rfl (by decide) rfl (by decide) (by decide) (gcal_of rfl rfl rfl (Nat.le_of_ble_eq_true rfl) (gJ.recv (G := gGG) sh356.1 tpic rfl rfl)) (cl_Picture_begin _ sh356.1 pic tpic zq253 (by omega) zq227 (by omega) zq1 (by omega) bn s359 tbn b0 s360 tb0 b1 s361 tb1 b2 s362 tb2 co s363 tco dm s364 tdm fq278_0 s369 (by omega) fq278_1 s370 (by omega) fq278_2 s371 (by omega) z377 ez377 (by omega) z378 ez378 (by omega) z379 ez379 (by omega) z380 ez380 (by omega) z381 ez381 (by omega) z382 ez382 (by omega) (by omega) (by omega) (by omega) (by omega) (by omega) uq) (fun q383 _ wq383 => ?_)
                            obtain ⟨pq383, oq383, hq383⟩ := q383
                            obtain ⟨tyq383, xq383, fq383_0, xq383_0, gq383, efq383_0, afq383_0, bfq383_0, axq383_0, bxq383_0, uq383_0, uq383_1, uq383_2, uq383_3, yq383_0⟩ := wq383
                            dsimp only at uq383_1 uq383_2
                            refine ⟨_, gq383, ?_⟩
                            show gz gPP gGG gcn _ _ 231 [some (.ref x), some (.int (zi m)), some (.int (zi a)), some (.int (zi n)), some (.int (zi zq1)), some (.int (zi jn14v0)), some (.int (zi zq227)), some (.int (zi zq253)), some (.int (zi 1)), some (.int (zi zq278))] [] hq383 _
                            have G384 : gSg [112, 113] [] [54002, 54003, 54004, 54005, 54006, 54007, 54008, 54010, 54011, 54012, 54013, 82000, 82001, 82002, 82003, 82004, 82005, 82006, 82007, 82008, 83000, 83001, 83002, 83003, 83004, 83005, 83006, 83007, 83008, 84000, 84001, 84002, 84003, 84004, 84005, 84006, 84007, 84008, 112999, 113999] ty h tyq383 hq383 := gSg.tr (gSg.ss G0 sh356 (by decide)) xq383 (by decide) (by decide) (fun x hx => by cases hx)
                            have t385 : tyq383 x = 65 := gSg.typ xq383 sh356.1 tx rfl
                            have t386 : tyq383 src = 51 := gSg.typ xq383 sh356.1 tsrc rfl
                            have t387 : tyq383 pic = 54 := gSg.typ xq383 sh356.1 tpic rfl
                            have t388 : tyq383 bn = 57 := gSg.typ xq383 sh356.1 tbn rfl
                            have t389 : tyq383 b0 = 82 := gSg.typ xq383 sh356.1 tb0 rfl
                            have t390 : tyq383 b1 = 83 := gSg.typ xq383 sh356.1 tb1 rfl
                            have t391 : tyq383 b2 = 84 := gSg.typ xq383 sh356.1 tb2 rfl
                            have t392 : tyq383 co = 112 := gSg.typ xq383 sh356.1 tco rfl
                            have hl393 : hq383.2.2.2.1 co = h356.2.2.2.1 co := gSg.len xq383 sh356.1 tco rfl
                            have t394 : tyq383 dm = 113 := gSg.typ xq383 sh356.1 tdm rfl
                            have hl395 : hq383.2.2.2.1 dm = h356.2.2.2.1 dm := gSg.len xq383 sh356.1 tdm rfl
                            have s396 := gSg.at xq383 sh356.1 tx rfl (by decide) s357
                            have s397 := gSg.at xq383 sh356.1 tx rfl (by decide) s358
                            have s398 := gSg.at xq383 sh356.1 tpic rfl (by decide) s359
                            have s399 := gSg.at xq383 sh356.1 tbn rfl (by decide) s360
                            have s400 := gSg.at xq383 sh356.1 tbn rfl (by decide) s361
                            have s401 := gSg.at xq383 sh356.1 tbn rfl (by decide) s362
                            have s402 := gSg.at xq383 sh356.1 tsrc rfl (by decide) s365
                            have s403 := gSg.at xq383 sh356.1 tb0 rfl (by decide) s369
                            have s404 := gSg.at xq383 sh356.1 tb0 rfl (by decide) s370
                            have s405 := gSg.at xq383 sh356.1 tb0 rfl (by decide) s371
                            have s406 := gSg.at xq383 sh356.1 tpic rfl (by decide) eh356
                            have s407 := gSg.at xq383 sh356.1 tb1 rfl (by decide) ez377
                            have s408 := gSg.at xq383 sh356.1 tb1 rfl (by decide) ez378
                            have s409 := gSg.at xq383 sh356.1 tb1 rfl (by decide) ez379
                            have s410 := gSg.at xq383 sh356.1 tb2 rfl (by decide) ez380
                            have s411 := gSg.at xq383 sh356.1 tb2 rfl (by decide) ez381
                            have s412 := gSg.at xq383 sh356.1 tb2 rfl (by decide) ez382
                            have uq413 := gSg.uq xq383 uq (by decide)
                            have sS414 : gSs rT 1027 tyq383 [54002, 54003, 54004, 54005, 54006, 54007, 54008, 54010, 54011, 54012, 54013, 82000, 82001, 82002, 82003, 82004, 82005, 82006, 82007, 82008, 83000, 83001, 83002, 83003, 83004, 83005, 83006, 83007, 83008, 84000, 84001, 84002, 84003, 84004, 84005, 84006, 84007, 84008, 112999, 113999] hq383 hq383 := gSs.rf xq383.1
                            refine gz_s 1 (pc' := 232) (L' := [some (.ref x), some (.int (zi m)), some (.int (zi a)), some (.int (zi n)), some (.int (zi zq1)), some (.int (zi jn14v0)), some (.int (zi zq227)), some (.int (zi zq253)), some (.int (zi 1)), some (.int (zi zq278))]) (S' := [.int (zi (-1))]) rfl ?_
                            have hl415 : 0 ≤ hq383.2.2.2.1 co ∧ hq383.2.2.2.1 co ≤ 12288 := gJ.rowl (G := gGG) sS414.1 t392 rfl
                            have hl416 : 0 ≤ hq383.2.2.2.1 dm ∧ hq383.2.2.2.1 dm ≤ 192 := gJ.rowl (G := gGG) sS414.1 t394 rfl
                            have G417 : gSg [112, 113] [] [54002, 54003, 54004, 54005, 54006, 54007, 54008, 54010, 54011, 54012, 54013, 82000, 82001, 82002, 82003, 82004, 82005, 82006, 82007, 82008, 83000, 83001, 83002, 83003, 83004, 83005, 83006, 83007, 83008, 84000, 84001, 84002, 84003, 84004, 84005, 84006, 84007, 84008, 112999, 113999] ty h tyq383 hq383 := gSg.ss G384 sS414 (by decide)
                            exact gz_end (I := .ireturn) (len := 1) rfl (Or.inl rfl) ⟨tyq383, G417, (-1), fq383_0, xq383_0, rfl, (by omega), (by omega), efq383_0, (by omega), (by omega), (by omega), (by omega), (by dsimp only; omega), (by dsimp only; omega), (by omega), yq383_0⟩
                        · refine gy_icF rfl (by decide) (by decide) (by omega) (by omega) hc292 ?_
                          refine gy_s 9 (pc' := 179) (L' := [some (.ref x), some (.int (zi m)), some (.int (zi a)), some (.int (zi n)), some (.int (zi zq1)), some (.int (zi jn14v0)), some (.int (zi zq227)), some (.int (zi zq253)), some (.int (zi 1)), some (.int (zi zq278))]) (S' := [.int (((zi a) + (zi 8)) + ((zi 3) * (zi 1))), .int (zi 1), .ref x]) (L2 := [some (.ref x), some (.int (zi m)), some (.int (zi a)), some (.int (zi n)), some (.int (zi zq1)), some (.int (zi jn14v0)), some (.int (zi zq227)), some (.int (zi zq253)), some (.int (zi 1)), some (.int (zi zq278))]) (S2 := [.int (zi ((a + 8) + 3)), .int (zi 1), .ref x]) rfl (by simp only [zi_add, zi_sub, zi_mul, zi_neg, zi_and1, zi_and7, zi_and15, zi_and31, zi_and255, Int.reduceAdd, Int.reduceMul, Int.reduceSub]) (by simp only [zi_add, zi_sub, zi_mul, zi_neg, zi_and1, zi_and7, zi_and15, zi_and31, zi_and255, Int.reduceAdd, Int.reduceMul, Int.reduceSub]) ?_
                          refine gz_call rfl (by decide) rfl (by decide) (by decide) (gcal_of rfl rfl rfl (Nat.le_of_ble_eq_true rfl) (gJ.recv (G := gGG) sq278.1 tx rfl rfl)) (cl_readBand1 _ sq278.1 x tx 1 (by omega) ((a + 8) + 3) (by omega) src s279 tsrc pic s280 tpic bn s281 tbn b0 s282 tb0 b1 s283 tb1 sz s287 (by omega) uq) (fun q418 _ wq418 => ?_)
                          obtain ⟨pq418, oq418, hq418⟩ := q418
                          obtain ⟨xq418, zq418, fq418_0, fq418_1, fq418_2, gq418, aq418, bq418, efq418_0, afq418_0, bfq418_0, efq418_1, afq418_1, bfq418_1, efq418_2, afq418_2, bfq418_2, uq418_0⟩ := wq418
                          refine ⟨_, gq418, ?_⟩
                          show gz gPP gGG gcn _ _ 182 [some (.ref x), some (.int (zi m)), some (.int (zi a)), some (.int (zi n)), some (.int (zi zq1)), some (.int (zi jn14v0)), some (.int (zi zq227)), some (.int (zi zq253)), some (.int (zi 1)), some (.int (zi zq278))] [.int (zi zq418)] hq418 _
                          have sq418 : gSs rT 1027 ty [54002, 54003, 54004, 54005, 54006, 54007, 54008, 54010, 54011, 54012, 54013, 82000, 82001, 82002, 82003, 82004, 82005, 82006, 82007, 82008, 83000, 83001, 83002, 83003, 83004, 83005, 83006, 83007, 83008, 84000, 84001, 84002, 84003, 84004, 84005, 84006, 84007, 84008, 112999, 113999] h hq418 := gSs.tr sq278 xq418 (by decide)
                          have s419 := (xq418.2.2.2.2.2 x 0 (by rw [tx]; decide)).trans s279
                          have s420 := (xq418.2.2.2.2.2 x 1 (by rw [tx]; decide)).trans s280
                          have s421 := (xq418.2.2.2.2.2 pic 0 (by rw [tpic]; decide)).trans s281
                          have s422 := (xq418.2.2.2.2.2 bn 0 (by rw [tbn]; decide)).trans s282
                          have s423 := (xq418.2.2.2.2.2 bn 1 (by rw [tbn]; decide)).trans s283
                          have s424 := (xq418.2.2.2.2.2 bn 2 (by rw [tbn]; decide)).trans s284
                          have s425 := (xq418.2.2.2.2.2 pic 2 (by rw [tpic]; decide)).trans s285
                          have s426 := (xq418.2.2.2.2.2 pic 3 (by rw [tpic]; decide)).trans s286
                          have s427 := (xq418.2.2.2.2.2 src 1 (by rw [tsrc]; decide)).trans s287
                          have s428 := (xq418.2.2.2.2.2 pic 7 (by rw [tpic]; decide)).trans s288
                          have s429 := (xq418.2.2.2.2.2 pic 8 (by rw [tpic]; decide)).trans s289
                          have s430 := (xq418.2.2.2.2.2 pic 5 (by rw [tpic]; decide)).trans s290
                          have s431 := (xq418.2.2.2.2.2 b0 1 (by rw [tb0]; decide)).trans efq278_0
                          have s432 := (xq418.2.2.2.2.2 b0 2 (by rw [tb0]; decide)).trans efq278_1
                          have s433 := (xq418.2.2.2.2.2 b0 3 (by rw [tb0]; decide)).trans efq278_2
                          refine gz_s 3 (pc' := 187) (L' := [some (.ref x), some (.int (zi m)), some (.int (zi a)), some (.int (zi n)), some (.int (zi zq1)), some (.int (zi jn14v0)), some (.int (zi zq227)), some (.int (zi zq253)), some (.int (zi 1)), some (.int (zi zq418))]) (S' := [.int (zi (-1)), .int (zi zq418)]) rfl ?_
                          by_cases hc434 : (zq418 : Int) = (-1)
                          · refine gy_icT (pc' := 193) rfl (by decide) (by decide) (by omega) (by omega) hc434 ?_
                            refine gy_s 4 (pc' := 164) (L' := [some (.ref x), some (.int (zi m)), some (.int (zi a)), some (.int (zi n)), some (.int (zi zq1)), some (.int (zi jn14v0)), some (.int (zi zq227)), some (.int (zi zq253)), some (.int ((zi 1) + zi 1)), some (.int (zi zq418))]) (S' := [.int (zi zq1), .int ((zi 1) + zi 1)]) (L2 := [some (.ref x), some (.int (zi m)), some (.int (zi a)), some (.int (zi n)), some (.int (zi zq1)), some (.int (zi jn14v0)), some (.int (zi zq227)), some (.int (zi zq253)), some (.int (zi 2)), some (.int (zi zq418))]) (S2 := [.int (zi zq1), .int (zi 2)]) rfl (by simp only [zi_add, zi_sub, zi_mul, zi_neg, zi_and1, zi_and7, zi_and15, zi_and31, zi_and255, Int.reduceAdd, Int.reduceMul, Int.reduceSub]) (by simp only [zi_add, zi_sub, zi_mul, zi_neg, zi_and1, zi_and7, zi_and15, zi_and31, zi_and255, Int.reduceAdd, Int.reduceMul, Int.reduceSub]) ?_
                            by_cases hc435 : (zq1 : Int) ≤ 2
                            · refine gy_icT (pc' := 199) rfl (by decide) (by decide) (by omega) (by omega) hc435 ?_
                              refine gz_s 1 (pc' := 200) (L' := [some (.ref x), some (.int (zi m)), some (.int (zi a)), some (.int (zi n)), some (.int (zi zq1)), some (.int (zi jn14v0)), some (.int (zi zq227)), some (.int (zi zq253)), some (.int (zi 2)), some (.int (zi zq418))]) (S' := [.ref x]) rfl ?_
                              refine gs_gtk rfl (by decide) rfl sq418.1 tx rfl rfl s420 ?_
                              refine gz_s 2 (pc' := 207) (L' := [some (.ref x), some (.int (zi m)), some (.int (zi a)), some (.int (zi n)), some (.int (zi zq1)), some (.int (zi jn14v0)), some (.int (zi zq227)), some (.int (zi zq253)), some (.int (zi 2)), some (.int (zi zq418))]) (S' := [.int (zi 194), .int (zi m), .ref pic]) rfl ?_
                              by_cases hc436 : ¬ (m : Int) = 194
                              · refine gy_icT (pc' := 214) rfl (by decide) (by decide) (by omega) (by omega) hc436 ?_
                                refine gz_s 1 (pc' := 215) (L' := [some (.ref x), some (.int (zi m)), some (.int (zi a)), some (.int (zi n)), some (.int (zi zq1)), some (.int (zi jn14v0)), some (.int (zi zq227)), some (.int (zi zq253)), some (.int (zi 2)), some (.int (zi zq418))]) (S' := [.int (zi 0), .ref pic]) rfl ?_
                                refine gs_put rfl (by decide) rfl sq418 tpic rfl rfl rfl rfl (Or.inl rfl) (by decide) (by omega) (by omega) (fun h437 sh437 eh437 fh437 => ?_)
                                have s438 := (fh437 x 0 (fun q => absurd q.2 (by decide))).trans s419
                                have s439 := (fh437 x 1 (fun q => absurd q.2 (by decide))).trans s420
                                have s440 := (fh437 pic 0 (fun q => absurd q.2 (by decide))).trans s421
                                have s441 := (fh437 bn 0 (fun q => absurd (((tbn).symm.trans (congrArg ty q.1)).trans tpic) (by decide))).trans s422
                                have s442 := (fh437 bn 1 (fun q => absurd (((tbn).symm.trans (congrArg ty q.1)).trans tpic) (by decide))).trans s423
                                have s443 := (fh437 bn 2 (fun q => absurd (((tbn).symm.trans (congrArg ty q.1)).trans tpic) (by decide))).trans s424
                                have s444 := (fh437 pic 2 (fun q => absurd q.2 (by decide))).trans s425
                                have s445 := (fh437 pic 3 (fun q => absurd q.2 (by decide))).trans s426
                                have s446 := (fh437 src 1 (fun q => absurd q.2 (by decide))).trans s427
                                have s447 := (fh437 pic 7 (fun q => absurd q.2 (by decide))).trans s428
                                have s448 := (fh437 pic 8 (fun q => absurd q.2 (by decide))).trans s429
                                have s449 := (fh437 pic 5 (fun q => absurd q.2 (by decide))).trans s430
                                have s450 := (fh437 b0 1 (fun q => absurd q.2 (by decide))).trans s431
                                have s451 := (fh437 b0 2 (fun q => absurd q.2 (by decide))).trans s432
                                have s452 := (fh437 b0 3 (fun q => absurd q.2 (by decide))).trans s433
                                have s453 := (fh437 b1 1 (fun q => absurd q.2 (by decide))).trans efq418_0
                                have s454 := (fh437 b1 2 (fun q => absurd q.2 (by decide))).trans efq418_1
                                have s455 := (fh437 b1 3 (fun q => absurd q.2 (by decide))).trans efq418_2
                                refine gz_s 1 (pc' := 219) (L' := [some (.ref x), some (.int (zi m)), some (.int (zi a)), some (.int (zi n)), some (.int (zi zq1)), some (.int (zi jn14v0)), some (.int (zi zq227)), some (.int (zi zq253)), some (.int (zi 2)), some (.int (zi zq418))]) (S' := [.ref x]) rfl ?_
                                refine gs_gtk rfl (by decide) rfl sh437.1 tx rfl rfl s439 ?_
                                refine gz_s 3 (pc' := 228) (L' := [some (.ref x), some (.int (zi m)), some (.int (zi a)), some (.int (zi n)), some (.int (zi zq1)), some (.int (zi jn14v0)), some (.int (zi zq227)), some (.int (zi zq253)), some (.int (zi 2)), some (.int (zi zq418))]) (S' := [.int (zi zq1), .int (zi zq227), .int (zi zq253), .ref pic]) rfl ?_
                                have k456 := sh437.2.1
                                have k456b := sh437.2.2.1
                                have hl457 : h437.2.2.2.1 co = h.2.2.2.1 co := congrFun sh437.2.2.2.2.1 co
                                have hl458 : h437.2.2.2.1 dm = h.2.2.2.1 dm := congrFun sh437.2.2.2.2.1 dm
                                have hl459 : h437.2.2.2.1 co = h.2.2.2.1 co := congrFun sh437.2.2.2.2.1 co
                                have hl460 : h437.2.2.2.1 dm = h.2.2.2.1 dm := congrFun sh437.2.2.2.2.1 dm
                                obtain ⟨z461, ez461, az461, bz461⟩ := gJ.int (k := 1) (G := gGG) sh437.1 tb2 rfl rfl rfl
                                obtain ⟨z462, ez462, az462, bz462⟩ := gJ.int (k := 2) (G := gGG) sh437.1 tb2 rfl rfl rfl
                                obtain ⟨z463, ez463, az463, bz463⟩ := gJ.int (k := 3) (G := gGG) sh437.1 tb2 rfl rfl rfl
                                refine gz_call rfl (by decide) rfl (by decide) (by decide) (gcal_of rfl rfl rfl (Nat.le_of_ble_eq_true rfl) (gJ.recv (G := gGG) sh437.1 tpic rfl rfl)) (cl_Picture_begin _ sh437.1 pic tpic zq253 (by omega) zq227 (by omega) zq1 (by omega) bn s440 tbn b0 s441 tb0 b1 s442 tb1 b2 s443 tb2 co s444 tco dm s445 tdm fq278_0 s450 (by omega) fq278_1 s451 (by omega) fq278_2 s452 (by omega) fq418_0 s453 (by omega) fq418_1 s454 (by omega) fq418_2 s455 (by omega) z461 ez461 (by omega) z462 ez462 (by omega) z463 ez463 (by omega) (by omega) (by omega) (by omega) (by omega) (by omega) uq) (fun q464 _ wq464 => ?_)
                                obtain ⟨pq464, oq464, hq464⟩ := q464
                                obtain ⟨tyq464, xq464, fq464_0, xq464_0, gq464, efq464_0, afq464_0, bfq464_0, axq464_0, bxq464_0, uq464_0, uq464_1, uq464_2, uq464_3, yq464_0⟩ := wq464
                                dsimp only at uq464_1 uq464_2
                                refine ⟨_, gq464, ?_⟩
                                show gz gPP gGG gcn _ _ 231 [some (.ref x), some (.int (zi m)), some (.int (zi a)), some (.int (zi n)), some (.int (zi zq1)), some (.int (zi jn14v0)), some (.int (zi zq227)), some (.int (zi zq253)), some (.int (zi 2)), some (.int (zi zq418))] [] hq464 _
                                have G465 : gSg [112, 113] [] [54002, 54003, 54004, 54005, 54006, 54007, 54008, 54010, 54011, 54012, 54013, 82000, 82001, 82002, 82003, 82004, 82005, 82006, 82007, 82008, 83000, 83001, 83002, 83003, 83004, 83005, 83006, 83007, 83008, 84000, 84001, 84002, 84003, 84004, 84005, 84006, 84007, 84008, 112999, 113999] ty h tyq464 hq464 := gSg.tr (gSg.ss G0 sh437 (by decide)) xq464 (by decide) (by decide) (fun x hx => by cases hx)
                                have t466 : tyq464 x = 65 := gSg.typ xq464 sh437.1 tx rfl
                                have t467 : tyq464 src = 51 := gSg.typ xq464 sh437.1 tsrc rfl
                                have t468 : tyq464 pic = 54 := gSg.typ xq464 sh437.1 tpic rfl
                                have t469 : tyq464 bn = 57 := gSg.typ xq464 sh437.1 tbn rfl
                                have t470 : tyq464 b0 = 82 := gSg.typ xq464 sh437.1 tb0 rfl
                                have t471 : tyq464 b1 = 83 := gSg.typ xq464 sh437.1 tb1 rfl
                                have t472 : tyq464 b2 = 84 := gSg.typ xq464 sh437.1 tb2 rfl
                                have t473 : tyq464 co = 112 := gSg.typ xq464 sh437.1 tco rfl
                                have hl474 : hq464.2.2.2.1 co = h437.2.2.2.1 co := gSg.len xq464 sh437.1 tco rfl
                                have t475 : tyq464 dm = 113 := gSg.typ xq464 sh437.1 tdm rfl
                                have hl476 : hq464.2.2.2.1 dm = h437.2.2.2.1 dm := gSg.len xq464 sh437.1 tdm rfl
                                have s477 := gSg.at xq464 sh437.1 tx rfl (by decide) s438
                                have s478 := gSg.at xq464 sh437.1 tx rfl (by decide) s439
                                have s479 := gSg.at xq464 sh437.1 tpic rfl (by decide) s440
                                have s480 := gSg.at xq464 sh437.1 tbn rfl (by decide) s441
                                have s481 := gSg.at xq464 sh437.1 tbn rfl (by decide) s442
                                have s482 := gSg.at xq464 sh437.1 tbn rfl (by decide) s443
                                have s483 := gSg.at xq464 sh437.1 tsrc rfl (by decide) s446
                                have s484 := gSg.at xq464 sh437.1 tb0 rfl (by decide) s450
                                have s485 := gSg.at xq464 sh437.1 tb0 rfl (by decide) s451
                                have s486 := gSg.at xq464 sh437.1 tb0 rfl (by decide) s452
                                have s487 := gSg.at xq464 sh437.1 tb1 rfl (by decide) s453
                                have s488 := gSg.at xq464 sh437.1 tb1 rfl (by decide) s454
                                have s489 := gSg.at xq464 sh437.1 tb1 rfl (by decide) s455
                                have s490 := gSg.at xq464 sh437.1 tpic rfl (by decide) eh437
                                have s491 := gSg.at xq464 sh437.1 tb2 rfl (by decide) ez461
                                have s492 := gSg.at xq464 sh437.1 tb2 rfl (by decide) ez462
                                have s493 := gSg.at xq464 sh437.1 tb2 rfl (by decide) ez463
                                have uq494 := gSg.uq xq464 uq (by decide)
                                have sS495 : gSs rT 1027 tyq464 [54002, 54003, 54004, 54005, 54006, 54007, 54008, 54010, 54011, 54012, 54013, 82000, 82001, 82002, 82003, 82004, 82005, 82006, 82007, 82008, 83000, 83001, 83002, 83003, 83004, 83005, 83006, 83007, 83008, 84000, 84001, 84002, 84003, 84004, 84005, 84006, 84007, 84008, 112999, 113999] hq464 hq464 := gSs.rf xq464.1
                                refine gz_s 1 (pc' := 232) (L' := [some (.ref x), some (.int (zi m)), some (.int (zi a)), some (.int (zi n)), some (.int (zi zq1)), some (.int (zi jn14v0)), some (.int (zi zq227)), some (.int (zi zq253)), some (.int (zi 2)), some (.int (zi zq418))]) (S' := [.int (zi (-1))]) rfl ?_
                                have hl496 : 0 ≤ hq464.2.2.2.1 co ∧ hq464.2.2.2.1 co ≤ 12288 := gJ.rowl (G := gGG) sS495.1 t473 rfl
                                have hl497 : 0 ≤ hq464.2.2.2.1 dm ∧ hq464.2.2.2.1 dm ≤ 192 := gJ.rowl (G := gGG) sS495.1 t475 rfl
                                have G498 : gSg [112, 113] [] [54002, 54003, 54004, 54005, 54006, 54007, 54008, 54010, 54011, 54012, 54013, 82000, 82001, 82002, 82003, 82004, 82005, 82006, 82007, 82008, 83000, 83001, 83002, 83003, 83004, 83005, 83006, 83007, 83008, 84000, 84001, 84002, 84003, 84004, 84005, 84006, 84007, 84008, 112999, 113999] ty h tyq464 hq464 := gSg.ss G465 sS495 (by decide)
                                exact gz_end (I := .ireturn) (len := 1) rfl (Or.inl rfl) ⟨tyq464, G498, (-1), fq464_0, xq464_0, rfl, (by omega), (by omega), efq464_0, (by omega), (by omega), (by omega), (by omega), (by dsimp only; omega), (by dsimp only; omega), (by omega), yq464_0⟩
                              · refine gy_icF rfl (by decide) (by decide) (by omega) (by omega) hc436 ?_
                                refine gz_s 2 (pc' := 215) (L' := [some (.ref x), some (.int (zi m)), some (.int (zi a)), some (.int (zi n)), some (.int (zi zq1)), some (.int (zi jn14v0)), some (.int (zi zq227)), some (.int (zi zq253)), some (.int (zi 2)), some (.int (zi zq418))]) (S' := [.int (zi 1), .ref pic]) rfl ?_
                                refine gs_put rfl (by decide) rfl sq418 tpic rfl rfl rfl rfl (Or.inl rfl) (by decide) (by omega) (by omega) (fun h499 sh499 eh499 fh499 => ?_)
                                have s500 := (fh499 x 0 (fun q => absurd q.2 (by decide))).trans s419
                                have s501 := (fh499 x 1 (fun q => absurd q.2 (by decide))).trans s420
                                have s502 := (fh499 pic 0 (fun q => absurd q.2 (by decide))).trans s421
                                have s503 := (fh499 bn 0 (fun q => absurd (((tbn).symm.trans (congrArg ty q.1)).trans tpic) (by decide))).trans s422
                                have s504 := (fh499 bn 1 (fun q => absurd (((tbn).symm.trans (congrArg ty q.1)).trans tpic) (by decide))).trans s423
                                have s505 := (fh499 bn 2 (fun q => absurd (((tbn).symm.trans (congrArg ty q.1)).trans tpic) (by decide))).trans s424
                                have s506 := (fh499 pic 2 (fun q => absurd q.2 (by decide))).trans s425
                                have s507 := (fh499 pic 3 (fun q => absurd q.2 (by decide))).trans s426
                                have s508 := (fh499 src 1 (fun q => absurd q.2 (by decide))).trans s427
                                have s509 := (fh499 pic 7 (fun q => absurd q.2 (by decide))).trans s428
                                have s510 := (fh499 pic 8 (fun q => absurd q.2 (by decide))).trans s429
                                have s511 := (fh499 pic 5 (fun q => absurd q.2 (by decide))).trans s430
                                have s512 := (fh499 b0 1 (fun q => absurd q.2 (by decide))).trans s431
                                have s513 := (fh499 b0 2 (fun q => absurd q.2 (by decide))).trans s432
                                have s514 := (fh499 b0 3 (fun q => absurd q.2 (by decide))).trans s433
                                have s515 := (fh499 b1 1 (fun q => absurd q.2 (by decide))).trans efq418_0
                                have s516 := (fh499 b1 2 (fun q => absurd q.2 (by decide))).trans efq418_1
                                have s517 := (fh499 b1 3 (fun q => absurd q.2 (by decide))).trans efq418_2
                                refine gz_s 1 (pc' := 219) (L' := [some (.ref x), some (.int (zi m)), some (.int (zi a)), some (.int (zi n)), some (.int (zi zq1)), some (.int (zi jn14v0)), some (.int (zi zq227)), some (.int (zi zq253)), some (.int (zi 2)), some (.int (zi zq418))]) (S' := [.ref x]) rfl ?_
                                refine gs_gtk rfl (by decide) rfl sh499.1 tx rfl rfl s501 ?_
                                refine gz_s 3 (pc' := 228) (L' := [some (.ref x), some (.int (zi m)), some (.int (zi a)), some (.int (zi n)), some (.int (zi zq1)), some (.int (zi jn14v0)), some (.int (zi zq227)), some (.int (zi zq253)), some (.int (zi 2)), some (.int (zi zq418))]) (S' := [.int (zi zq1), .int (zi zq227), .int (zi zq253), .ref pic]) rfl ?_
                                have k518 := sh499.2.1
                                have k518b := sh499.2.2.1
                                have hl519 : h499.2.2.2.1 co = h.2.2.2.1 co := congrFun sh499.2.2.2.2.1 co
                                have hl520 : h499.2.2.2.1 dm = h.2.2.2.1 dm := congrFun sh499.2.2.2.2.1 dm
                                have hl521 : h499.2.2.2.1 co = h.2.2.2.1 co := congrFun sh499.2.2.2.2.1 co
                                have hl522 : h499.2.2.2.1 dm = h.2.2.2.1 dm := congrFun sh499.2.2.2.2.1 dm
                                obtain ⟨z523, ez523, az523, bz523⟩ := gJ.int (k := 1) (G := gGG) sh499.1 tb2 rfl rfl rfl
                                obtain ⟨z524, ez524, az524, bz524⟩ := gJ.int (k := 2) (G := gGG) sh499.1 tb2 rfl rfl rfl
                                obtain ⟨z525, ez525, az525, bz525⟩ := gJ.int (k := 3) (G := gGG) sh499.1 tb2 rfl rfl rfl
                                refine gz_call rfl (by decide) rfl (by decide) (by decide) (gcal_of rfl rfl rfl (Nat.le_of_ble_eq_true rfl) (gJ.recv (G := gGG) sh499.1 tpic rfl rfl)) (cl_Picture_begin _ sh499.1 pic tpic zq253 (by omega) zq227 (by omega) zq1 (by omega) bn s502 tbn b0 s503 tb0 b1 s504 tb1 b2 s505 tb2 co s506 tco dm s507 tdm fq278_0 s512 (by omega) fq278_1 s513 (by omega) fq278_2 s514 (by omega) fq418_0 s515 (by omega) fq418_1 s516 (by omega) fq418_2 s517 (by omega) z523 ez523 (by omega) z524 ez524 (by omega) z525 ez525 (by omega) (by omega) (by omega) (by omega) (by omega) (by omega) uq) (fun q526 _ wq526 => ?_)
                                obtain ⟨pq526, oq526, hq526⟩ := q526
                                obtain ⟨tyq526, xq526, fq526_0, xq526_0, gq526, efq526_0, afq526_0, bfq526_0, axq526_0, bxq526_0, uq526_0, uq526_1, uq526_2, uq526_3, yq526_0⟩ := wq526
                                dsimp only at uq526_1 uq526_2
                                refine ⟨_, gq526, ?_⟩
                                show gz gPP gGG gcn _ _ 231 [some (.ref x), some (.int (zi m)), some (.int (zi a)), some (.int (zi n)), some (.int (zi zq1)), some (.int (zi jn14v0)), some (.int (zi zq227)), some (.int (zi zq253)), some (.int (zi 2)), some (.int (zi zq418))] [] hq526 _
                                have G527 : gSg [112, 113] [] [54002, 54003, 54004, 54005, 54006, 54007, 54008, 54010, 54011, 54012, 54013, 82000, 82001, 82002, 82003, 82004, 82005, 82006, 82007, 82008, 83000, 83001, 83002, 83003, 83004, 83005, 83006, 83007, 83008, 84000, 84001, 84002, 84003, 84004, 84005, 84006, 84007, 84008, 112999, 113999] ty h tyq526 hq526 := gSg.tr (gSg.ss G0 sh499 (by decide)) xq526 (by decide) (by decide) (fun x hx => by cases hx)
                                have t528 : tyq526 x = 65 := gSg.typ xq526 sh499.1 tx rfl
                                have t529 : tyq526 src = 51 := gSg.typ xq526 sh499.1 tsrc rfl
                                have t530 : tyq526 pic = 54 := gSg.typ xq526 sh499.1 tpic rfl
                                have t531 : tyq526 bn = 57 := gSg.typ xq526 sh499.1 tbn rfl
                                have t532 : tyq526 b0 = 82 := gSg.typ xq526 sh499.1 tb0 rfl
                                have t533 : tyq526 b1 = 83 := gSg.typ xq526 sh499.1 tb1 rfl
                                have t534 : tyq526 b2 = 84 := gSg.typ xq526 sh499.1 tb2 rfl
                                have t535 : tyq526 co = 112 := gSg.typ xq526 sh499.1 tco rfl
                                have hl536 : hq526.2.2.2.1 co = h499.2.2.2.1 co := gSg.len xq526 sh499.1 tco rfl
                                have t537 : tyq526 dm = 113 := gSg.typ xq526 sh499.1 tdm rfl
                                have hl538 : hq526.2.2.2.1 dm = h499.2.2.2.1 dm := gSg.len xq526 sh499.1 tdm rfl
                                have s539 := gSg.at xq526 sh499.1 tx rfl (by decide) s500
                                have s540 := gSg.at xq526 sh499.1 tx rfl (by decide) s501
                                have s541 := gSg.at xq526 sh499.1 tpic rfl (by decide) s502
                                have s542 := gSg.at xq526 sh499.1 tbn rfl (by decide) s503
                                have s543 := gSg.at xq526 sh499.1 tbn rfl (by decide) s504
                                have s544 := gSg.at xq526 sh499.1 tbn rfl (by decide) s505
                                have s545 := gSg.at xq526 sh499.1 tsrc rfl (by decide) s508
                                have s546 := gSg.at xq526 sh499.1 tb0 rfl (by decide) s512
                                have s547 := gSg.at xq526 sh499.1 tb0 rfl (by decide) s513
                                have s548 := gSg.at xq526 sh499.1 tb0 rfl (by decide) s514
                                have s549 := gSg.at xq526 sh499.1 tb1 rfl (by decide) s515
                                have s550 := gSg.at xq526 sh499.1 tb1 rfl (by decide) s516
                                have s551 := gSg.at xq526 sh499.1 tb1 rfl (by decide) s517
                                have s552 := gSg.at xq526 sh499.1 tpic rfl (by decide) eh499
                                have s553 := gSg.at xq526 sh499.1 tb2 rfl (by decide) ez523
                                have s554 := gSg.at xq526 sh499.1 tb2 rfl (by decide) ez524
                                have s555 := gSg.at xq526 sh499.1 tb2 rfl (by decide) ez525
                                have uq556 := gSg.uq xq526 uq (by decide)
                                have sS557 : gSs rT 1027 tyq526 [54002, 54003, 54004, 54005, 54006, 54007, 54008, 54010, 54011, 54012, 54013, 82000, 82001, 82002, 82003, 82004, 82005, 82006, 82007, 82008, 83000, 83001, 83002, 83003, 83004, 83005, 83006, 83007, 83008, 84000, 84001, 84002, 84003, 84004, 84005, 84006, 84007, 84008, 112999, 113999] hq526 hq526 := gSs.rf xq526.1
                                refine gz_s 1 (pc' := 232) (L' := [some (.ref x), some (.int (zi m)), some (.int (zi a)), some (.int (zi n)), some (.int (zi zq1)), some (.int (zi jn14v0)), some (.int (zi zq227)), some (.int (zi zq253)), some (.int (zi 2)), some (.int (zi zq418))]) (S' := [.int (zi (-1))]) rfl ?_
                                have hl558 : 0 ≤ hq526.2.2.2.1 co ∧ hq526.2.2.2.1 co ≤ 12288 := gJ.rowl (G := gGG) sS557.1 t535 rfl
                                have hl559 : 0 ≤ hq526.2.2.2.1 dm ∧ hq526.2.2.2.1 dm ≤ 192 := gJ.rowl (G := gGG) sS557.1 t537 rfl
                                have G560 : gSg [112, 113] [] [54002, 54003, 54004, 54005, 54006, 54007, 54008, 54010, 54011, 54012, 54013, 82000, 82001, 82002, 82003, 82004, 82005, 82006, 82007, 82008, 83000, 83001, 83002, 83003, 83004, 83005, 83006, 83007, 83008, 84000, 84001, 84002, 84003, 84004, 84005, 84006, 84007, 84008, 112999, 113999] ty h tyq526 hq526 := gSg.ss G527 sS557 (by decide)
                                exact gz_end (I := .ireturn) (len := 1) rfl (Or.inl rfl) ⟨tyq526, G560, (-1), fq526_0, xq526_0, rfl, (by omega), (by omega), efq526_0, (by omega), (by omega), (by omega), (by omega), (by dsimp only; omega), (by dsimp only; omega), (by omega), yq526_0⟩
                            · refine gy_icF rfl (by decide) (by decide) (by omega) (by omega) hc435 ?_
                              refine gy_s 9 (pc' := 179) (L' := [some (.ref x), some (.int (zi m)), some (.int (zi a)), some (.int (zi n)), some (.int (zi zq1)), some (.int (zi jn14v0)), some (.int (zi zq227)), some (.int (zi zq253)), some (.int (zi 2)), some (.int (zi zq418))]) (S' := [.int (((zi a) + (zi 8)) + ((zi 3) * (zi 2))), .int (zi 2), .ref x]) (L2 := [some (.ref x), some (.int (zi m)), some (.int (zi a)), some (.int (zi n)), some (.int (zi zq1)), some (.int (zi jn14v0)), some (.int (zi zq227)), some (.int (zi zq253)), some (.int (zi 2)), some (.int (zi zq418))]) (S2 := [.int (zi ((a + 8) + 6)), .int (zi 2), .ref x]) rfl (by simp only [zi_add, zi_sub, zi_mul, zi_neg, zi_and1, zi_and7, zi_and15, zi_and31, zi_and255, Int.reduceAdd, Int.reduceMul, Int.reduceSub]) (by simp only [zi_add, zi_sub, zi_mul, zi_neg, zi_and1, zi_and7, zi_and15, zi_and31, zi_and255, Int.reduceAdd, Int.reduceMul, Int.reduceSub]) ?_
                              refine gz_call rfl (by decide) rfl (by decide) (by decide) (gcal_of rfl rfl rfl (Nat.le_of_ble_eq_true rfl) (gJ.recv (G := gGG) sq418.1 tx rfl rfl)) (cl_readBand2 _ sq418.1 x tx 2 (by omega) ((a + 8) + 6) (by omega) src s419 tsrc pic s420 tpic bn s421 tbn b0 s422 tb0 b1 s423 tb1 b2 s424 tb2 sz s427 (by omega) uq) (fun q561 _ wq561 => ?_)
                              obtain ⟨pq561, oq561, hq561⟩ := q561
                              obtain ⟨xq561, zq561, fq561_0, fq561_1, fq561_2, gq561, aq561, bq561, efq561_0, afq561_0, bfq561_0, efq561_1, afq561_1, bfq561_1, efq561_2, afq561_2, bfq561_2, uq561_0⟩ := wq561
                              refine ⟨_, gq561, ?_⟩
                              show gz gPP gGG gcn _ _ 182 [some (.ref x), some (.int (zi m)), some (.int (zi a)), some (.int (zi n)), some (.int (zi zq1)), some (.int (zi jn14v0)), some (.int (zi zq227)), some (.int (zi zq253)), some (.int (zi 2)), some (.int (zi zq418))] [.int (zi zq561)] hq561 _
                              have sq561 : gSs rT 1027 ty [54002, 54003, 54004, 54005, 54006, 54007, 54008, 54010, 54011, 54012, 54013, 82000, 82001, 82002, 82003, 82004, 82005, 82006, 82007, 82008, 83000, 83001, 83002, 83003, 83004, 83005, 83006, 83007, 83008, 84000, 84001, 84002, 84003, 84004, 84005, 84006, 84007, 84008, 112999, 113999] h hq561 := gSs.tr sq418 xq561 (by decide)
                              have s562 := (xq561.2.2.2.2.2 x 0 (by rw [tx]; decide)).trans s419
                              have s563 := (xq561.2.2.2.2.2 x 1 (by rw [tx]; decide)).trans s420
                              have s564 := (xq561.2.2.2.2.2 pic 0 (by rw [tpic]; decide)).trans s421
                              have s565 := (xq561.2.2.2.2.2 bn 0 (by rw [tbn]; decide)).trans s422
                              have s566 := (xq561.2.2.2.2.2 bn 1 (by rw [tbn]; decide)).trans s423
                              have s567 := (xq561.2.2.2.2.2 bn 2 (by rw [tbn]; decide)).trans s424
                              have s568 := (xq561.2.2.2.2.2 pic 2 (by rw [tpic]; decide)).trans s425
                              have s569 := (xq561.2.2.2.2.2 pic 3 (by rw [tpic]; decide)).trans s426
                              have s570 := (xq561.2.2.2.2.2 src 1 (by rw [tsrc]; decide)).trans s427
                              have s571 := (xq561.2.2.2.2.2 pic 7 (by rw [tpic]; decide)).trans s428
                              have s572 := (xq561.2.2.2.2.2 pic 8 (by rw [tpic]; decide)).trans s429
                              have s573 := (xq561.2.2.2.2.2 pic 5 (by rw [tpic]; decide)).trans s430
                              have s574 := (xq561.2.2.2.2.2 b0 1 (by rw [tb0]; decide)).trans s431
                              have s575 := (xq561.2.2.2.2.2 b0 2 (by rw [tb0]; decide)).trans s432
                              have s576 := (xq561.2.2.2.2.2 b0 3 (by rw [tb0]; decide)).trans s433
                              have s577 := (xq561.2.2.2.2.2 b1 1 (by rw [tb1]; decide)).trans efq418_0
                              have s578 := (xq561.2.2.2.2.2 b1 2 (by rw [tb1]; decide)).trans efq418_1
                              have s579 := (xq561.2.2.2.2.2 b1 3 (by rw [tb1]; decide)).trans efq418_2
                              refine gz_s 3 (pc' := 187) (L' := [some (.ref x), some (.int (zi m)), some (.int (zi a)), some (.int (zi n)), some (.int (zi zq1)), some (.int (zi jn14v0)), some (.int (zi zq227)), some (.int (zi zq253)), some (.int (zi 2)), some (.int (zi zq561))]) (S' := [.int (zi (-1)), .int (zi zq561)]) rfl ?_
                              by_cases hc580 : (zq561 : Int) = (-1)
                              · refine gy_icT (pc' := 193) rfl (by decide) (by decide) (by omega) (by omega) hc580 ?_
                                refine gy_s 4 (pc' := 164) (L' := [some (.ref x), some (.int (zi m)), some (.int (zi a)), some (.int (zi n)), some (.int (zi zq1)), some (.int (zi jn14v0)), some (.int (zi zq227)), some (.int (zi zq253)), some (.int ((zi 2) + zi 1)), some (.int (zi zq561))]) (S' := [.int (zi zq1), .int ((zi 2) + zi 1)]) (L2 := [some (.ref x), some (.int (zi m)), some (.int (zi a)), some (.int (zi n)), some (.int (zi zq1)), some (.int (zi jn14v0)), some (.int (zi zq227)), some (.int (zi zq253)), some (.int (zi 3)), some (.int (zi zq561))]) (S2 := [.int (zi zq1), .int (zi 3)]) rfl (by simp only [zi_add, zi_sub, zi_mul, zi_neg, zi_and1, zi_and7, zi_and15, zi_and31, zi_and255, Int.reduceAdd, Int.reduceMul, Int.reduceSub]) (by simp only [zi_add, zi_sub, zi_mul, zi_neg, zi_and1, zi_and7, zi_and15, zi_and31, zi_and255, Int.reduceAdd, Int.reduceMul, Int.reduceSub]) ?_
                                refine gy_icT (pc' := 199) rfl (by decide) (by decide) (by omega) (by omega) (by first | (simp [zc]; done) | (simp only [zc]; omega)) ?_
                                refine gz_s 1 (pc' := 200) (L' := [some (.ref x), some (.int (zi m)), some (.int (zi a)), some (.int (zi n)), some (.int (zi zq1)), some (.int (zi jn14v0)), some (.int (zi zq227)), some (.int (zi zq253)), some (.int (zi 3)), some (.int (zi zq561))]) (S' := [.ref x]) rfl ?_
                                refine gs_gtk rfl (by decide) rfl sq561.1 tx rfl rfl s563 ?_
                                refine gz_s 2 (pc' := 207) (L' := [some (.ref x), some (.int (zi m)), some (.int (zi a)), some (.int (zi n)), some (.int (zi zq1)), some (.int (zi jn14v0)), some (.int (zi zq227)), some (.int (zi zq253)), some (.int (zi 3)), some (.int (zi zq561))]) (S' := [.int (zi 194), .int (zi m), .ref pic]) rfl ?_
                                by_cases hc581 : ¬ (m : Int) = 194
                                · refine gy_icT (pc' := 214) rfl (by decide) (by decide) (by omega) (by omega) hc581 ?_
                                  refine gz_s 1 (pc' := 215) (L' := [some (.ref x), some (.int (zi m)), some (.int (zi a)), some (.int (zi n)), some (.int (zi zq1)), some (.int (zi jn14v0)), some (.int (zi zq227)), some (.int (zi zq253)), some (.int (zi 3)), some (.int (zi zq561))]) (S' := [.int (zi 0), .ref pic]) rfl ?_
                                  refine gs_put rfl (by decide) rfl sq561 tpic rfl rfl rfl rfl (Or.inl rfl) (by decide) (by omega) (by omega) (fun h582 sh582 eh582 fh582 => ?_)
                                  have s583 := (fh582 x 0 (fun q => absurd q.2 (by decide))).trans s562
                                  have s584 := (fh582 x 1 (fun q => absurd q.2 (by decide))).trans s563
                                  have s585 := (fh582 pic 0 (fun q => absurd q.2 (by decide))).trans s564
                                  have s586 := (fh582 bn 0 (fun q => absurd (((tbn).symm.trans (congrArg ty q.1)).trans tpic) (by decide))).trans s565
                                  have s587 := (fh582 bn 1 (fun q => absurd (((tbn).symm.trans (congrArg ty q.1)).trans tpic) (by decide))).trans s566
                                  have s588 := (fh582 bn 2 (fun q => absurd (((tbn).symm.trans (congrArg ty q.1)).trans tpic) (by decide))).trans s567
                                  have s589 := (fh582 pic 2 (fun q => absurd q.2 (by decide))).trans s568
                                  have s590 := (fh582 pic 3 (fun q => absurd q.2 (by decide))).trans s569
                                  have s591 := (fh582 src 1 (fun q => absurd q.2 (by decide))).trans s570
                                  have s592 := (fh582 pic 7 (fun q => absurd q.2 (by decide))).trans s571
                                  have s593 := (fh582 pic 8 (fun q => absurd q.2 (by decide))).trans s572
                                  have s594 := (fh582 pic 5 (fun q => absurd q.2 (by decide))).trans s573
                                  have s595 := (fh582 b0 1 (fun q => absurd q.2 (by decide))).trans s574
                                  have s596 := (fh582 b0 2 (fun q => absurd q.2 (by decide))).trans s575
                                  have s597 := (fh582 b0 3 (fun q => absurd q.2 (by decide))).trans s576
                                  have s598 := (fh582 b1 1 (fun q => absurd q.2 (by decide))).trans s577
                                  have s599 := (fh582 b1 2 (fun q => absurd q.2 (by decide))).trans s578
                                  have s600 := (fh582 b1 3 (fun q => absurd q.2 (by decide))).trans s579
                                  have s601 := (fh582 b2 1 (fun q => absurd q.2 (by decide))).trans efq561_0
                                  have s602 := (fh582 b2 2 (fun q => absurd q.2 (by decide))).trans efq561_1
                                  have s603 := (fh582 b2 3 (fun q => absurd q.2 (by decide))).trans efq561_2
                                  refine gz_s 1 (pc' := 219) (L' := [some (.ref x), some (.int (zi m)), some (.int (zi a)), some (.int (zi n)), some (.int (zi zq1)), some (.int (zi jn14v0)), some (.int (zi zq227)), some (.int (zi zq253)), some (.int (zi 3)), some (.int (zi zq561))]) (S' := [.ref x]) rfl ?_
                                  refine gs_gtk rfl (by decide) rfl sh582.1 tx rfl rfl s584 ?_
                                  refine gz_s 3 (pc' := 228) (L' := [some (.ref x), some (.int (zi m)), some (.int (zi a)), some (.int (zi n)), some (.int (zi zq1)), some (.int (zi jn14v0)), some (.int (zi zq227)), some (.int (zi zq253)), some (.int (zi 3)), some (.int (zi zq561))]) (S' := [.int (zi zq1), .int (zi zq227), .int (zi zq253), .ref pic]) rfl ?_
                                  have k604 := sh582.2.1
                                  have k604b := sh582.2.2.1
                                  have hl605 : h582.2.2.2.1 co = h.2.2.2.1 co := congrFun sh582.2.2.2.2.1 co
                                  have hl606 : h582.2.2.2.1 dm = h.2.2.2.1 dm := congrFun sh582.2.2.2.2.1 dm
                                  have hl607 : h582.2.2.2.1 co = h.2.2.2.1 co := congrFun sh582.2.2.2.2.1 co
                                  have hl608 : h582.2.2.2.1 dm = h.2.2.2.1 dm := congrFun sh582.2.2.2.2.1 dm
                                  refine gz_call rfl (by decide) rfl (by decide) (by decide) (gcal_of rfl rfl rfl (Nat.le_of_ble_eq_true rfl) (gJ.recv (G := gGG) sh582.1 tpic rfl rfl)) (cl_Picture_begin _ sh582.1 pic tpic zq253 (by omega) zq227 (by omega) zq1 (by omega) bn s585 tbn b0 s586 tb0 b1 s587 tb1 b2 s588 tb2 co s589 tco dm s590 tdm fq278_0 s595 (by omega) fq278_1 s596 (by omega) fq278_2 s597 (by omega) fq418_0 s598 (by omega) fq418_1 s599 (by omega) fq418_2 s600 (by omega) fq561_0 s601 (by omega) fq561_1 s602 (by omega) fq561_2 s603 (by omega) (by omega) (by omega) (by omega) (by omega) (by omega) uq) (fun q609 _ wq609 => ?_)
                                  obtain ⟨pq609, oq609, hq609⟩ := q609
                                  obtain ⟨tyq609, xq609, fq609_0, xq609_0, gq609, efq609_0, afq609_0, bfq609_0, axq609_0, bxq609_0, uq609_0, uq609_1, uq609_2, uq609_3, yq609_0⟩ := wq609
                                  dsimp only at uq609_1 uq609_2
                                  refine ⟨_, gq609, ?_⟩
                                  show gz gPP gGG gcn _ _ 231 [some (.ref x), some (.int (zi m)), some (.int (zi a)), some (.int (zi n)), some (.int (zi zq1)), some (.int (zi jn14v0)), some (.int (zi zq227)), some (.int (zi zq253)), some (.int (zi 3)), some (.int (zi zq561))] [] hq609 _
                                  have G610 : gSg [112, 113] [] [54002, 54003, 54004, 54005, 54006, 54007, 54008, 54010, 54011, 54012, 54013, 82000, 82001, 82002, 82003, 82004, 82005, 82006, 82007, 82008, 83000, 83001, 83002, 83003, 83004, 83005, 83006, 83007, 83008, 84000, 84001, 84002, 84003, 84004, 84005, 84006, 84007, 84008, 112999, 113999] ty h tyq609 hq609 := gSg.tr (gSg.ss G0 sh582 (by decide)) xq609 (by decide) (by decide) (fun x hx => by cases hx)
                                  have t611 : tyq609 x = 65 := gSg.typ xq609 sh582.1 tx rfl
                                  have t612 : tyq609 src = 51 := gSg.typ xq609 sh582.1 tsrc rfl
                                  have t613 : tyq609 pic = 54 := gSg.typ xq609 sh582.1 tpic rfl
                                  have t614 : tyq609 bn = 57 := gSg.typ xq609 sh582.1 tbn rfl
                                  have t615 : tyq609 b0 = 82 := gSg.typ xq609 sh582.1 tb0 rfl
                                  have t616 : tyq609 b1 = 83 := gSg.typ xq609 sh582.1 tb1 rfl
                                  have t617 : tyq609 b2 = 84 := gSg.typ xq609 sh582.1 tb2 rfl
                                  have t618 : tyq609 co = 112 := gSg.typ xq609 sh582.1 tco rfl
                                  have hl619 : hq609.2.2.2.1 co = h582.2.2.2.1 co := gSg.len xq609 sh582.1 tco rfl
                                  have t620 : tyq609 dm = 113 := gSg.typ xq609 sh582.1 tdm rfl
                                  have hl621 : hq609.2.2.2.1 dm = h582.2.2.2.1 dm := gSg.len xq609 sh582.1 tdm rfl
                                  have s622 := gSg.at xq609 sh582.1 tx rfl (by decide) s583
                                  have s623 := gSg.at xq609 sh582.1 tx rfl (by decide) s584
                                  have s624 := gSg.at xq609 sh582.1 tpic rfl (by decide) s585
                                  have s625 := gSg.at xq609 sh582.1 tbn rfl (by decide) s586
                                  have s626 := gSg.at xq609 sh582.1 tbn rfl (by decide) s587
                                  have s627 := gSg.at xq609 sh582.1 tbn rfl (by decide) s588
                                  have s628 := gSg.at xq609 sh582.1 tsrc rfl (by decide) s591
                                  have s629 := gSg.at xq609 sh582.1 tb0 rfl (by decide) s595
                                  have s630 := gSg.at xq609 sh582.1 tb0 rfl (by decide) s596
                                  have s631 := gSg.at xq609 sh582.1 tb0 rfl (by decide) s597
                                  have s632 := gSg.at xq609 sh582.1 tb1 rfl (by decide) s598
                                  have s633 := gSg.at xq609 sh582.1 tb1 rfl (by decide) s599
                                  have s634 := gSg.at xq609 sh582.1 tb1 rfl (by decide) s600
                                  have s635 := gSg.at xq609 sh582.1 tb2 rfl (by decide) s601
                                  have s636 := gSg.at xq609 sh582.1 tb2 rfl (by decide) s602
                                  have s637 := gSg.at xq609 sh582.1 tb2 rfl (by decide) s603
                                  have s638 := gSg.at xq609 sh582.1 tpic rfl (by decide) eh582
                                  have uq639 := gSg.uq xq609 uq (by decide)
                                  have sS640 : gSs rT 1027 tyq609 [54002, 54003, 54004, 54005, 54006, 54007, 54008, 54010, 54011, 54012, 54013, 82000, 82001, 82002, 82003, 82004, 82005, 82006, 82007, 82008, 83000, 83001, 83002, 83003, 83004, 83005, 83006, 83007, 83008, 84000, 84001, 84002, 84003, 84004, 84005, 84006, 84007, 84008, 112999, 113999] hq609 hq609 := gSs.rf xq609.1
                                  refine gz_s 1 (pc' := 232) (L' := [some (.ref x), some (.int (zi m)), some (.int (zi a)), some (.int (zi n)), some (.int (zi zq1)), some (.int (zi jn14v0)), some (.int (zi zq227)), some (.int (zi zq253)), some (.int (zi 3)), some (.int (zi zq561))]) (S' := [.int (zi (-1))]) rfl ?_
                                  have hl641 : 0 ≤ hq609.2.2.2.1 co ∧ hq609.2.2.2.1 co ≤ 12288 := gJ.rowl (G := gGG) sS640.1 t618 rfl
                                  have hl642 : 0 ≤ hq609.2.2.2.1 dm ∧ hq609.2.2.2.1 dm ≤ 192 := gJ.rowl (G := gGG) sS640.1 t620 rfl
                                  have G643 : gSg [112, 113] [] [54002, 54003, 54004, 54005, 54006, 54007, 54008, 54010, 54011, 54012, 54013, 82000, 82001, 82002, 82003, 82004, 82005, 82006, 82007, 82008, 83000, 83001, 83002, 83003, 83004, 83005, 83006, 83007, 83008, 84000, 84001, 84002, 84003, 84004, 84005, 84006, 84007, 84008, 112999, 113999] ty h tyq609 hq609 := gSg.ss G610 sS640 (by decide)
                                  exact gz_end (I := .ireturn) (len := 1) rfl (Or.inl rfl) ⟨tyq609, G643, (-1), fq609_0, xq609_0, rfl, (by omega), (by omega), efq609_0, (by omega), (by omega), (by omega), (by omega), (by dsimp only; omega), (by dsimp only; omega), (by omega), yq609_0⟩
                                · refine gy_icF rfl (by decide) (by decide) (by omega) (by omega) hc581 ?_
                                  refine gz_s 2 (pc' := 215) (L' := [some (.ref x), some (.int (zi m)), some (.int (zi a)), some (.int (zi n)), some (.int (zi zq1)), some (.int (zi jn14v0)), some (.int (zi zq227)), some (.int (zi zq253)), some (.int (zi 3)), some (.int (zi zq561))]) (S' := [.int (zi 1), .ref pic]) rfl ?_
                                  refine gs_put rfl (by decide) rfl sq561 tpic rfl rfl rfl rfl (Or.inl rfl) (by decide) (by omega) (by omega) (fun h644 sh644 eh644 fh644 => ?_)
                                  have s645 := (fh644 x 0 (fun q => absurd q.2 (by decide))).trans s562
                                  have s646 := (fh644 x 1 (fun q => absurd q.2 (by decide))).trans s563
                                  have s647 := (fh644 pic 0 (fun q => absurd q.2 (by decide))).trans s564
                                  have s648 := (fh644 bn 0 (fun q => absurd (((tbn).symm.trans (congrArg ty q.1)).trans tpic) (by decide))).trans s565
                                  have s649 := (fh644 bn 1 (fun q => absurd (((tbn).symm.trans (congrArg ty q.1)).trans tpic) (by decide))).trans s566
                                  have s650 := (fh644 bn 2 (fun q => absurd (((tbn).symm.trans (congrArg ty q.1)).trans tpic) (by decide))).trans s567
                                  have s651 := (fh644 pic 2 (fun q => absurd q.2 (by decide))).trans s568
                                  have s652 := (fh644 pic 3 (fun q => absurd q.2 (by decide))).trans s569
                                  have s653 := (fh644 src 1 (fun q => absurd q.2 (by decide))).trans s570
                                  have s654 := (fh644 pic 7 (fun q => absurd q.2 (by decide))).trans s571
                                  have s655 := (fh644 pic 8 (fun q => absurd q.2 (by decide))).trans s572
                                  have s656 := (fh644 pic 5 (fun q => absurd q.2 (by decide))).trans s573
                                  have s657 := (fh644 b0 1 (fun q => absurd q.2 (by decide))).trans s574
                                  have s658 := (fh644 b0 2 (fun q => absurd q.2 (by decide))).trans s575
                                  have s659 := (fh644 b0 3 (fun q => absurd q.2 (by decide))).trans s576
                                  have s660 := (fh644 b1 1 (fun q => absurd q.2 (by decide))).trans s577
                                  have s661 := (fh644 b1 2 (fun q => absurd q.2 (by decide))).trans s578
                                  have s662 := (fh644 b1 3 (fun q => absurd q.2 (by decide))).trans s579
                                  have s663 := (fh644 b2 1 (fun q => absurd q.2 (by decide))).trans efq561_0
                                  have s664 := (fh644 b2 2 (fun q => absurd q.2 (by decide))).trans efq561_1
                                  have s665 := (fh644 b2 3 (fun q => absurd q.2 (by decide))).trans efq561_2
                                  refine gz_s 1 (pc' := 219) (L' := [some (.ref x), some (.int (zi m)), some (.int (zi a)), some (.int (zi n)), some (.int (zi zq1)), some (.int (zi jn14v0)), some (.int (zi zq227)), some (.int (zi zq253)), some (.int (zi 3)), some (.int (zi zq561))]) (S' := [.ref x]) rfl ?_
                                  refine gs_gtk rfl (by decide) rfl sh644.1 tx rfl rfl s646 ?_
                                  refine gz_s 3 (pc' := 228) (L' := [some (.ref x), some (.int (zi m)), some (.int (zi a)), some (.int (zi n)), some (.int (zi zq1)), some (.int (zi jn14v0)), some (.int (zi zq227)), some (.int (zi zq253)), some (.int (zi 3)), some (.int (zi zq561))]) (S' := [.int (zi zq1), .int (zi zq227), .int (zi zq253), .ref pic]) rfl ?_
                                  have k666 := sh644.2.1
                                  have k666b := sh644.2.2.1
                                  have hl667 : h644.2.2.2.1 co = h.2.2.2.1 co := congrFun sh644.2.2.2.2.1 co
                                  have hl668 : h644.2.2.2.1 dm = h.2.2.2.1 dm := congrFun sh644.2.2.2.2.1 dm
                                  have hl669 : h644.2.2.2.1 co = h.2.2.2.1 co := congrFun sh644.2.2.2.2.1 co
                                  have hl670 : h644.2.2.2.1 dm = h.2.2.2.1 dm := congrFun sh644.2.2.2.2.1 dm
                                  refine gz_call rfl (by decide) rfl (by decide) (by decide) (gcal_of rfl rfl rfl (Nat.le_of_ble_eq_true rfl) (gJ.recv (G := gGG) sh644.1 tpic rfl rfl)) (cl_Picture_begin _ sh644.1 pic tpic zq253 (by omega) zq227 (by omega) zq1 (by omega) bn s647 tbn b0 s648 tb0 b1 s649 tb1 b2 s650 tb2 co s651 tco dm s652 tdm fq278_0 s657 (by omega) fq278_1 s658 (by omega) fq278_2 s659 (by omega) fq418_0 s660 (by omega) fq418_1 s661 (by omega) fq418_2 s662 (by omega) fq561_0 s663 (by omega) fq561_1 s664 (by omega) fq561_2 s665 (by omega) (by omega) (by omega) (by omega) (by omega) (by omega) uq) (fun q671 _ wq671 => ?_)
                                  obtain ⟨pq671, oq671, hq671⟩ := q671
                                  obtain ⟨tyq671, xq671, fq671_0, xq671_0, gq671, efq671_0, afq671_0, bfq671_0, axq671_0, bxq671_0, uq671_0, uq671_1, uq671_2, uq671_3, yq671_0⟩ := wq671
                                  dsimp only at uq671_1 uq671_2
                                  refine ⟨_, gq671, ?_⟩
                                  show gz gPP gGG gcn _ _ 231 [some (.ref x), some (.int (zi m)), some (.int (zi a)), some (.int (zi n)), some (.int (zi zq1)), some (.int (zi jn14v0)), some (.int (zi zq227)), some (.int (zi zq253)), some (.int (zi 3)), some (.int (zi zq561))] [] hq671 _
                                  have G672 : gSg [112, 113] [] [54002, 54003, 54004, 54005, 54006, 54007, 54008, 54010, 54011, 54012, 54013, 82000, 82001, 82002, 82003, 82004, 82005, 82006, 82007, 82008, 83000, 83001, 83002, 83003, 83004, 83005, 83006, 83007, 83008, 84000, 84001, 84002, 84003, 84004, 84005, 84006, 84007, 84008, 112999, 113999] ty h tyq671 hq671 := gSg.tr (gSg.ss G0 sh644 (by decide)) xq671 (by decide) (by decide) (fun x hx => by cases hx)
                                  have t673 : tyq671 x = 65 := gSg.typ xq671 sh644.1 tx rfl
                                  have t674 : tyq671 src = 51 := gSg.typ xq671 sh644.1 tsrc rfl
                                  have t675 : tyq671 pic = 54 := gSg.typ xq671 sh644.1 tpic rfl
                                  have t676 : tyq671 bn = 57 := gSg.typ xq671 sh644.1 tbn rfl
                                  have t677 : tyq671 b0 = 82 := gSg.typ xq671 sh644.1 tb0 rfl
                                  have t678 : tyq671 b1 = 83 := gSg.typ xq671 sh644.1 tb1 rfl
                                  have t679 : tyq671 b2 = 84 := gSg.typ xq671 sh644.1 tb2 rfl
                                  have t680 : tyq671 co = 112 := gSg.typ xq671 sh644.1 tco rfl
                                  have hl681 : hq671.2.2.2.1 co = h644.2.2.2.1 co := gSg.len xq671 sh644.1 tco rfl
                                  have t682 : tyq671 dm = 113 := gSg.typ xq671 sh644.1 tdm rfl
                                  have hl683 : hq671.2.2.2.1 dm = h644.2.2.2.1 dm := gSg.len xq671 sh644.1 tdm rfl
                                  have s684 := gSg.at xq671 sh644.1 tx rfl (by decide) s645
                                  have s685 := gSg.at xq671 sh644.1 tx rfl (by decide) s646
                                  have s686 := gSg.at xq671 sh644.1 tpic rfl (by decide) s647
                                  have s687 := gSg.at xq671 sh644.1 tbn rfl (by decide) s648
                                  have s688 := gSg.at xq671 sh644.1 tbn rfl (by decide) s649
                                  have s689 := gSg.at xq671 sh644.1 tbn rfl (by decide) s650
                                  have s690 := gSg.at xq671 sh644.1 tsrc rfl (by decide) s653
                                  have s691 := gSg.at xq671 sh644.1 tb0 rfl (by decide) s657
                                  have s692 := gSg.at xq671 sh644.1 tb0 rfl (by decide) s658
                                  have s693 := gSg.at xq671 sh644.1 tb0 rfl (by decide) s659
                                  have s694 := gSg.at xq671 sh644.1 tb1 rfl (by decide) s660
                                  have s695 := gSg.at xq671 sh644.1 tb1 rfl (by decide) s661
                                  have s696 := gSg.at xq671 sh644.1 tb1 rfl (by decide) s662
                                  have s697 := gSg.at xq671 sh644.1 tb2 rfl (by decide) s663
                                  have s698 := gSg.at xq671 sh644.1 tb2 rfl (by decide) s664
                                  have s699 := gSg.at xq671 sh644.1 tb2 rfl (by decide) s665
                                  have s700 := gSg.at xq671 sh644.1 tpic rfl (by decide) eh644
                                  have uq701 := gSg.uq xq671 uq (by decide)
                                  have sS702 : gSs rT 1027 tyq671 [54002, 54003, 54004, 54005, 54006, 54007, 54008, 54010, 54011, 54012, 54013, 82000, 82001, 82002, 82003, 82004, 82005, 82006, 82007, 82008, 83000, 83001, 83002, 83003, 83004, 83005, 83006, 83007, 83008, 84000, 84001, 84002, 84003, 84004, 84005, 84006, 84007, 84008, 112999, 113999] hq671 hq671 := gSs.rf xq671.1
                                  refine gz_s 1 (pc' := 232) (L' := [some (.ref x), some (.int (zi m)), some (.int (zi a)), some (.int (zi n)), some (.int (zi zq1)), some (.int (zi jn14v0)), some (.int (zi zq227)), some (.int (zi zq253)), some (.int (zi 3)), some (.int (zi zq561))]) (S' := [.int (zi (-1))]) rfl ?_
                                  have hl703 : 0 ≤ hq671.2.2.2.1 co ∧ hq671.2.2.2.1 co ≤ 12288 := gJ.rowl (G := gGG) sS702.1 t680 rfl
                                  have hl704 : 0 ≤ hq671.2.2.2.1 dm ∧ hq671.2.2.2.1 dm ≤ 192 := gJ.rowl (G := gGG) sS702.1 t682 rfl
                                  have G705 : gSg [112, 113] [] [54002, 54003, 54004, 54005, 54006, 54007, 54008, 54010, 54011, 54012, 54013, 82000, 82001, 82002, 82003, 82004, 82005, 82006, 82007, 82008, 83000, 83001, 83002, 83003, 83004, 83005, 83006, 83007, 83008, 84000, 84001, 84002, 84003, 84004, 84005, 84006, 84007, 84008, 112999, 113999] ty h tyq671 hq671 := gSg.ss G672 sS702 (by decide)
                                  exact gz_end (I := .ireturn) (len := 1) rfl (Or.inl rfl) ⟨tyq671, G705, (-1), fq671_0, xq671_0, rfl, (by omega), (by omega), efq671_0, (by omega), (by omega), (by omega), (by omega), (by dsimp only; omega), (by dsimp only; omega), (by omega), yq671_0⟩
                              · refine gy_icF rfl (by decide) (by decide) (by omega) (by omega) hc580 ?_
                                refine gz_s 1 (pc' := 192) (L' := [some (.ref x), some (.int (zi m)), some (.int (zi a)), some (.int (zi n)), some (.int (zi zq1)), some (.int (zi jn14v0)), some (.int (zi zq227)), some (.int (zi zq253)), some (.int (zi 2)), some (.int (zi zq561))]) (S' := [.int (zi zq561)]) rfl ?_
                                have k706 := sq561.2.1
                                have k706b := sq561.2.2.1
                                have hl707 : hq561.2.2.2.1 co = h.2.2.2.1 co := congrFun sq561.2.2.2.2.1 co
                                have hl708 : hq561.2.2.2.1 dm = h.2.2.2.1 dm := congrFun sq561.2.2.2.2.1 dm
                                have hl709 : 0 ≤ hq561.2.2.2.1 co ∧ hq561.2.2.2.1 co ≤ 12288 := gJ.rowl (G := gGG) sq561.1 tco rfl
                                have hl710 : 0 ≤ hq561.2.2.2.1 dm ∧ hq561.2.2.2.1 dm ≤ 192 := gJ.rowl (G := gGG) sq561.1 tdm rfl
                                have k711 := sq561.2.1
                                have k711b := sq561.2.2.1
                                have hl712 : hq561.2.2.2.1 co = h.2.2.2.1 co := congrFun sq561.2.2.2.2.1 co
                                have hl713 : hq561.2.2.2.1 dm = h.2.2.2.1 dm := congrFun sq561.2.2.2.2.1 dm
                                have hpc714 : gPC ty pic b0 b1 b2 (hq561.2.2.2.1 dm : Int) hq561 := gPC.zero sq561.1 tpic s564 tbn s565 tb0 s566 tb1 s567 tb2 s568 tco s569 tdm (by rw [(by omega : (0 : Int) = cn)]; exact s571) bl s572 (by omega) w s573 (by omega) (by omega) (by omega) (by omega) (by omega)
                                have G715 : gSg [112, 113] [] [54002, 54003, 54004, 54005, 54006, 54007, 54008, 54010, 54011, 54012, 54013, 82000, 82001, 82002, 82003, 82004, 82005, 82006, 82007, 82008, 83000, 83001, 83002, 83003, 83004, 83005, 83006, 83007, 83008, 84000, 84001, 84002, 84003, 84004, 84005, 84006, 84007, 84008, 112999, 113999] ty h ty hq561 := gSg.ss G0 sq561 (by decide)
                                exact gz_end (I := .ireturn) (len := 1) rfl (Or.inl rfl) ⟨ty, G715, zq561, cn, (hq561.2.2.2.1 dm : Int), rfl, (by omega), (by omega), s571, (by omega), (by omega), (by omega), (by omega), (by dsimp only; omega), (by dsimp only; omega), (by omega), hpc714⟩
                          · refine gy_icF rfl (by decide) (by decide) (by omega) (by omega) hc434 ?_
                            refine gz_s 1 (pc' := 192) (L' := [some (.ref x), some (.int (zi m)), some (.int (zi a)), some (.int (zi n)), some (.int (zi zq1)), some (.int (zi jn14v0)), some (.int (zi zq227)), some (.int (zi zq253)), some (.int (zi 1)), some (.int (zi zq418))]) (S' := [.int (zi zq418)]) rfl ?_
                            have k716 := sq418.2.1
                            have k716b := sq418.2.2.1
                            have hl717 : hq418.2.2.2.1 co = h.2.2.2.1 co := congrFun sq418.2.2.2.2.1 co
                            have hl718 : hq418.2.2.2.1 dm = h.2.2.2.1 dm := congrFun sq418.2.2.2.2.1 dm
                            have hl719 : 0 ≤ hq418.2.2.2.1 co ∧ hq418.2.2.2.1 co ≤ 12288 := gJ.rowl (G := gGG) sq418.1 tco rfl
                            have hl720 : 0 ≤ hq418.2.2.2.1 dm ∧ hq418.2.2.2.1 dm ≤ 192 := gJ.rowl (G := gGG) sq418.1 tdm rfl
                            have k721 := sq418.2.1
                            have k721b := sq418.2.2.1
                            have hl722 : hq418.2.2.2.1 co = h.2.2.2.1 co := congrFun sq418.2.2.2.2.1 co
                            have hl723 : hq418.2.2.2.1 dm = h.2.2.2.1 dm := congrFun sq418.2.2.2.2.1 dm
                            have hpc724 : gPC ty pic b0 b1 b2 (hq418.2.2.2.1 dm : Int) hq418 := gPC.zero sq418.1 tpic s421 tbn s422 tb0 s423 tb1 s424 tb2 s425 tco s426 tdm (by rw [(by omega : (0 : Int) = cn)]; exact s428) bl s429 (by omega) w s430 (by omega) (by omega) (by omega) (by omega) (by omega)
                            have G725 : gSg [112, 113] [] [54002, 54003, 54004, 54005, 54006, 54007, 54008, 54010, 54011, 54012, 54013, 82000, 82001, 82002, 82003, 82004, 82005, 82006, 82007, 82008, 83000, 83001, 83002, 83003, 83004, 83005, 83006, 83007, 83008, 84000, 84001, 84002, 84003, 84004, 84005, 84006, 84007, 84008, 112999, 113999] ty h ty hq418 := gSg.ss G0 sq418 (by decide)
                            exact gz_end (I := .ireturn) (len := 1) rfl (Or.inl rfl) ⟨ty, G725, zq418, cn, (hq418.2.2.2.1 dm : Int), rfl, (by omega), (by omega), s428, (by omega), (by omega), (by omega), (by omega), (by dsimp only; omega), (by dsimp only; omega), (by omega), hpc724⟩
                      · refine gy_icF rfl (by decide) (by decide) (by omega) (by omega) hc291 ?_
                        refine gz_s 1 (pc' := 192) (L' := [some (.ref x), some (.int (zi m)), some (.int (zi a)), some (.int (zi n)), some (.int (zi zq1)), some (.int (zi jn14v0)), some (.int (zi zq227)), some (.int (zi zq253)), some (.int (zi 0)), some (.int (zi zq278))]) (S' := [.int (zi zq278)]) rfl ?_
                        have k726 := sq278.2.1
                        have k726b := sq278.2.2.1
                        have hl727 : hq278.2.2.2.1 co = h.2.2.2.1 co := congrFun sq278.2.2.2.2.1 co
                        have hl728 : hq278.2.2.2.1 dm = h.2.2.2.1 dm := congrFun sq278.2.2.2.2.1 dm
                        have hl729 : 0 ≤ hq278.2.2.2.1 co ∧ hq278.2.2.2.1 co ≤ 12288 := gJ.rowl (G := gGG) sq278.1 tco rfl
                        have hl730 : 0 ≤ hq278.2.2.2.1 dm ∧ hq278.2.2.2.1 dm ≤ 192 := gJ.rowl (G := gGG) sq278.1 tdm rfl
                        have k731 := sq278.2.1
                        have k731b := sq278.2.2.1
                        have hl732 : hq278.2.2.2.1 co = h.2.2.2.1 co := congrFun sq278.2.2.2.2.1 co
                        have hl733 : hq278.2.2.2.1 dm = h.2.2.2.1 dm := congrFun sq278.2.2.2.2.1 dm
                        have hpc734 : gPC ty pic b0 b1 b2 (hq278.2.2.2.1 dm : Int) hq278 := gPC.zero sq278.1 tpic s281 tbn s282 tb0 s283 tb1 s284 tb2 s285 tco s286 tdm (by rw [(by omega : (0 : Int) = cn)]; exact s288) bl s289 (by omega) w s290 (by omega) (by omega) (by omega) (by omega) (by omega)
                        have G735 : gSg [112, 113] [] [54002, 54003, 54004, 54005, 54006, 54007, 54008, 54010, 54011, 54012, 54013, 82000, 82001, 82002, 82003, 82004, 82005, 82006, 82007, 82008, 83000, 83001, 83002, 83003, 83004, 83005, 83006, 83007, 83008, 84000, 84001, 84002, 84003, 84004, 84005, 84006, 84007, 84008, 112999, 113999] ty h ty hq278 := gSg.ss G0 sq278 (by decide)
                        exact gz_end (I := .ireturn) (len := 1) rfl (Or.inl rfl) ⟨ty, G735, zq278, cn, (hq278.2.2.2.1 dm : Int), rfl, (by omega), (by omega), s288, (by omega), (by omega), (by omega), (by omega), (by dsimp only; omega), (by dsimp only; omega), (by omega), hpc734⟩
                    · refine gy_icF rfl (by decide) (by decide) (by omega) (by omega) hc277 ?_
                      refine gy_s 3 (pc' := 146) (L' := [some (.ref x), some (.int (zi m)), some (.int (zi a)), some (.int (zi n)), some (.int (zi zq1)), some (.int (zi jn14v0)), some (.int (zi zq227)), some (.int (zi zq253)), none, none]) (S' := [.int ((zi a) + (zi 5))]) (L2 := [some (.ref x), some (.int (zi m)), some (.int (zi a)), some (.int (zi n)), some (.int (zi zq1)), some (.int (zi jn14v0)), some (.int (zi zq227)), some (.int (zi zq253)), none, none]) (S2 := [.int (zi (a + 5))]) rfl (by simp only [zi_add, zi_sub, zi_mul, zi_neg, zi_and1, zi_and7, zi_and15, zi_and31, zi_and255, Int.reduceAdd, Int.reduceMul, Int.reduceSub]) (by simp only [zi_add, zi_sub, zi_mul, zi_neg, zi_and1, zi_and7, zi_and15, zi_and31, zi_and255, Int.reduceAdd, Int.reduceMul, Int.reduceSub]) ?_
                      have k736 := sq253.2.1
                      have k736b := sq253.2.2.1
                      have hl737 : hq253.2.2.2.1 co = h.2.2.2.1 co := congrFun sq253.2.2.2.2.1 co
                      have hl738 : hq253.2.2.2.1 dm = h.2.2.2.1 dm := congrFun sq253.2.2.2.2.1 dm
                      have hl739 : 0 ≤ hq253.2.2.2.1 co ∧ hq253.2.2.2.1 co ≤ 12288 := gJ.rowl (G := gGG) sq253.1 tco rfl
                      have hl740 : 0 ≤ hq253.2.2.2.1 dm ∧ hq253.2.2.2.1 dm ≤ 192 := gJ.rowl (G := gGG) sq253.1 tdm rfl
                      have k741 := sq253.2.1
                      have k741b := sq253.2.2.1
                      have hl742 : hq253.2.2.2.1 co = h.2.2.2.1 co := congrFun sq253.2.2.2.2.1 co
                      have hl743 : hq253.2.2.2.1 dm = h.2.2.2.1 dm := congrFun sq253.2.2.2.2.1 dm
                      have hpc744 : gPC ty pic b0 b1 b2 (hq253.2.2.2.1 dm : Int) hq253 := gPC.zero sq253.1 tpic s256 tbn s257 tb0 s258 tb1 s259 tb2 s260 tco s261 tdm (by rw [(by omega : (0 : Int) = cn)]; exact s263) bl s264 (by omega) w s265 (by omega) (by omega) (by omega) (by omega) (by omega)
                      have G745 : gSg [112, 113] [] [54002, 54003, 54004, 54005, 54006, 54007, 54008, 54010, 54011, 54012, 54013, 82000, 82001, 82002, 82003, 82004, 82005, 82006, 82007, 82008, 83000, 83001, 83002, 83003, 83004, 83005, 83006, 83007, 83008, 84000, 84001, 84002, 84003, 84004, 84005, 84006, 84007, 84008, 112999, 113999] ty h ty hq253 := gSg.ss G0 sq253 (by decide)
                      exact gz_end (I := .ireturn) (len := 1) rfl (Or.inl rfl) ⟨ty, G745, a + 5, cn, (hq253.2.2.2.1 dm : Int), rfl, (by omega), (by omega), s263, (by omega), (by omega), (by omega), (by omega), (by dsimp only; omega), (by dsimp only; omega), (by omega), hpc744⟩
                · refine gy_icF rfl (by decide) (by decide) (by omega) (by omega) hc252 ?_
                  refine gy_s 3 (pc' := 117) (L' := [some (.ref x), some (.int (zi m)), some (.int (zi a)), some (.int (zi n)), some (.int (zi zq1)), some (.int (zi jn14v0)), some (.int (zi zq227)), none, none, none]) (S' := [.int ((zi a) + (zi 3))]) (L2 := [some (.ref x), some (.int (zi m)), some (.int (zi a)), some (.int (zi n)), some (.int (zi zq1)), some (.int (zi jn14v0)), some (.int (zi zq227)), none, none, none]) (S2 := [.int (zi (a + 3))]) rfl (by simp only [zi_add, zi_sub, zi_mul, zi_neg, zi_and1, zi_and7, zi_and15, zi_and31, zi_and255, Int.reduceAdd, Int.reduceMul, Int.reduceSub]) (by simp only [zi_add, zi_sub, zi_mul, zi_neg, zi_and1, zi_and7, zi_and15, zi_and31, zi_and255, Int.reduceAdd, Int.reduceMul, Int.reduceSub]) ?_
                  have k746 := sq227.2.1
                  have k746b := sq227.2.2.1
                  have hl747 : hq227.2.2.2.1 co = h.2.2.2.1 co := congrFun sq227.2.2.2.2.1 co
                  have hl748 : hq227.2.2.2.1 dm = h.2.2.2.1 dm := congrFun sq227.2.2.2.2.1 dm
                  have hl749 : 0 ≤ hq227.2.2.2.1 co ∧ hq227.2.2.2.1 co ≤ 12288 := gJ.rowl (G := gGG) sq227.1 tco rfl
                  have hl750 : 0 ≤ hq227.2.2.2.1 dm ∧ hq227.2.2.2.1 dm ≤ 192 := gJ.rowl (G := gGG) sq227.1 tdm rfl
                  have k751 := sq227.2.1
                  have k751b := sq227.2.2.1
                  have hl752 : hq227.2.2.2.1 co = h.2.2.2.1 co := congrFun sq227.2.2.2.2.1 co
                  have hl753 : hq227.2.2.2.1 dm = h.2.2.2.1 dm := congrFun sq227.2.2.2.2.1 dm
                  have hpc754 : gPC ty pic b0 b1 b2 (hq227.2.2.2.1 dm : Int) hq227 := gPC.zero sq227.1 tpic s230 tbn s231 tb0 s232 tb1 s233 tb2 s234 tco s235 tdm (by rw [(by omega : (0 : Int) = cn)]; exact s237) bl s238 (by omega) w s239 (by omega) (by omega) (by omega) (by omega) (by omega)
                  have G755 : gSg [112, 113] [] [54002, 54003, 54004, 54005, 54006, 54007, 54008, 54010, 54011, 54012, 54013, 82000, 82001, 82002, 82003, 82004, 82005, 82006, 82007, 82008, 83000, 83001, 83002, 83003, 83004, 83005, 83006, 83007, 83008, 84000, 84001, 84002, 84003, 84004, 84005, 84006, 84007, 84008, 112999, 113999] ty h ty hq227 := gSg.ss G0 sq227 (by decide)
                  exact gz_end (I := .ireturn) (len := 1) rfl (Or.inl rfl) ⟨ty, G755, a + 3, cn, (hq227.2.2.2.1 dm : Int), rfl, (by omega), (by omega), s237, (by omega), (by omega), (by omega), (by omega), (by dsimp only; omega), (by dsimp only; omega), (by omega), hpc754⟩
            · refine gy_ifF rfl (by decide) (by decide) (by omega) hc240 ?_
              refine gy_s 4 (pc' := 96) (L' := [some (.ref x), some (.int (zi m)), some (.int (zi a)), some (.int (zi n)), some (.int (zi zq1)), some (.int (zi jn14v0)), some (.int (zi zq227)), none, none, none]) (S' := [.int ((zi a) + (zi 5)), .ref x]) (L2 := [some (.ref x), some (.int (zi m)), some (.int (zi a)), some (.int (zi n)), some (.int (zi zq1)), some (.int (zi jn14v0)), some (.int (zi zq227)), none, none, none]) (S2 := [.int (zi (a + 5)), .ref x]) rfl (by simp only [zi_add, zi_sub, zi_mul, zi_neg, zi_and1, zi_and7, zi_and15, zi_and31, zi_and255, Int.reduceAdd, Int.reduceMul, Int.reduceSub]) (by simp only [zi_add, zi_sub, zi_mul, zi_neg, zi_and1, zi_and7, zi_and15, zi_and31, zi_and255, Int.reduceAdd, Int.reduceMul, Int.reduceSub]) ?_
              refine gz_call rfl (by decide) rfl (by decide) (by decide) (gcal_of rfl rfl rfl (Nat.le_of_ble_eq_true rfl) (gJ.recv (G := gGG) sq227.1 tx rfl rfl)) (cl_Reader_heightBehind _ sq227.1 x tx (a + 5) (by omega) src s228 tsrc sz s236 (by omega) uq) (fun q756 _ wq756 => ?_)
              obtain ⟨pq756, oq756, hq756⟩ := q756
              obtain ⟨xq756, zq756, gq756, aq756, bq756⟩ := wq756
              refine ⟨_, gq756, ?_⟩
              show gz gPP gGG gcn _ _ 99 [some (.ref x), some (.int (zi m)), some (.int (zi a)), some (.int (zi n)), some (.int (zi zq1)), some (.int (zi jn14v0)), some (.int (zi zq227)), none, none, none] [.int (zi zq756)] hq756 _
              have sq756 : gSs rT 1027 ty [54002, 54003, 54004, 54005, 54006, 54007, 54008, 54010, 54011, 54012, 54013, 82000, 82001, 82002, 82003, 82004, 82005, 82006, 82007, 82008, 83000, 83001, 83002, 83003, 83004, 83005, 83006, 83007, 83008, 84000, 84001, 84002, 84003, 84004, 84005, 84006, 84007, 84008, 112999, 113999] h hq756 := gSs.tr sq227 xq756 (by decide)
              have s757 := (xq756.2.2.2.2.2 x 0 (by rw [tx]; decide)).trans s228
              have s758 := (xq756.2.2.2.2.2 x 1 (by rw [tx]; decide)).trans s229
              have s759 := (xq756.2.2.2.2.2 pic 0 (by rw [tpic]; decide)).trans s230
              have s760 := (xq756.2.2.2.2.2 bn 0 (by rw [tbn]; decide)).trans s231
              have s761 := (xq756.2.2.2.2.2 bn 1 (by rw [tbn]; decide)).trans s232
              have s762 := (xq756.2.2.2.2.2 bn 2 (by rw [tbn]; decide)).trans s233
              have s763 := (xq756.2.2.2.2.2 pic 2 (by rw [tpic]; decide)).trans s234
              have s764 := (xq756.2.2.2.2.2 pic 3 (by rw [tpic]; decide)).trans s235
              have s765 := (xq756.2.2.2.2.2 src 1 (by rw [tsrc]; decide)).trans s236
              have s766 := (xq756.2.2.2.2.2 pic 7 (by rw [tpic]; decide)).trans s237
              have s767 := (xq756.2.2.2.2.2 pic 8 (by rw [tpic]; decide)).trans s238
              have s768 := (xq756.2.2.2.2.2 pic 5 (by rw [tpic]; decide)).trans s239
              refine gz_s 3 (pc' := 104) (L' := [some (.ref x), some (.int (zi m)), some (.int (zi a)), some (.int (zi n)), some (.int (zi zq1)), some (.int (zi jn14v0)), some (.int (zi zq756)), none, none, none]) (S' := [.int (zi 1), .int (zi zq756)]) rfl ?_
              by_cases hc769 : (zq756 : Int) < 1
              · refine gy_icT (pc' := 114) rfl (by decide) (by decide) (by omega) (by omega) hc769 ?_
                refine gy_s 3 (pc' := 117) (L' := [some (.ref x), some (.int (zi m)), some (.int (zi a)), some (.int (zi n)), some (.int (zi zq1)), some (.int (zi jn14v0)), some (.int (zi zq756)), none, none, none]) (S' := [.int ((zi a) + (zi 3))]) (L2 := [some (.ref x), some (.int (zi m)), some (.int (zi a)), some (.int (zi n)), some (.int (zi zq1)), some (.int (zi jn14v0)), some (.int (zi zq756)), none, none, none]) (S2 := [.int (zi (a + 3))]) rfl (by simp only [zi_add, zi_sub, zi_mul, zi_neg, zi_and1, zi_and7, zi_and15, zi_and31, zi_and255, Int.reduceAdd, Int.reduceMul, Int.reduceSub]) (by simp only [zi_add, zi_sub, zi_mul, zi_neg, zi_and1, zi_and7, zi_and15, zi_and31, zi_and255, Int.reduceAdd, Int.reduceMul, Int.reduceSub]) ?_
                have k770 := sq756.2.1
                have k770b := sq756.2.2.1
                have hl771 : hq756.2.2.2.1 co = h.2.2.2.1 co := congrFun sq756.2.2.2.2.1 co
                have hl772 : hq756.2.2.2.1 dm = h.2.2.2.1 dm := congrFun sq756.2.2.2.2.1 dm
                have hl773 : 0 ≤ hq756.2.2.2.1 co ∧ hq756.2.2.2.1 co ≤ 12288 := gJ.rowl (G := gGG) sq756.1 tco rfl
                have hl774 : 0 ≤ hq756.2.2.2.1 dm ∧ hq756.2.2.2.1 dm ≤ 192 := gJ.rowl (G := gGG) sq756.1 tdm rfl
                have k775 := sq756.2.1
                have k775b := sq756.2.2.1
                have hl776 : hq756.2.2.2.1 co = h.2.2.2.1 co := congrFun sq756.2.2.2.2.1 co
                have hl777 : hq756.2.2.2.1 dm = h.2.2.2.1 dm := congrFun sq756.2.2.2.2.1 dm
                have hpc778 : gPC ty pic b0 b1 b2 (hq756.2.2.2.1 dm : Int) hq756 := gPC.zero sq756.1 tpic s759 tbn s760 tb0 s761 tb1 s762 tb2 s763 tco s764 tdm (by rw [(by omega : (0 : Int) = cn)]; exact s766) bl s767 (by omega) w s768 (by omega) (by omega) (by omega) (by omega) (by omega)
                have G779 : gSg [112, 113] [] [54002, 54003, 54004, 54005, 54006, 54007, 54008, 54010, 54011, 54012, 54013, 82000, 82001, 82002, 82003, 82004, 82005, 82006, 82007, 82008, 83000, 83001, 83002, 83003, 83004, 83005, 83006, 83007, 83008, 84000, 84001, 84002, 84003, 84004, 84005, 84006, 84007, 84008, 112999, 113999] ty h ty hq756 := gSg.ss G0 sq756 (by decide)
                exact gz_end (I := .ireturn) (len := 1) rfl (Or.inl rfl) ⟨ty, G779, a + 3, cn, (hq756.2.2.2.1 dm : Int), rfl, (by omega), (by omega), s766, (by omega), (by omega), (by omega), (by omega), (by dsimp only; omega), (by dsimp only; omega), (by omega), hpc778⟩
              · refine gy_icF rfl (by decide) (by decide) (by omega) (by omega) hc769 ?_
                refine gz_s 2 (pc' := 111) (L' := [some (.ref x), some (.int (zi m)), some (.int (zi a)), some (.int (zi n)), some (.int (zi zq1)), some (.int (zi jn14v0)), some (.int (zi zq756)), none, none, none]) (S' := [.int (zi 64), .int (zi zq756)]) rfl ?_
                by_cases hc780 : (zq756 : Int) ≤ 64
                · refine gy_icT (pc' := 118) rfl (by decide) (by decide) (by omega) (by omega) hc780 ?_
                  refine gz_s 1 (pc' := 119) (L' := [some (.ref x), some (.int (zi m)), some (.int (zi a)), some (.int (zi n)), some (.int (zi zq1)), some (.int (zi jn14v0)), some (.int (zi zq756)), none, none, none]) (S' := [.ref x]) rfl ?_
                  refine gs_gtk rfl (by decide) rfl sq756.1 tx rfl rfl s757 ?_
                  refine gy_s 3 (pc' := 125) (L' := [some (.ref x), some (.int (zi m)), some (.int (zi a)), some (.int (zi n)), some (.int (zi zq1)), some (.int (zi jn14v0)), some (.int (zi zq756)), none, none, none]) (S' := [.int ((zi a) + (zi 5)), .ref src]) (L2 := [some (.ref x), some (.int (zi m)), some (.int (zi a)), some (.int (zi n)), some (.int (zi zq1)), some (.int (zi jn14v0)), some (.int (zi zq756)), none, none, none]) (S2 := [.int (zi (a + 5)), .ref src]) rfl (by simp only [zi_add, zi_sub, zi_mul, zi_neg, zi_and1, zi_and7, zi_and15, zi_and31, zi_and255, Int.reduceAdd, Int.reduceMul, Int.reduceSub]) (by simp only [zi_add, zi_sub, zi_mul, zi_neg, zi_and1, zi_and7, zi_and15, zi_and31, zi_and255, Int.reduceAdd, Int.reduceMul, Int.reduceSub]) ?_
                  refine gz_call rfl (by decide) rfl (by decide) (by decide) (gcal_of rfl rfl rfl (Nat.le_of_ble_eq_true rfl) (gJ.recv (G := gGG) sq756.1 tsrc rfl rfl)) (cl_Collected_twoAt _ sq756.1 src tsrc (a + 5) (by omega) sz s765 (by omega) uq) (fun q781 _ wq781 => ?_)
                  obtain ⟨pq781, oq781, hq781⟩ := q781
                  obtain ⟨xq781, zq781, gq781, aq781, bq781, uq781_0⟩ := wq781
                  refine ⟨_, gq781, ?_⟩
                  show gz gPP gGG gcn _ _ 128 [some (.ref x), some (.int (zi m)), some (.int (zi a)), some (.int (zi n)), some (.int (zi zq1)), some (.int (zi jn14v0)), some (.int (zi zq756)), none, none, none] [.int (zi zq781)] hq781 _
                  have sq781 : gSs rT 1027 ty [54002, 54003, 54004, 54005, 54006, 54007, 54008, 54010, 54011, 54012, 54013, 82000, 82001, 82002, 82003, 82004, 82005, 82006, 82007, 82008, 83000, 83001, 83002, 83003, 83004, 83005, 83006, 83007, 83008, 84000, 84001, 84002, 84003, 84004, 84005, 84006, 84007, 84008, 112999, 113999] h hq781 := gSs.tr sq756 xq781 (by decide)
                  have s782 := (xq781.2.2.2.2.2 x 0 (by rw [tx]; decide)).trans s757
                  have s783 := (xq781.2.2.2.2.2 x 1 (by rw [tx]; decide)).trans s758
                  have s784 := (xq781.2.2.2.2.2 pic 0 (by rw [tpic]; decide)).trans s759
                  have s785 := (xq781.2.2.2.2.2 bn 0 (by rw [tbn]; decide)).trans s760
                  have s786 := (xq781.2.2.2.2.2 bn 1 (by rw [tbn]; decide)).trans s761
                  have s787 := (xq781.2.2.2.2.2 bn 2 (by rw [tbn]; decide)).trans s762
                  have s788 := (xq781.2.2.2.2.2 pic 2 (by rw [tpic]; decide)).trans s763
                  have s789 := (xq781.2.2.2.2.2 pic 3 (by rw [tpic]; decide)).trans s764
                  have s790 := (xq781.2.2.2.2.2 src 1 (by rw [tsrc]; decide)).trans s765
                  have s791 := (xq781.2.2.2.2.2 pic 7 (by rw [tpic]; decide)).trans s766
                  have s792 := (xq781.2.2.2.2.2 pic 8 (by rw [tpic]; decide)).trans s767
                  have s793 := (xq781.2.2.2.2.2 pic 5 (by rw [tpic]; decide)).trans s768
                  refine gz_s 3 (pc' := 133) (L' := [some (.ref x), some (.int (zi m)), some (.int (zi a)), some (.int (zi n)), some (.int (zi zq1)), some (.int (zi jn14v0)), some (.int (zi zq756)), some (.int (zi zq781)), none, none]) (S' := [.int (zi 1), .int (zi zq781)]) rfl ?_
                  by_cases hc794 : (zq781 : Int) < 1
                  · refine gy_icT (pc' := 143) rfl (by decide) (by decide) (by omega) (by omega) hc794 ?_
                    refine gy_s 3 (pc' := 146) (L' := [some (.ref x), some (.int (zi m)), some (.int (zi a)), some (.int (zi n)), some (.int (zi zq1)), some (.int (zi jn14v0)), some (.int (zi zq756)), some (.int (zi zq781)), none, none]) (S' := [.int ((zi a) + (zi 5))]) (L2 := [some (.ref x), some (.int (zi m)), some (.int (zi a)), some (.int (zi n)), some (.int (zi zq1)), some (.int (zi jn14v0)), some (.int (zi zq756)), some (.int (zi zq781)), none, none]) (S2 := [.int (zi (a + 5))]) rfl (by simp only [zi_add, zi_sub, zi_mul, zi_neg, zi_and1, zi_and7, zi_and15, zi_and31, zi_and255, Int.reduceAdd, Int.reduceMul, Int.reduceSub]) (by simp only [zi_add, zi_sub, zi_mul, zi_neg, zi_and1, zi_and7, zi_and15, zi_and31, zi_and255, Int.reduceAdd, Int.reduceMul, Int.reduceSub]) ?_
                    have k795 := sq781.2.1
                    have k795b := sq781.2.2.1
                    have hl796 : hq781.2.2.2.1 co = h.2.2.2.1 co := congrFun sq781.2.2.2.2.1 co
                    have hl797 : hq781.2.2.2.1 dm = h.2.2.2.1 dm := congrFun sq781.2.2.2.2.1 dm
                    have hl798 : 0 ≤ hq781.2.2.2.1 co ∧ hq781.2.2.2.1 co ≤ 12288 := gJ.rowl (G := gGG) sq781.1 tco rfl
                    have hl799 : 0 ≤ hq781.2.2.2.1 dm ∧ hq781.2.2.2.1 dm ≤ 192 := gJ.rowl (G := gGG) sq781.1 tdm rfl
                    have k800 := sq781.2.1
                    have k800b := sq781.2.2.1
                    have hl801 : hq781.2.2.2.1 co = h.2.2.2.1 co := congrFun sq781.2.2.2.2.1 co
                    have hl802 : hq781.2.2.2.1 dm = h.2.2.2.1 dm := congrFun sq781.2.2.2.2.1 dm
                    have hpc803 : gPC ty pic b0 b1 b2 (hq781.2.2.2.1 dm : Int) hq781 := gPC.zero sq781.1 tpic s784 tbn s785 tb0 s786 tb1 s787 tb2 s788 tco s789 tdm (by rw [(by omega : (0 : Int) = cn)]; exact s791) bl s792 (by omega) w s793 (by omega) (by omega) (by omega) (by omega) (by omega)
                    have G804 : gSg [112, 113] [] [54002, 54003, 54004, 54005, 54006, 54007, 54008, 54010, 54011, 54012, 54013, 82000, 82001, 82002, 82003, 82004, 82005, 82006, 82007, 82008, 83000, 83001, 83002, 83003, 83004, 83005, 83006, 83007, 83008, 84000, 84001, 84002, 84003, 84004, 84005, 84006, 84007, 84008, 112999, 113999] ty h ty hq781 := gSg.ss G0 sq781 (by decide)
                    exact gz_end (I := .ireturn) (len := 1) rfl (Or.inl rfl) ⟨ty, G804, a + 5, cn, (hq781.2.2.2.1 dm : Int), rfl, (by omega), (by omega), s791, (by omega), (by omega), (by omega), (by omega), (by dsimp only; omega), (by dsimp only; omega), (by omega), hpc803⟩
                  · refine gy_icF rfl (by decide) (by decide) (by omega) (by omega) hc794 ?_
                    refine gz_s 2 (pc' := 140) (L' := [some (.ref x), some (.int (zi m)), some (.int (zi a)), some (.int (zi n)), some (.int (zi zq1)), some (.int (zi jn14v0)), some (.int (zi zq756)), some (.int (zi zq781)), none, none]) (S' := [.int (zi 64), .int (zi zq781)]) rfl ?_
                    by_cases hc805 : (zq781 : Int) ≤ 64
                    · refine gy_icT (pc' := 147) rfl (by decide) (by decide) (by omega) (by omega) hc805 ?_
                      refine gz_s 1 (pc' := 149) (L' := [some (.ref x), some (.int (zi m)), some (.int (zi a)), some (.int (zi n)), some (.int (zi zq1)), some (.int (zi jn14v0)), some (.int (zi zq756)), some (.int (zi zq781)), none, none]) (S' := [.int (zi jn14v0)]) rfl ?_
                      refine gy_ifT (pc' := 157) rfl (by decide) (by decide) (by omega) (by first | (simp [zc]; done) | (simp only [zc]; omega)) ?_
                      refine gz_s 4 (pc' := 164) (L' := [some (.ref x), some (.int (zi m)), some (.int (zi a)), some (.int (zi n)), some (.int (zi zq1)), some (.int (zi jn14v0)), some (.int (zi zq756)), some (.int (zi zq781)), some (.int (zi 0)), none]) (S' := [.int (zi zq1), .int (zi 0)]) rfl ?_
                      refine gy_icF rfl (by decide) (by decide) (by omega) (by omega) (by first | (simp [zc]; done) | (simp only [zc]; omega)) ?_
                      refine gy_s 9 (pc' := 179) (L' := [some (.ref x), some (.int (zi m)), some (.int (zi a)), some (.int (zi n)), some (.int (zi zq1)), some (.int (zi jn14v0)), some (.int (zi zq756)), some (.int (zi zq781)), some (.int (zi 0)), none]) (S' := [.int (((zi a) + (zi 8)) + ((zi 3) * (zi 0))), .int (zi 0), .ref x]) (L2 := [some (.ref x), some (.int (zi m)), some (.int (zi a)), some (.int (zi n)), some (.int (zi zq1)), some (.int (zi jn14v0)), some (.int (zi zq756)), some (.int (zi zq781)), some (.int (zi 0)), none]) (S2 := [.int (zi ((a + 8) + 0)), .int (zi 0), .ref x]) rfl (by simp only [zi_add, zi_sub, zi_mul, zi_neg, zi_and1, zi_and7, zi_and15, zi_and31, zi_and255, Int.reduceAdd, Int.reduceMul, Int.reduceSub]) (by simp only [zi_add, zi_sub, zi_mul, zi_neg, zi_and1, zi_and7, zi_and15, zi_and31, zi_and255, Int.reduceAdd, Int.reduceMul, Int.reduceSub]) ?_
                      refine gz_call rfl (by decide) rfl (by decide) (by decide) (gcal_of rfl rfl rfl (Nat.le_of_ble_eq_true rfl) (gJ.recv (G := gGG) sq781.1 tx rfl rfl)) (cl_readBand0 _ sq781.1 x tx 0 (by omega) ((a + 8) + 0) (by omega) src s782 tsrc pic s783 tpic bn s784 tbn b0 s785 tb0 sz s790 (by omega) uq) (fun q806 _ wq806 => ?_)
                      obtain ⟨pq806, oq806, hq806⟩ := q806
                      obtain ⟨xq806, zq806, fq806_0, fq806_1, fq806_2, gq806, aq806, bq806, efq806_0, afq806_0, bfq806_0, efq806_1, afq806_1, bfq806_1, efq806_2, afq806_2, bfq806_2, uq806_0⟩ := wq806
                      refine ⟨_, gq806, ?_⟩
                      show gz gPP gGG gcn _ _ 182 [some (.ref x), some (.int (zi m)), some (.int (zi a)), some (.int (zi n)), some (.int (zi zq1)), some (.int (zi jn14v0)), some (.int (zi zq756)), some (.int (zi zq781)), some (.int (zi 0)), none] [.int (zi zq806)] hq806 _
                      have sq806 : gSs rT 1027 ty [54002, 54003, 54004, 54005, 54006, 54007, 54008, 54010, 54011, 54012, 54013, 82000, 82001, 82002, 82003, 82004, 82005, 82006, 82007, 82008, 83000, 83001, 83002, 83003, 83004, 83005, 83006, 83007, 83008, 84000, 84001, 84002, 84003, 84004, 84005, 84006, 84007, 84008, 112999, 113999] h hq806 := gSs.tr sq781 xq806 (by decide)
                      have s807 := (xq806.2.2.2.2.2 x 0 (by rw [tx]; decide)).trans s782
                      have s808 := (xq806.2.2.2.2.2 x 1 (by rw [tx]; decide)).trans s783
                      have s809 := (xq806.2.2.2.2.2 pic 0 (by rw [tpic]; decide)).trans s784
                      have s810 := (xq806.2.2.2.2.2 bn 0 (by rw [tbn]; decide)).trans s785
                      have s811 := (xq806.2.2.2.2.2 bn 1 (by rw [tbn]; decide)).trans s786
                      have s812 := (xq806.2.2.2.2.2 bn 2 (by rw [tbn]; decide)).trans s787
                      have s813 := (xq806.2.2.2.2.2 pic 2 (by rw [tpic]; decide)).trans s788
                      have s814 := (xq806.2.2.2.2.2 pic 3 (by rw [tpic]; decide)).trans s789
                      have s815 := (xq806.2.2.2.2.2 src 1 (by rw [tsrc]; decide)).trans s790
                      have s816 := (xq806.2.2.2.2.2 pic 7 (by rw [tpic]; decide)).trans s791
                      have s817 := (xq806.2.2.2.2.2 pic 8 (by rw [tpic]; decide)).trans s792
                      have s818 := (xq806.2.2.2.2.2 pic 5 (by rw [tpic]; decide)).trans s793
                      refine gz_s 3 (pc' := 187) (L' := [some (.ref x), some (.int (zi m)), some (.int (zi a)), some (.int (zi n)), some (.int (zi zq1)), some (.int (zi jn14v0)), some (.int (zi zq756)), some (.int (zi zq781)), some (.int (zi 0)), some (.int (zi zq806))]) (S' := [.int (zi (-1)), .int (zi zq806)]) rfl ?_
                      by_cases hc819 : (zq806 : Int) = (-1)
                      · refine gy_icT (pc' := 193) rfl (by decide) (by decide) (by omega) (by omega) hc819 ?_
                        refine gy_s 4 (pc' := 164) (L' := [some (.ref x), some (.int (zi m)), some (.int (zi a)), some (.int (zi n)), some (.int (zi zq1)), some (.int (zi jn14v0)), some (.int (zi zq756)), some (.int (zi zq781)), some (.int ((zi 0) + zi 1)), some (.int (zi zq806))]) (S' := [.int (zi zq1), .int ((zi 0) + zi 1)]) (L2 := [some (.ref x), some (.int (zi m)), some (.int (zi a)), some (.int (zi n)), some (.int (zi zq1)), some (.int (zi jn14v0)), some (.int (zi zq756)), some (.int (zi zq781)), some (.int (zi 1)), some (.int (zi zq806))]) (S2 := [.int (zi zq1), .int (zi 1)]) rfl (by simp only [zi_add, zi_sub, zi_mul, zi_neg, zi_and1, zi_and7, zi_and15, zi_and31, zi_and255, Int.reduceAdd, Int.reduceMul, Int.reduceSub]) (by simp only [zi_add, zi_sub, zi_mul, zi_neg, zi_and1, zi_and7, zi_and15, zi_and31, zi_and255, Int.reduceAdd, Int.reduceMul, Int.reduceSub]) ?_
                        by_cases hc820 : (zq1 : Int) ≤ 1
                        · refine gy_icT (pc' := 199) rfl (by decide) (by decide) (by omega) (by omega) hc820 ?_
                          refine gz_s 1 (pc' := 200) (L' := [some (.ref x), some (.int (zi m)), some (.int (zi a)), some (.int (zi n)), some (.int (zi zq1)), some (.int (zi jn14v0)), some (.int (zi zq756)), some (.int (zi zq781)), some (.int (zi 1)), some (.int (zi zq806))]) (S' := [.ref x]) rfl ?_
                          refine gs_gtk rfl (by decide) rfl sq806.1 tx rfl rfl s808 ?_
                          refine gz_s 2 (pc' := 207) (L' := [some (.ref x), some (.int (zi m)), some (.int (zi a)), some (.int (zi n)), some (.int (zi zq1)), some (.int (zi jn14v0)), some (.int (zi zq756)), some (.int (zi zq781)), some (.int (zi 1)), some (.int (zi zq806))]) (S' := [.int (zi 194), .int (zi m), .ref pic]) rfl ?_
                          by_cases hc821 : ¬ (m : Int) = 194
                          · refine gy_icT (pc' := 214) rfl (by decide) (by decide) (by omega) (by omega) hc821 ?_
                            refine gz_s 1 (pc' := 215) (L' := [some (.ref x), some (.int (zi m)), some (.int (zi a)), some (.int (zi n)), some (.int (zi zq1)), some (.int (zi jn14v0)), some (.int (zi zq756)), some (.int (zi zq781)), some (.int (zi 1)), some (.int (zi zq806))]) (S' := [.int (zi 0), .ref pic]) rfl ?_
                            refine gs_put rfl (by decide) rfl sq806 tpic rfl rfl rfl rfl (Or.inl rfl) (by decide) (by omega) (by omega) (fun h822 sh822 eh822 fh822 => ?_)
                            have s823 := (fh822 x 0 (fun q => absurd q.2 (by decide))).trans s807
                            have s824 := (fh822 x 1 (fun q => absurd q.2 (by decide))).trans s808
                            have s825 := (fh822 pic 0 (fun q => absurd q.2 (by decide))).trans s809
                            have s826 := (fh822 bn 0 (fun q => absurd (((tbn).symm.trans (congrArg ty q.1)).trans tpic) (by decide))).trans s810
                            have s827 := (fh822 bn 1 (fun q => absurd (((tbn).symm.trans (congrArg ty q.1)).trans tpic) (by decide))).trans s811
                            have s828 := (fh822 bn 2 (fun q => absurd (((tbn).symm.trans (congrArg ty q.1)).trans tpic) (by decide))).trans s812
                            have s829 := (fh822 pic 2 (fun q => absurd q.2 (by decide))).trans s813
                            have s830 := (fh822 pic 3 (fun q => absurd q.2 (by decide))).trans s814
                            have s831 := (fh822 src 1 (fun q => absurd q.2 (by decide))).trans s815
                            have s832 := (fh822 pic 7 (fun q => absurd q.2 (by decide))).trans s816
                            have s833 := (fh822 pic 8 (fun q => absurd q.2 (by decide))).trans s817
                            have s834 := (fh822 pic 5 (fun q => absurd q.2 (by decide))).trans s818
                            have s835 := (fh822 b0 1 (fun q => absurd q.2 (by decide))).trans efq806_0
                            have s836 := (fh822 b0 2 (fun q => absurd q.2 (by decide))).trans efq806_1
                            have s837 := (fh822 b0 3 (fun q => absurd q.2 (by decide))).trans efq806_2
                            refine gz_s 1 (pc' := 219) (L' := [some (.ref x), some (.int (zi m)), some (.int (zi a)), some (.int (zi n)), some (.int (zi zq1)), some (.int (zi jn14v0)), some (.int (zi zq756)), some (.int (zi zq781)), some (.int (zi 1)), some (.int (zi zq806))]) (S' := [.ref x]) rfl ?_
                            refine gs_gtk rfl (by decide) rfl sh822.1 tx rfl rfl s824 ?_
                            refine gz_s 3 (pc' := 228) (L' := [some (.ref x), some (.int (zi m)), some (.int (zi a)), some (.int (zi n)), some (.int (zi zq1)), some (.int (zi jn14v0)), some (.int (zi zq756)), some (.int (zi zq781)), some (.int (zi 1)), some (.int (zi zq806))]) (S' := [.int (zi zq1), .int (zi zq756), .int (zi zq781), .ref pic]) rfl ?_
                            have k838 := sh822.2.1
                            have k838b := sh822.2.2.1
                            have hl839 : h822.2.2.2.1 co = h.2.2.2.1 co := congrFun sh822.2.2.2.2.1 co
                            have hl840 : h822.2.2.2.1 dm = h.2.2.2.1 dm := congrFun sh822.2.2.2.2.1 dm
                            have hl841 : h822.2.2.2.1 co = h.2.2.2.1 co := congrFun sh822.2.2.2.2.1 co
                            have hl842 : h822.2.2.2.1 dm = h.2.2.2.1 dm := congrFun sh822.2.2.2.2.1 dm
                            obtain ⟨z843, ez843, az843, bz843⟩ := gJ.int (k := 1) (G := gGG) sh822.1 tb1 rfl rfl rfl
                            obtain ⟨z844, ez844, az844, bz844⟩ := gJ.int (k := 2) (G := gGG) sh822.1 tb1 rfl rfl rfl
                            obtain ⟨z845, ez845, az845, bz845⟩ := gJ.int (k := 3) (G := gGG) sh822.1 tb1 rfl rfl rfl
                            obtain ⟨z846, ez846, az846, bz846⟩ := gJ.int (k := 1) (G := gGG) sh822.1 tb2 rfl rfl rfl
                            obtain ⟨z847, ez847, az847, bz847⟩ := gJ.int (k := 2) (G := gGG) sh822.1 tb2 rfl rfl rfl
                            obtain ⟨z848, ez848, az848, bz848⟩ := gJ.int (k := 3) (G := gGG) sh822.1 tb2 rfl rfl rfl
                            refine gz_call rfl (by decide) rfl (by decide) (by decide) (gcal_of rfl rfl rfl (Nat.le_of_ble_eq_true rfl) (gJ.recv (G := gGG) sh822.1 tpic rfl rfl)) (cl_Picture_begin _ sh822.1 pic tpic zq781 (by omega) zq756 (by omega) zq1 (by omega) bn s825 tbn b0 s826 tb0 b1 s827 tb1 b2 s828 tb2 co s829 tco dm s830 tdm fq806_0 s835 (by omega) fq806_1 s836 (by omega) fq806_2 s837 (by omega) z843 ez843 (by omega) z844 ez844 (by omega) z845 ez845 (by omega) z846 ez846 (by omega) z847 ez847 (by omega) z848 ez848 (by omega) (by omega) (by omega) (by omega) (by omega) (by omega) uq) (fun q849 _ wq849 => ?_)
                            obtain ⟨pq849, oq849, hq849⟩ := q849
                            obtain ⟨tyq849, xq849, fq849_0, xq849_0, gq849, efq849_0, afq849_0, bfq849_0, axq849_0, bxq849_0, uq849_0, uq849_1, uq849_2, uq849_3, yq849_0⟩ := wq849
                            dsimp only at uq849_1 uq849_2
                            refine ⟨_, gq849, ?_⟩
                            show gz gPP gGG gcn _ _ 231 [some (.ref x), some (.int (zi m)), some (.int (zi a)), some (.int (zi n)), some (.int (zi zq1)), some (.int (zi jn14v0)), some (.int (zi zq756)), some (.int (zi zq781)), some (.int (zi 1)), some (.int (zi zq806))] [] hq849 _
                            have G850 : gSg [112, 113] [] [54002, 54003, 54004, 54005, 54006, 54007, 54008, 54010, 54011, 54012, 54013, 82000, 82001, 82002, 82003, 82004, 82005, 82006, 82007, 82008, 83000, 83001, 83002, 83003, 83004, 83005, 83006, 83007, 83008, 84000, 84001, 84002, 84003, 84004, 84005, 84006, 84007, 84008, 112999, 113999] ty h tyq849 hq849 := gSg.tr (gSg.ss G0 sh822 (by decide)) xq849 (by decide) (by decide) (fun x hx => by cases hx)
                            have t851 : tyq849 x = 65 := gSg.typ xq849 sh822.1 tx rfl
                            have t852 : tyq849 src = 51 := gSg.typ xq849 sh822.1 tsrc rfl
                            have t853 : tyq849 pic = 54 := gSg.typ xq849 sh822.1 tpic rfl
                            have t854 : tyq849 bn = 57 := gSg.typ xq849 sh822.1 tbn rfl
                            have t855 : tyq849 b0 = 82 := gSg.typ xq849 sh822.1 tb0 rfl
                            have t856 : tyq849 b1 = 83 := gSg.typ xq849 sh822.1 tb1 rfl
                            have t857 : tyq849 b2 = 84 := gSg.typ xq849 sh822.1 tb2 rfl
                            have t858 : tyq849 co = 112 := gSg.typ xq849 sh822.1 tco rfl
                            have hl859 : hq849.2.2.2.1 co = h822.2.2.2.1 co := gSg.len xq849 sh822.1 tco rfl
                            have t860 : tyq849 dm = 113 := gSg.typ xq849 sh822.1 tdm rfl
                            have hl861 : hq849.2.2.2.1 dm = h822.2.2.2.1 dm := gSg.len xq849 sh822.1 tdm rfl
                            have s862 := gSg.at xq849 sh822.1 tx rfl (by decide) s823
                            have s863 := gSg.at xq849 sh822.1 tx rfl (by decide) s824
                            have s864 := gSg.at xq849 sh822.1 tpic rfl (by decide) s825
                            have s865 := gSg.at xq849 sh822.1 tbn rfl (by decide) s826
                            have s866 := gSg.at xq849 sh822.1 tbn rfl (by decide) s827
                            have s867 := gSg.at xq849 sh822.1 tbn rfl (by decide) s828
                            have s868 := gSg.at xq849 sh822.1 tsrc rfl (by decide) s831
                            have s869 := gSg.at xq849 sh822.1 tb0 rfl (by decide) s835
                            have s870 := gSg.at xq849 sh822.1 tb0 rfl (by decide) s836
                            have s871 := gSg.at xq849 sh822.1 tb0 rfl (by decide) s837
                            have s872 := gSg.at xq849 sh822.1 tpic rfl (by decide) eh822
                            have s873 := gSg.at xq849 sh822.1 tb1 rfl (by decide) ez843
                            have s874 := gSg.at xq849 sh822.1 tb1 rfl (by decide) ez844
                            have s875 := gSg.at xq849 sh822.1 tb1 rfl (by decide) ez845
                            have s876 := gSg.at xq849 sh822.1 tb2 rfl (by decide) ez846
                            have s877 := gSg.at xq849 sh822.1 tb2 rfl (by decide) ez847
                            have s878 := gSg.at xq849 sh822.1 tb2 rfl (by decide) ez848
                            have uq879 := gSg.uq xq849 uq (by decide)
                            have sS880 : gSs rT 1027 tyq849 [54002, 54003, 54004, 54005, 54006, 54007, 54008, 54010, 54011, 54012, 54013, 82000, 82001, 82002, 82003, 82004, 82005, 82006, 82007, 82008, 83000, 83001, 83002, 83003, 83004, 83005, 83006, 83007, 83008, 84000, 84001, 84002, 84003, 84004, 84005, 84006, 84007, 84008, 112999, 113999] hq849 hq849 := gSs.rf xq849.1
                            refine gz_s 1 (pc' := 232) (L' := [some (.ref x), some (.int (zi m)), some (.int (zi a)), some (.int (zi n)), some (.int (zi zq1)), some (.int (zi jn14v0)), some (.int (zi zq756)), some (.int (zi zq781)), some (.int (zi 1)), some (.int (zi zq806))]) (S' := [.int (zi (-1))]) rfl ?_
                            have hl881 : 0 ≤ hq849.2.2.2.1 co ∧ hq849.2.2.2.1 co ≤ 12288 := gJ.rowl (G := gGG) sS880.1 t858 rfl
                            have hl882 : 0 ≤ hq849.2.2.2.1 dm ∧ hq849.2.2.2.1 dm ≤ 192 := gJ.rowl (G := gGG) sS880.1 t860 rfl
                            have G883 : gSg [112, 113] [] [54002, 54003, 54004, 54005, 54006, 54007, 54008, 54010, 54011, 54012, 54013, 82000, 82001, 82002, 82003, 82004, 82005, 82006, 82007, 82008, 83000, 83001, 83002, 83003, 83004, 83005, 83006, 83007, 83008, 84000, 84001, 84002, 84003, 84004, 84005, 84006, 84007, 84008, 112999, 113999] ty h tyq849 hq849 := gSg.ss G850 sS880 (by decide)
                            exact gz_end (I := .ireturn) (len := 1) rfl (Or.inl rfl) ⟨tyq849, G883, (-1), fq849_0, xq849_0, rfl, (by omega), (by omega), efq849_0, (by omega), (by omega), (by omega), (by omega), (by dsimp only; omega), (by dsimp only; omega), (by omega), yq849_0⟩
                          · refine gy_icF rfl (by decide) (by decide) (by omega) (by omega) hc821 ?_
                            refine gz_s 2 (pc' := 215) (L' := [some (.ref x), some (.int (zi m)), some (.int (zi a)), some (.int (zi n)), some (.int (zi zq1)), some (.int (zi jn14v0)), some (.int (zi zq756)), some (.int (zi zq781)), some (.int (zi 1)), some (.int (zi zq806))]) (S' := [.int (zi 1), .ref pic]) rfl ?_
                            refine gs_put rfl (by decide) rfl sq806 tpic rfl rfl rfl rfl (Or.inl rfl) (by decide) (by omega) (by omega) (fun h884 sh884 eh884 fh884 => ?_)
                            have s885 := (fh884 x 0 (fun q => absurd q.2 (by decide))).trans s807
                            have s886 := (fh884 x 1 (fun q => absurd q.2 (by decide))).trans s808
                            have s887 := (fh884 pic 0 (fun q => absurd q.2 (by decide))).trans s809
                            have s888 := (fh884 bn 0 (fun q => absurd (((tbn).symm.trans (congrArg ty q.1)).trans tpic) (by decide))).trans s810
                            have s889 := (fh884 bn 1 (fun q => absurd (((tbn).symm.trans (congrArg ty q.1)).trans tpic) (by decide))).trans s811
                            have s890 := (fh884 bn 2 (fun q => absurd (((tbn).symm.trans (congrArg ty q.1)).trans tpic) (by decide))).trans s812
                            have s891 := (fh884 pic 2 (fun q => absurd q.2 (by decide))).trans s813
                            have s892 := (fh884 pic 3 (fun q => absurd q.2 (by decide))).trans s814
                            have s893 := (fh884 src 1 (fun q => absurd q.2 (by decide))).trans s815
                            have s894 := (fh884 pic 7 (fun q => absurd q.2 (by decide))).trans s816
                            have s895 := (fh884 pic 8 (fun q => absurd q.2 (by decide))).trans s817
                            have s896 := (fh884 pic 5 (fun q => absurd q.2 (by decide))).trans s818
                            have s897 := (fh884 b0 1 (fun q => absurd q.2 (by decide))).trans efq806_0
                            have s898 := (fh884 b0 2 (fun q => absurd q.2 (by decide))).trans efq806_1
                            have s899 := (fh884 b0 3 (fun q => absurd q.2 (by decide))).trans efq806_2
                            refine gz_s 1 (pc' := 219) (L' := [some (.ref x), some (.int (zi m)), some (.int (zi a)), some (.int (zi n)), some (.int (zi zq1)), some (.int (zi jn14v0)), some (.int (zi zq756)), some (.int (zi zq781)), some (.int (zi 1)), some (.int (zi zq806))]) (S' := [.ref x]) rfl ?_
                            refine gs_gtk rfl (by decide) rfl sh884.1 tx rfl rfl s886 ?_
                            refine gz_s 3 (pc' := 228) (L' := [some (.ref x), some (.int (zi m)), some (.int (zi a)), some (.int (zi n)), some (.int (zi zq1)), some (.int (zi jn14v0)), some (.int (zi zq756)), some (.int (zi zq781)), some (.int (zi 1)), some (.int (zi zq806))]) (S' := [.int (zi zq1), .int (zi zq756), .int (zi zq781), .ref pic]) rfl ?_
                            have k900 := sh884.2.1
                            have k900b := sh884.2.2.1
                            have hl901 : h884.2.2.2.1 co = h.2.2.2.1 co := congrFun sh884.2.2.2.2.1 co
                            have hl902 : h884.2.2.2.1 dm = h.2.2.2.1 dm := congrFun sh884.2.2.2.2.1 dm
                            have hl903 : h884.2.2.2.1 co = h.2.2.2.1 co := congrFun sh884.2.2.2.2.1 co
                            have hl904 : h884.2.2.2.1 dm = h.2.2.2.1 dm := congrFun sh884.2.2.2.2.1 dm
                            obtain ⟨z905, ez905, az905, bz905⟩ := gJ.int (k := 1) (G := gGG) sh884.1 tb1 rfl rfl rfl
                            obtain ⟨z906, ez906, az906, bz906⟩ := gJ.int (k := 2) (G := gGG) sh884.1 tb1 rfl rfl rfl
                            obtain ⟨z907, ez907, az907, bz907⟩ := gJ.int (k := 3) (G := gGG) sh884.1 tb1 rfl rfl rfl
                            obtain ⟨z908, ez908, az908, bz908⟩ := gJ.int (k := 1) (G := gGG) sh884.1 tb2 rfl rfl rfl
                            obtain ⟨z909, ez909, az909, bz909⟩ := gJ.int (k := 2) (G := gGG) sh884.1 tb2 rfl rfl rfl
                            obtain ⟨z910, ez910, az910, bz910⟩ := gJ.int (k := 3) (G := gGG) sh884.1 tb2 rfl rfl rfl
                            refine gz_call rfl (by decide) rfl (by decide) (by decide) (gcal_of rfl rfl rfl (Nat.le_of_ble_eq_true rfl) (gJ.recv (G := gGG) sh884.1 tpic rfl rfl)) (cl_Picture_begin _ sh884.1 pic tpic zq781 (by omega) zq756 (by omega) zq1 (by omega) bn s887 tbn b0 s888 tb0 b1 s889 tb1 b2 s890 tb2 co s891 tco dm s892 tdm fq806_0 s897 (by omega) fq806_1 s898 (by omega) fq806_2 s899 (by omega) z905 ez905 (by omega) z906 ez906 (by omega) z907 ez907 (by omega) z908 ez908 (by omega) z909 ez909 (by omega) z910 ez910 (by omega) (by omega) (by omega) (by omega) (by omega) (by omega) uq) (fun q911 _ wq911 => ?_)
                            obtain ⟨pq911, oq911, hq911⟩ := q911
                            obtain ⟨tyq911, xq911, fq911_0, xq911_0, gq911, efq911_0, afq911_0, bfq911_0, axq911_0, bxq911_0, uq911_0, uq911_1, uq911_2, uq911_3, yq911_0⟩ := wq911
                            dsimp only at uq911_1 uq911_2
                            refine ⟨_, gq911, ?_⟩
                            show gz gPP gGG gcn _ _ 231 [some (.ref x), some (.int (zi m)), some (.int (zi a)), some (.int (zi n)), some (.int (zi zq1)), some (.int (zi jn14v0)), some (.int (zi zq756)), some (.int (zi zq781)), some (.int (zi 1)), some (.int (zi zq806))] [] hq911 _
                            have G912 : gSg [112, 113] [] [54002, 54003, 54004, 54005, 54006, 54007, 54008, 54010, 54011, 54012, 54013, 82000, 82001, 82002, 82003, 82004, 82005, 82006, 82007, 82008, 83000, 83001, 83002, 83003, 83004, 83005, 83006, 83007, 83008, 84000, 84001, 84002, 84003, 84004, 84005, 84006, 84007, 84008, 112999, 113999] ty h tyq911 hq911 := gSg.tr (gSg.ss G0 sh884 (by decide)) xq911 (by decide) (by decide) (fun x hx => by cases hx)
                            have t913 : tyq911 x = 65 := gSg.typ xq911 sh884.1 tx rfl
                            have t914 : tyq911 src = 51 := gSg.typ xq911 sh884.1 tsrc rfl
                            have t915 : tyq911 pic = 54 := gSg.typ xq911 sh884.1 tpic rfl
                            have t916 : tyq911 bn = 57 := gSg.typ xq911 sh884.1 tbn rfl
                            have t917 : tyq911 b0 = 82 := gSg.typ xq911 sh884.1 tb0 rfl
                            have t918 : tyq911 b1 = 83 := gSg.typ xq911 sh884.1 tb1 rfl
                            have t919 : tyq911 b2 = 84 := gSg.typ xq911 sh884.1 tb2 rfl
                            have t920 : tyq911 co = 112 := gSg.typ xq911 sh884.1 tco rfl
                            have hl921 : hq911.2.2.2.1 co = h884.2.2.2.1 co := gSg.len xq911 sh884.1 tco rfl
                            have t922 : tyq911 dm = 113 := gSg.typ xq911 sh884.1 tdm rfl
                            have hl923 : hq911.2.2.2.1 dm = h884.2.2.2.1 dm := gSg.len xq911 sh884.1 tdm rfl
                            have s924 := gSg.at xq911 sh884.1 tx rfl (by decide) s885
                            have s925 := gSg.at xq911 sh884.1 tx rfl (by decide) s886
                            have s926 := gSg.at xq911 sh884.1 tpic rfl (by decide) s887
                            have s927 := gSg.at xq911 sh884.1 tbn rfl (by decide) s888
                            have s928 := gSg.at xq911 sh884.1 tbn rfl (by decide) s889
                            have s929 := gSg.at xq911 sh884.1 tbn rfl (by decide) s890
                            have s930 := gSg.at xq911 sh884.1 tsrc rfl (by decide) s893
                            have s931 := gSg.at xq911 sh884.1 tb0 rfl (by decide) s897
                            have s932 := gSg.at xq911 sh884.1 tb0 rfl (by decide) s898
                            have s933 := gSg.at xq911 sh884.1 tb0 rfl (by decide) s899
                            have s934 := gSg.at xq911 sh884.1 tpic rfl (by decide) eh884
                            have s935 := gSg.at xq911 sh884.1 tb1 rfl (by decide) ez905
                            have s936 := gSg.at xq911 sh884.1 tb1 rfl (by decide) ez906
                            have s937 := gSg.at xq911 sh884.1 tb1 rfl (by decide) ez907
                            have s938 := gSg.at xq911 sh884.1 tb2 rfl (by decide) ez908
                            have s939 := gSg.at xq911 sh884.1 tb2 rfl (by decide) ez909
                            have s940 := gSg.at xq911 sh884.1 tb2 rfl (by decide) ez910
                            have uq941 := gSg.uq xq911 uq (by decide)
                            have sS942 : gSs rT 1027 tyq911 [54002, 54003, 54004, 54005, 54006, 54007, 54008, 54010, 54011, 54012, 54013, 82000, 82001, 82002, 82003, 82004, 82005, 82006, 82007, 82008, 83000, 83001, 83002, 83003, 83004, 83005, 83006, 83007, 83008, 84000, 84001, 84002, 84003, 84004, 84005, 84006, 84007, 84008, 112999, 113999] hq911 hq911 := gSs.rf xq911.1
                            refine gz_s 1 (pc' := 232) (L' := [some (.ref x), some (.int (zi m)), some (.int (zi a)), some (.int (zi n)), some (.int (zi zq1)), some (.int (zi jn14v0)), some (.int (zi zq756)), some (.int (zi zq781)), some (.int (zi 1)), some (.int (zi zq806))]) (S' := [.int (zi (-1))]) rfl ?_
                            have hl943 : 0 ≤ hq911.2.2.2.1 co ∧ hq911.2.2.2.1 co ≤ 12288 := gJ.rowl (G := gGG) sS942.1 t920 rfl
                            have hl944 : 0 ≤ hq911.2.2.2.1 dm ∧ hq911.2.2.2.1 dm ≤ 192 := gJ.rowl (G := gGG) sS942.1 t922 rfl
                            have G945 : gSg [112, 113] [] [54002, 54003, 54004, 54005, 54006, 54007, 54008, 54010, 54011, 54012, 54013, 82000, 82001, 82002, 82003, 82004, 82005, 82006, 82007, 82008, 83000, 83001, 83002, 83003, 83004, 83005, 83006, 83007, 83008, 84000, 84001, 84002, 84003, 84004, 84005, 84006, 84007, 84008, 112999, 113999] ty h tyq911 hq911 := gSg.ss G912 sS942 (by decide)
                            exact gz_end (I := .ireturn) (len := 1) rfl (Or.inl rfl) ⟨tyq911, G945, (-1), fq911_0, xq911_0, rfl, (by omega), (by omega), efq911_0, (by omega), (by omega), (by omega), (by omega), (by dsimp only; omega), (by dsimp only; omega), (by omega), yq911_0⟩
                        · refine gy_icF rfl (by decide) (by decide) (by omega) (by omega) hc820 ?_
                          refine gy_s 9 (pc' := 179) (L' := [some (.ref x), some (.int (zi m)), some (.int (zi a)), some (.int (zi n)), some (.int (zi zq1)), some (.int (zi jn14v0)), some (.int (zi zq756)), some (.int (zi zq781)), some (.int (zi 1)), some (.int (zi zq806))]) (S' := [.int (((zi a) + (zi 8)) + ((zi 3) * (zi 1))), .int (zi 1), .ref x]) (L2 := [some (.ref x), some (.int (zi m)), some (.int (zi a)), some (.int (zi n)), some (.int (zi zq1)), some (.int (zi jn14v0)), some (.int (zi zq756)), some (.int (zi zq781)), some (.int (zi 1)), some (.int (zi zq806))]) (S2 := [.int (zi ((a + 8) + 3)), .int (zi 1), .ref x]) rfl (by simp only [zi_add, zi_sub, zi_mul, zi_neg, zi_and1, zi_and7, zi_and15, zi_and31, zi_and255, Int.reduceAdd, Int.reduceMul, Int.reduceSub]) (by simp only [zi_add, zi_sub, zi_mul, zi_neg, zi_and1, zi_and7, zi_and15, zi_and31, zi_and255, Int.reduceAdd, Int.reduceMul, Int.reduceSub]) ?_
                          refine gz_call rfl (by decide) rfl (by decide) (by decide) (gcal_of rfl rfl rfl (Nat.le_of_ble_eq_true rfl) (gJ.recv (G := gGG) sq806.1 tx rfl rfl)) (cl_readBand1 _ sq806.1 x tx 1 (by omega) ((a + 8) + 3) (by omega) src s807 tsrc pic s808 tpic bn s809 tbn b0 s810 tb0 b1 s811 tb1 sz s815 (by omega) uq) (fun q946 _ wq946 => ?_)
                          obtain ⟨pq946, oq946, hq946⟩ := q946
                          obtain ⟨xq946, zq946, fq946_0, fq946_1, fq946_2, gq946, aq946, bq946, efq946_0, afq946_0, bfq946_0, efq946_1, afq946_1, bfq946_1, efq946_2, afq946_2, bfq946_2, uq946_0⟩ := wq946
                          refine ⟨_, gq946, ?_⟩
                          show gz gPP gGG gcn _ _ 182 [some (.ref x), some (.int (zi m)), some (.int (zi a)), some (.int (zi n)), some (.int (zi zq1)), some (.int (zi jn14v0)), some (.int (zi zq756)), some (.int (zi zq781)), some (.int (zi 1)), some (.int (zi zq806))] [.int (zi zq946)] hq946 _
                          have sq946 : gSs rT 1027 ty [54002, 54003, 54004, 54005, 54006, 54007, 54008, 54010, 54011, 54012, 54013, 82000, 82001, 82002, 82003, 82004, 82005, 82006, 82007, 82008, 83000, 83001, 83002, 83003, 83004, 83005, 83006, 83007, 83008, 84000, 84001, 84002, 84003, 84004, 84005, 84006, 84007, 84008, 112999, 113999] h hq946 := gSs.tr sq806 xq946 (by decide)
                          have s947 := (xq946.2.2.2.2.2 x 0 (by rw [tx]; decide)).trans s807
                          have s948 := (xq946.2.2.2.2.2 x 1 (by rw [tx]; decide)).trans s808
                          have s949 := (xq946.2.2.2.2.2 pic 0 (by rw [tpic]; decide)).trans s809
                          have s950 := (xq946.2.2.2.2.2 bn 0 (by rw [tbn]; decide)).trans s810
                          have s951 := (xq946.2.2.2.2.2 bn 1 (by rw [tbn]; decide)).trans s811
                          have s952 := (xq946.2.2.2.2.2 bn 2 (by rw [tbn]; decide)).trans s812
                          have s953 := (xq946.2.2.2.2.2 pic 2 (by rw [tpic]; decide)).trans s813
                          have s954 := (xq946.2.2.2.2.2 pic 3 (by rw [tpic]; decide)).trans s814
                          have s955 := (xq946.2.2.2.2.2 src 1 (by rw [tsrc]; decide)).trans s815
                          have s956 := (xq946.2.2.2.2.2 pic 7 (by rw [tpic]; decide)).trans s816
                          have s957 := (xq946.2.2.2.2.2 pic 8 (by rw [tpic]; decide)).trans s817
                          have s958 := (xq946.2.2.2.2.2 pic 5 (by rw [tpic]; decide)).trans s818
                          have s959 := (xq946.2.2.2.2.2 b0 1 (by rw [tb0]; decide)).trans efq806_0
                          have s960 := (xq946.2.2.2.2.2 b0 2 (by rw [tb0]; decide)).trans efq806_1
                          have s961 := (xq946.2.2.2.2.2 b0 3 (by rw [tb0]; decide)).trans efq806_2
                          refine gz_s 3 (pc' := 187) (L' := [some (.ref x), some (.int (zi m)), some (.int (zi a)), some (.int (zi n)), some (.int (zi zq1)), some (.int (zi jn14v0)), some (.int (zi zq756)), some (.int (zi zq781)), some (.int (zi 1)), some (.int (zi zq946))]) (S' := [.int (zi (-1)), .int (zi zq946)]) rfl ?_
                          by_cases hc962 : (zq946 : Int) = (-1)
                          · refine gy_icT (pc' := 193) rfl (by decide) (by decide) (by omega) (by omega) hc962 ?_
                            refine gy_s 4 (pc' := 164) (L' := [some (.ref x), some (.int (zi m)), some (.int (zi a)), some (.int (zi n)), some (.int (zi zq1)), some (.int (zi jn14v0)), some (.int (zi zq756)), some (.int (zi zq781)), some (.int ((zi 1) + zi 1)), some (.int (zi zq946))]) (S' := [.int (zi zq1), .int ((zi 1) + zi 1)]) (L2 := [some (.ref x), some (.int (zi m)), some (.int (zi a)), some (.int (zi n)), some (.int (zi zq1)), some (.int (zi jn14v0)), some (.int (zi zq756)), some (.int (zi zq781)), some (.int (zi 2)), some (.int (zi zq946))]) (S2 := [.int (zi zq1), .int (zi 2)]) rfl (by simp only [zi_add, zi_sub, zi_mul, zi_neg, zi_and1, zi_and7, zi_and15, zi_and31, zi_and255, Int.reduceAdd, Int.reduceMul, Int.reduceSub]) (by simp only [zi_add, zi_sub, zi_mul, zi_neg, zi_and1, zi_and7, zi_and15, zi_and31, zi_and255, Int.reduceAdd, Int.reduceMul, Int.reduceSub]) ?_
                            by_cases hc963 : (zq1 : Int) ≤ 2
                            · refine gy_icT (pc' := 199) rfl (by decide) (by decide) (by omega) (by omega) hc963 ?_
                              refine gz_s 1 (pc' := 200) (L' := [some (.ref x), some (.int (zi m)), some (.int (zi a)), some (.int (zi n)), some (.int (zi zq1)), some (.int (zi jn14v0)), some (.int (zi zq756)), some (.int (zi zq781)), some (.int (zi 2)), some (.int (zi zq946))]) (S' := [.ref x]) rfl ?_
                              refine gs_gtk rfl (by decide) rfl sq946.1 tx rfl rfl s948 ?_
                              refine gz_s 2 (pc' := 207) (L' := [some (.ref x), some (.int (zi m)), some (.int (zi a)), some (.int (zi n)), some (.int (zi zq1)), some (.int (zi jn14v0)), some (.int (zi zq756)), some (.int (zi zq781)), some (.int (zi 2)), some (.int (zi zq946))]) (S' := [.int (zi 194), .int (zi m), .ref pic]) rfl ?_
                              by_cases hc964 : ¬ (m : Int) = 194
                              · refine gy_icT (pc' := 214) rfl (by decide) (by decide) (by omega) (by omega) hc964 ?_
                                refine gz_s 1 (pc' := 215) (L' := [some (.ref x), some (.int (zi m)), some (.int (zi a)), some (.int (zi n)), some (.int (zi zq1)), some (.int (zi jn14v0)), some (.int (zi zq756)), some (.int (zi zq781)), some (.int (zi 2)), some (.int (zi zq946))]) (S' := [.int (zi 0), .ref pic]) rfl ?_
                                refine gs_put rfl (by decide) rfl sq946 tpic rfl rfl rfl rfl (Or.inl rfl) (by decide) (by omega) (by omega) (fun h965 sh965 eh965 fh965 => ?_)
                                have s966 := (fh965 x 0 (fun q => absurd q.2 (by decide))).trans s947
                                have s967 := (fh965 x 1 (fun q => absurd q.2 (by decide))).trans s948
                                have s968 := (fh965 pic 0 (fun q => absurd q.2 (by decide))).trans s949
                                have s969 := (fh965 bn 0 (fun q => absurd (((tbn).symm.trans (congrArg ty q.1)).trans tpic) (by decide))).trans s950
                                have s970 := (fh965 bn 1 (fun q => absurd (((tbn).symm.trans (congrArg ty q.1)).trans tpic) (by decide))).trans s951
                                have s971 := (fh965 bn 2 (fun q => absurd (((tbn).symm.trans (congrArg ty q.1)).trans tpic) (by decide))).trans s952
                                have s972 := (fh965 pic 2 (fun q => absurd q.2 (by decide))).trans s953
                                have s973 := (fh965 pic 3 (fun q => absurd q.2 (by decide))).trans s954
                                have s974 := (fh965 src 1 (fun q => absurd q.2 (by decide))).trans s955
                                have s975 := (fh965 pic 7 (fun q => absurd q.2 (by decide))).trans s956
                                have s976 := (fh965 pic 8 (fun q => absurd q.2 (by decide))).trans s957
                                have s977 := (fh965 pic 5 (fun q => absurd q.2 (by decide))).trans s958
                                have s978 := (fh965 b0 1 (fun q => absurd q.2 (by decide))).trans s959
                                have s979 := (fh965 b0 2 (fun q => absurd q.2 (by decide))).trans s960
                                have s980 := (fh965 b0 3 (fun q => absurd q.2 (by decide))).trans s961
                                have s981 := (fh965 b1 1 (fun q => absurd q.2 (by decide))).trans efq946_0
                                have s982 := (fh965 b1 2 (fun q => absurd q.2 (by decide))).trans efq946_1
                                have s983 := (fh965 b1 3 (fun q => absurd q.2 (by decide))).trans efq946_2
                                refine gz_s 1 (pc' := 219) (L' := [some (.ref x), some (.int (zi m)), some (.int (zi a)), some (.int (zi n)), some (.int (zi zq1)), some (.int (zi jn14v0)), some (.int (zi zq756)), some (.int (zi zq781)), some (.int (zi 2)), some (.int (zi zq946))]) (S' := [.ref x]) rfl ?_
                                refine gs_gtk rfl (by decide) rfl sh965.1 tx rfl rfl s967 ?_
                                refine gz_s 3 (pc' := 228) (L' := [some (.ref x), some (.int (zi m)), some (.int (zi a)), some (.int (zi n)), some (.int (zi zq1)), some (.int (zi jn14v0)), some (.int (zi zq756)), some (.int (zi zq781)), some (.int (zi 2)), some (.int (zi zq946))]) (S' := [.int (zi zq1), .int (zi zq756), .int (zi zq781), .ref pic]) rfl ?_
                                have k984 := sh965.2.1
                                have k984b := sh965.2.2.1
                                have hl985 : h965.2.2.2.1 co = h.2.2.2.1 co := congrFun sh965.2.2.2.2.1 co
                                have hl986 : h965.2.2.2.1 dm = h.2.2.2.1 dm := congrFun sh965.2.2.2.2.1 dm
                                have hl987 : h965.2.2.2.1 co = h.2.2.2.1 co := congrFun sh965.2.2.2.2.1 co
                                have hl988 : h965.2.2.2.1 dm = h.2.2.2.1 dm := congrFun sh965.2.2.2.2.1 dm
                                obtain ⟨z989, ez989, az989, bz989⟩ := gJ.int (k := 1) (G := gGG) sh965.1 tb2 rfl rfl rfl
                                obtain ⟨z990, ez990, az990, bz990⟩ := gJ.int (k := 2) (G := gGG) sh965.1 tb2 rfl rfl rfl
                                obtain ⟨z991, ez991, az991, bz991⟩ := gJ.int (k := 3) (G := gGG) sh965.1 tb2 rfl rfl rfl
                                refine gz_call rfl (by decide) rfl (by decide) (by decide) (gcal_of rfl rfl rfl (Nat.le_of_ble_eq_true rfl) (gJ.recv (G := gGG) sh965.1 tpic rfl rfl)) (cl_Picture_begin _ sh965.1 pic tpic zq781 (by omega) zq756 (by omega) zq1 (by omega) bn s968 tbn b0 s969 tb0 b1 s970 tb1 b2 s971 tb2 co s972 tco dm s973 tdm fq806_0 s978 (by omega) fq806_1 s979 (by omega) fq806_2 s980 (by omega) fq946_0 s981 (by omega) fq946_1 s982 (by omega) fq946_2 s983 (by omega) z989 ez989 (by omega) z990 ez990 (by omega) z991 ez991 (by omega) (by omega) (by omega) (by omega) (by omega) (by omega) uq) (fun q992 _ wq992 => ?_)
                                obtain ⟨pq992, oq992, hq992⟩ := q992
                                obtain ⟨tyq992, xq992, fq992_0, xq992_0, gq992, efq992_0, afq992_0, bfq992_0, axq992_0, bxq992_0, uq992_0, uq992_1, uq992_2, uq992_3, yq992_0⟩ := wq992
                                dsimp only at uq992_1 uq992_2
                                refine ⟨_, gq992, ?_⟩
                                show gz gPP gGG gcn _ _ 231 [some (.ref x), some (.int (zi m)), some (.int (zi a)), some (.int (zi n)), some (.int (zi zq1)), some (.int (zi jn14v0)), some (.int (zi zq756)), some (.int (zi zq781)), some (.int (zi 2)), some (.int (zi zq946))] [] hq992 _
                                have G993 : gSg [112, 113] [] [54002, 54003, 54004, 54005, 54006, 54007, 54008, 54010, 54011, 54012, 54013, 82000, 82001, 82002, 82003, 82004, 82005, 82006, 82007, 82008, 83000, 83001, 83002, 83003, 83004, 83005, 83006, 83007, 83008, 84000, 84001, 84002, 84003, 84004, 84005, 84006, 84007, 84008, 112999, 113999] ty h tyq992 hq992 := gSg.tr (gSg.ss G0 sh965 (by decide)) xq992 (by decide) (by decide) (fun x hx => by cases hx)
                                have t994 : tyq992 x = 65 := gSg.typ xq992 sh965.1 tx rfl
                                have t995 : tyq992 src = 51 := gSg.typ xq992 sh965.1 tsrc rfl
                                have t996 : tyq992 pic = 54 := gSg.typ xq992 sh965.1 tpic rfl
                                have t997 : tyq992 bn = 57 := gSg.typ xq992 sh965.1 tbn rfl
                                have t998 : tyq992 b0 = 82 := gSg.typ xq992 sh965.1 tb0 rfl
                                have t999 : tyq992 b1 = 83 := gSg.typ xq992 sh965.1 tb1 rfl
                                have t1000 : tyq992 b2 = 84 := gSg.typ xq992 sh965.1 tb2 rfl
                                have t1001 : tyq992 co = 112 := gSg.typ xq992 sh965.1 tco rfl
                                have hl1002 : hq992.2.2.2.1 co = h965.2.2.2.1 co := gSg.len xq992 sh965.1 tco rfl
                                have t1003 : tyq992 dm = 113 := gSg.typ xq992 sh965.1 tdm rfl
                                have hl1004 : hq992.2.2.2.1 dm = h965.2.2.2.1 dm := gSg.len xq992 sh965.1 tdm rfl
                                have s1005 := gSg.at xq992 sh965.1 tx rfl (by decide) s966
                                have s1006 := gSg.at xq992 sh965.1 tx rfl (by decide) s967
                                have s1007 := gSg.at xq992 sh965.1 tpic rfl (by decide) s968
                                have s1008 := gSg.at xq992 sh965.1 tbn rfl (by decide) s969
                                have s1009 := gSg.at xq992 sh965.1 tbn rfl (by decide) s970
                                have s1010 := gSg.at xq992 sh965.1 tbn rfl (by decide) s971
                                have s1011 := gSg.at xq992 sh965.1 tsrc rfl (by decide) s974
                                have s1012 := gSg.at xq992 sh965.1 tb0 rfl (by decide) s978
                                have s1013 := gSg.at xq992 sh965.1 tb0 rfl (by decide) s979
                                have s1014 := gSg.at xq992 sh965.1 tb0 rfl (by decide) s980
                                have s1015 := gSg.at xq992 sh965.1 tb1 rfl (by decide) s981
                                have s1016 := gSg.at xq992 sh965.1 tb1 rfl (by decide) s982
                                have s1017 := gSg.at xq992 sh965.1 tb1 rfl (by decide) s983
                                have s1018 := gSg.at xq992 sh965.1 tpic rfl (by decide) eh965
                                have s1019 := gSg.at xq992 sh965.1 tb2 rfl (by decide) ez989
                                have s1020 := gSg.at xq992 sh965.1 tb2 rfl (by decide) ez990
                                have s1021 := gSg.at xq992 sh965.1 tb2 rfl (by decide) ez991
                                have uq1022 := gSg.uq xq992 uq (by decide)
                                have sS1023 : gSs rT 1027 tyq992 [54002, 54003, 54004, 54005, 54006, 54007, 54008, 54010, 54011, 54012, 54013, 82000, 82001, 82002, 82003, 82004, 82005, 82006, 82007, 82008, 83000, 83001, 83002, 83003, 83004, 83005, 83006, 83007, 83008, 84000, 84001, 84002, 84003, 84004, 84005, 84006, 84007, 84008, 112999, 113999] hq992 hq992 := gSs.rf xq992.1
                                refine gz_s 1 (pc' := 232) (L' := [some (.ref x), some (.int (zi m)), some (.int (zi a)), some (.int (zi n)), some (.int (zi zq1)), some (.int (zi jn14v0)), some (.int (zi zq756)), some (.int (zi zq781)), some (.int (zi 2)), some (.int (zi zq946))]) (S' := [.int (zi (-1))]) rfl ?_
                                have hl1024 : 0 ≤ hq992.2.2.2.1 co ∧ hq992.2.2.2.1 co ≤ 12288 := gJ.rowl (G := gGG) sS1023.1 t1001 rfl
                                have hl1025 : 0 ≤ hq992.2.2.2.1 dm ∧ hq992.2.2.2.1 dm ≤ 192 := gJ.rowl (G := gGG) sS1023.1 t1003 rfl
                                have G1026 : gSg [112, 113] [] [54002, 54003, 54004, 54005, 54006, 54007, 54008, 54010, 54011, 54012, 54013, 82000, 82001, 82002, 82003, 82004, 82005, 82006, 82007, 82008, 83000, 83001, 83002, 83003, 83004, 83005, 83006, 83007, 83008, 84000, 84001, 84002, 84003, 84004, 84005, 84006, 84007, 84008, 112999, 113999] ty h tyq992 hq992 := gSg.ss G993 sS1023 (by decide)
                                exact gz_end (I := .ireturn) (len := 1) rfl (Or.inl rfl) ⟨tyq992, G1026, (-1), fq992_0, xq992_0, rfl, (by omega), (by omega), efq992_0, (by omega), (by omega), (by omega), (by omega), (by dsimp only; omega), (by dsimp only; omega), (by omega), yq992_0⟩
                              · refine gy_icF rfl (by decide) (by decide) (by omega) (by omega) hc964 ?_
                                refine gz_s 2 (pc' := 215) (L' := [some (.ref x), some (.int (zi m)), some (.int (zi a)), some (.int (zi n)), some (.int (zi zq1)), some (.int (zi jn14v0)), some (.int (zi zq756)), some (.int (zi zq781)), some (.int (zi 2)), some (.int (zi zq946))]) (S' := [.int (zi 1), .ref pic]) rfl ?_
                                refine gs_put rfl (by decide) rfl sq946 tpic rfl rfl rfl rfl (Or.inl rfl) (by decide) (by omega) (by omega) (fun h1027 sh1027 eh1027 fh1027 => ?_)
                                have s1028 := (fh1027 x 0 (fun q => absurd q.2 (by decide))).trans s947
                                have s1029 := (fh1027 x 1 (fun q => absurd q.2 (by decide))).trans s948
                                have s1030 := (fh1027 pic 0 (fun q => absurd q.2 (by decide))).trans s949
                                have s1031 := (fh1027 bn 0 (fun q => absurd (((tbn).symm.trans (congrArg ty q.1)).trans tpic) (by decide))).trans s950
                                have s1032 := (fh1027 bn 1 (fun q => absurd (((tbn).symm.trans (congrArg ty q.1)).trans tpic) (by decide))).trans s951
                                have s1033 := (fh1027 bn 2 (fun q => absurd (((tbn).symm.trans (congrArg ty q.1)).trans tpic) (by decide))).trans s952
                                have s1034 := (fh1027 pic 2 (fun q => absurd q.2 (by decide))).trans s953
                                have s1035 := (fh1027 pic 3 (fun q => absurd q.2 (by decide))).trans s954
                                have s1036 := (fh1027 src 1 (fun q => absurd q.2 (by decide))).trans s955
                                have s1037 := (fh1027 pic 7 (fun q => absurd q.2 (by decide))).trans s956
                                have s1038 := (fh1027 pic 8 (fun q => absurd q.2 (by decide))).trans s957
                                have s1039 := (fh1027 pic 5 (fun q => absurd q.2 (by decide))).trans s958
                                have s1040 := (fh1027 b0 1 (fun q => absurd q.2 (by decide))).trans s959
                                have s1041 := (fh1027 b0 2 (fun q => absurd q.2 (by decide))).trans s960
                                have s1042 := (fh1027 b0 3 (fun q => absurd q.2 (by decide))).trans s961
                                have s1043 := (fh1027 b1 1 (fun q => absurd q.2 (by decide))).trans efq946_0
                                have s1044 := (fh1027 b1 2 (fun q => absurd q.2 (by decide))).trans efq946_1
                                have s1045 := (fh1027 b1 3 (fun q => absurd q.2 (by decide))).trans efq946_2
                                refine gz_s 1 (pc' := 219) (L' := [some (.ref x), some (.int (zi m)), some (.int (zi a)), some (.int (zi n)), some (.int (zi zq1)), some (.int (zi jn14v0)), some (.int (zi zq756)), some (.int (zi zq781)), some (.int (zi 2)), some (.int (zi zq946))]) (S' := [.ref x]) rfl ?_
                                refine gs_gtk rfl (by decide) rfl sh1027.1 tx rfl rfl s1029 ?_
                                refine gz_s 3 (pc' := 228) (L' := [some (.ref x), some (.int (zi m)), some (.int (zi a)), some (.int (zi n)), some (.int (zi zq1)), some (.int (zi jn14v0)), some (.int (zi zq756)), some (.int (zi zq781)), some (.int (zi 2)), some (.int (zi zq946))]) (S' := [.int (zi zq1), .int (zi zq756), .int (zi zq781), .ref pic]) rfl ?_
                                have k1046 := sh1027.2.1
                                have k1046b := sh1027.2.2.1
                                have hl1047 : h1027.2.2.2.1 co = h.2.2.2.1 co := congrFun sh1027.2.2.2.2.1 co
                                have hl1048 : h1027.2.2.2.1 dm = h.2.2.2.1 dm := congrFun sh1027.2.2.2.2.1 dm
                                have hl1049 : h1027.2.2.2.1 co = h.2.2.2.1 co := congrFun sh1027.2.2.2.2.1 co
                                have hl1050 : h1027.2.2.2.1 dm = h.2.2.2.1 dm := congrFun sh1027.2.2.2.2.1 dm
                                obtain ⟨z1051, ez1051, az1051, bz1051⟩ := gJ.int (k := 1) (G := gGG) sh1027.1 tb2 rfl rfl rfl
                                obtain ⟨z1052, ez1052, az1052, bz1052⟩ := gJ.int (k := 2) (G := gGG) sh1027.1 tb2 rfl rfl rfl
                                obtain ⟨z1053, ez1053, az1053, bz1053⟩ := gJ.int (k := 3) (G := gGG) sh1027.1 tb2 rfl rfl rfl
                                refine gz_call rfl (by decide) rfl (by decide) (by decide) (gcal_of rfl rfl rfl (Nat.le_of_ble_eq_true rfl) (gJ.recv (G := gGG) sh1027.1 tpic rfl rfl)) (cl_Picture_begin _ sh1027.1 pic tpic zq781 (by omega) zq756 (by omega) zq1 (by omega) bn s1030 tbn b0 s1031 tb0 b1 s1032 tb1 b2 s1033 tb2 co s1034 tco dm s1035 tdm fq806_0 s1040 (by omega) fq806_1 s1041 (by omega) fq806_2 s1042 (by omega) fq946_0 s1043 (by omega) fq946_1 s1044 (by omega) fq946_2 s1045 (by omega) z1051 ez1051 (by omega) z1052 ez1052 (by omega) z1053 ez1053 (by omega) (by omega) (by omega) (by omega) (by omega) (by omega) uq) (fun q1054 _ wq1054 => ?_)
                                obtain ⟨pq1054, oq1054, hq1054⟩ := q1054
                                obtain ⟨tyq1054, xq1054, fq1054_0, xq1054_0, gq1054, efq1054_0, afq1054_0, bfq1054_0, axq1054_0, bxq1054_0, uq1054_0, uq1054_1, uq1054_2, uq1054_3, yq1054_0⟩ := wq1054
                                dsimp only at uq1054_1 uq1054_2
                                refine ⟨_, gq1054, ?_⟩
                                show gz gPP gGG gcn _ _ 231 [some (.ref x), some (.int (zi m)), some (.int (zi a)), some (.int (zi n)), some (.int (zi zq1)), some (.int (zi jn14v0)), some (.int (zi zq756)), some (.int (zi zq781)), some (.int (zi 2)), some (.int (zi zq946))] [] hq1054 _
                                have G1055 : gSg [112, 113] [] [54002, 54003, 54004, 54005, 54006, 54007, 54008, 54010, 54011, 54012, 54013, 82000, 82001, 82002, 82003, 82004, 82005, 82006, 82007, 82008, 83000, 83001, 83002, 83003, 83004, 83005, 83006, 83007, 83008, 84000, 84001, 84002, 84003, 84004, 84005, 84006, 84007, 84008, 112999, 113999] ty h tyq1054 hq1054 := gSg.tr (gSg.ss G0 sh1027 (by decide)) xq1054 (by decide) (by decide) (fun x hx => by cases hx)
                                have t1056 : tyq1054 x = 65 := gSg.typ xq1054 sh1027.1 tx rfl
                                have t1057 : tyq1054 src = 51 := gSg.typ xq1054 sh1027.1 tsrc rfl
                                have t1058 : tyq1054 pic = 54 := gSg.typ xq1054 sh1027.1 tpic rfl
                                have t1059 : tyq1054 bn = 57 := gSg.typ xq1054 sh1027.1 tbn rfl
                                have t1060 : tyq1054 b0 = 82 := gSg.typ xq1054 sh1027.1 tb0 rfl
                                have t1061 : tyq1054 b1 = 83 := gSg.typ xq1054 sh1027.1 tb1 rfl
                                have t1062 : tyq1054 b2 = 84 := gSg.typ xq1054 sh1027.1 tb2 rfl
                                have t1063 : tyq1054 co = 112 := gSg.typ xq1054 sh1027.1 tco rfl
                                have hl1064 : hq1054.2.2.2.1 co = h1027.2.2.2.1 co := gSg.len xq1054 sh1027.1 tco rfl
                                have t1065 : tyq1054 dm = 113 := gSg.typ xq1054 sh1027.1 tdm rfl
                                have hl1066 : hq1054.2.2.2.1 dm = h1027.2.2.2.1 dm := gSg.len xq1054 sh1027.1 tdm rfl
                                have s1067 := gSg.at xq1054 sh1027.1 tx rfl (by decide) s1028
                                have s1068 := gSg.at xq1054 sh1027.1 tx rfl (by decide) s1029
                                have s1069 := gSg.at xq1054 sh1027.1 tpic rfl (by decide) s1030
                                have s1070 := gSg.at xq1054 sh1027.1 tbn rfl (by decide) s1031
                                have s1071 := gSg.at xq1054 sh1027.1 tbn rfl (by decide) s1032
                                have s1072 := gSg.at xq1054 sh1027.1 tbn rfl (by decide) s1033
                                have s1073 := gSg.at xq1054 sh1027.1 tsrc rfl (by decide) s1036
                                have s1074 := gSg.at xq1054 sh1027.1 tb0 rfl (by decide) s1040
                                have s1075 := gSg.at xq1054 sh1027.1 tb0 rfl (by decide) s1041
                                have s1076 := gSg.at xq1054 sh1027.1 tb0 rfl (by decide) s1042
                                have s1077 := gSg.at xq1054 sh1027.1 tb1 rfl (by decide) s1043
                                have s1078 := gSg.at xq1054 sh1027.1 tb1 rfl (by decide) s1044
                                have s1079 := gSg.at xq1054 sh1027.1 tb1 rfl (by decide) s1045
                                have s1080 := gSg.at xq1054 sh1027.1 tpic rfl (by decide) eh1027
                                have s1081 := gSg.at xq1054 sh1027.1 tb2 rfl (by decide) ez1051
                                have s1082 := gSg.at xq1054 sh1027.1 tb2 rfl (by decide) ez1052
                                have s1083 := gSg.at xq1054 sh1027.1 tb2 rfl (by decide) ez1053
                                have uq1084 := gSg.uq xq1054 uq (by decide)
                                have sS1085 : gSs rT 1027 tyq1054 [54002, 54003, 54004, 54005, 54006, 54007, 54008, 54010, 54011, 54012, 54013, 82000, 82001, 82002, 82003, 82004, 82005, 82006, 82007, 82008, 83000, 83001, 83002, 83003, 83004, 83005, 83006, 83007, 83008, 84000, 84001, 84002, 84003, 84004, 84005, 84006, 84007, 84008, 112999, 113999] hq1054 hq1054 := gSs.rf xq1054.1
                                refine gz_s 1 (pc' := 232) (L' := [some (.ref x), some (.int (zi m)), some (.int (zi a)), some (.int (zi n)), some (.int (zi zq1)), some (.int (zi jn14v0)), some (.int (zi zq756)), some (.int (zi zq781)), some (.int (zi 2)), some (.int (zi zq946))]) (S' := [.int (zi (-1))]) rfl ?_
                                have hl1086 : 0 ≤ hq1054.2.2.2.1 co ∧ hq1054.2.2.2.1 co ≤ 12288 := gJ.rowl (G := gGG) sS1085.1 t1063 rfl
                                have hl1087 : 0 ≤ hq1054.2.2.2.1 dm ∧ hq1054.2.2.2.1 dm ≤ 192 := gJ.rowl (G := gGG) sS1085.1 t1065 rfl
                                have G1088 : gSg [112, 113] [] [54002, 54003, 54004, 54005, 54006, 54007, 54008, 54010, 54011, 54012, 54013, 82000, 82001, 82002, 82003, 82004, 82005, 82006, 82007, 82008, 83000, 83001, 83002, 83003, 83004, 83005, 83006, 83007, 83008, 84000, 84001, 84002, 84003, 84004, 84005, 84006, 84007, 84008, 112999, 113999] ty h tyq1054 hq1054 := gSg.ss G1055 sS1085 (by decide)
                                exact gz_end (I := .ireturn) (len := 1) rfl (Or.inl rfl) ⟨tyq1054, G1088, (-1), fq1054_0, xq1054_0, rfl, (by omega), (by omega), efq1054_0, (by omega), (by omega), (by omega), (by omega), (by dsimp only; omega), (by dsimp only; omega), (by omega), yq1054_0⟩
                            · refine gy_icF rfl (by decide) (by decide) (by omega) (by omega) hc963 ?_
                              refine gy_s 9 (pc' := 179) (L' := [some (.ref x), some (.int (zi m)), some (.int (zi a)), some (.int (zi n)), some (.int (zi zq1)), some (.int (zi jn14v0)), some (.int (zi zq756)), some (.int (zi zq781)), some (.int (zi 2)), some (.int (zi zq946))]) (S' := [.int (((zi a) + (zi 8)) + ((zi 3) * (zi 2))), .int (zi 2), .ref x]) (L2 := [some (.ref x), some (.int (zi m)), some (.int (zi a)), some (.int (zi n)), some (.int (zi zq1)), some (.int (zi jn14v0)), some (.int (zi zq756)), some (.int (zi zq781)), some (.int (zi 2)), some (.int (zi zq946))]) (S2 := [.int (zi ((a + 8) + 6)), .int (zi 2), .ref x]) rfl (by simp only [zi_add, zi_sub, zi_mul, zi_neg, zi_and1, zi_and7, zi_and15, zi_and31, zi_and255, Int.reduceAdd, Int.reduceMul, Int.reduceSub]) (by simp only [zi_add, zi_sub, zi_mul, zi_neg, zi_and1, zi_and7, zi_and15, zi_and31, zi_and255, Int.reduceAdd, Int.reduceMul, Int.reduceSub]) ?_
                              refine gz_call rfl (by decide) rfl (by decide) (by decide) (gcal_of rfl rfl rfl (Nat.le_of_ble_eq_true rfl) (gJ.recv (G := gGG) sq946.1 tx rfl rfl)) (cl_readBand2 _ sq946.1 x tx 2 (by omega) ((a + 8) + 6) (by omega) src s947 tsrc pic s948 tpic bn s949 tbn b0 s950 tb0 b1 s951 tb1 b2 s952 tb2 sz s955 (by omega) uq) (fun q1089 _ wq1089 => ?_)
                              obtain ⟨pq1089, oq1089, hq1089⟩ := q1089
                              obtain ⟨xq1089, zq1089, fq1089_0, fq1089_1, fq1089_2, gq1089, aq1089, bq1089, efq1089_0, afq1089_0, bfq1089_0, efq1089_1, afq1089_1, bfq1089_1, efq1089_2, afq1089_2, bfq1089_2, uq1089_0⟩ := wq1089
                              refine ⟨_, gq1089, ?_⟩
                              show gz gPP gGG gcn _ _ 182 [some (.ref x), some (.int (zi m)), some (.int (zi a)), some (.int (zi n)), some (.int (zi zq1)), some (.int (zi jn14v0)), some (.int (zi zq756)), some (.int (zi zq781)), some (.int (zi 2)), some (.int (zi zq946))] [.int (zi zq1089)] hq1089 _
                              have sq1089 : gSs rT 1027 ty [54002, 54003, 54004, 54005, 54006, 54007, 54008, 54010, 54011, 54012, 54013, 82000, 82001, 82002, 82003, 82004, 82005, 82006, 82007, 82008, 83000, 83001, 83002, 83003, 83004, 83005, 83006, 83007, 83008, 84000, 84001, 84002, 84003, 84004, 84005, 84006, 84007, 84008, 112999, 113999] h hq1089 := gSs.tr sq946 xq1089 (by decide)
                              have s1090 := (xq1089.2.2.2.2.2 x 0 (by rw [tx]; decide)).trans s947
                              have s1091 := (xq1089.2.2.2.2.2 x 1 (by rw [tx]; decide)).trans s948
                              have s1092 := (xq1089.2.2.2.2.2 pic 0 (by rw [tpic]; decide)).trans s949
                              have s1093 := (xq1089.2.2.2.2.2 bn 0 (by rw [tbn]; decide)).trans s950
                              have s1094 := (xq1089.2.2.2.2.2 bn 1 (by rw [tbn]; decide)).trans s951
                              have s1095 := (xq1089.2.2.2.2.2 bn 2 (by rw [tbn]; decide)).trans s952
                              have s1096 := (xq1089.2.2.2.2.2 pic 2 (by rw [tpic]; decide)).trans s953
                              have s1097 := (xq1089.2.2.2.2.2 pic 3 (by rw [tpic]; decide)).trans s954
                              have s1098 := (xq1089.2.2.2.2.2 src 1 (by rw [tsrc]; decide)).trans s955
                              have s1099 := (xq1089.2.2.2.2.2 pic 7 (by rw [tpic]; decide)).trans s956
                              have s1100 := (xq1089.2.2.2.2.2 pic 8 (by rw [tpic]; decide)).trans s957
                              have s1101 := (xq1089.2.2.2.2.2 pic 5 (by rw [tpic]; decide)).trans s958
                              have s1102 := (xq1089.2.2.2.2.2 b0 1 (by rw [tb0]; decide)).trans s959
                              have s1103 := (xq1089.2.2.2.2.2 b0 2 (by rw [tb0]; decide)).trans s960
                              have s1104 := (xq1089.2.2.2.2.2 b0 3 (by rw [tb0]; decide)).trans s961
                              have s1105 := (xq1089.2.2.2.2.2 b1 1 (by rw [tb1]; decide)).trans efq946_0
                              have s1106 := (xq1089.2.2.2.2.2 b1 2 (by rw [tb1]; decide)).trans efq946_1
                              have s1107 := (xq1089.2.2.2.2.2 b1 3 (by rw [tb1]; decide)).trans efq946_2
                              refine gz_s 3 (pc' := 187) (L' := [some (.ref x), some (.int (zi m)), some (.int (zi a)), some (.int (zi n)), some (.int (zi zq1)), some (.int (zi jn14v0)), some (.int (zi zq756)), some (.int (zi zq781)), some (.int (zi 2)), some (.int (zi zq1089))]) (S' := [.int (zi (-1)), .int (zi zq1089)]) rfl ?_
                              by_cases hc1108 : (zq1089 : Int) = (-1)
                              · refine gy_icT (pc' := 193) rfl (by decide) (by decide) (by omega) (by omega) hc1108 ?_
                                refine gy_s 4 (pc' := 164) (L' := [some (.ref x), some (.int (zi m)), some (.int (zi a)), some (.int (zi n)), some (.int (zi zq1)), some (.int (zi jn14v0)), some (.int (zi zq756)), some (.int (zi zq781)), some (.int ((zi 2) + zi 1)), some (.int (zi zq1089))]) (S' := [.int (zi zq1), .int ((zi 2) + zi 1)]) (L2 := [some (.ref x), some (.int (zi m)), some (.int (zi a)), some (.int (zi n)), some (.int (zi zq1)), some (.int (zi jn14v0)), some (.int (zi zq756)), some (.int (zi zq781)), some (.int (zi 3)), some (.int (zi zq1089))]) (S2 := [.int (zi zq1), .int (zi 3)]) rfl (by simp only [zi_add, zi_sub, zi_mul, zi_neg, zi_and1, zi_and7, zi_and15, zi_and31, zi_and255, Int.reduceAdd, Int.reduceMul, Int.reduceSub]) (by simp only [zi_add, zi_sub, zi_mul, zi_neg, zi_and1, zi_and7, zi_and15, zi_and31, zi_and255, Int.reduceAdd, Int.reduceMul, Int.reduceSub]) ?_
                                refine gy_icT (pc' := 199) rfl (by decide) (by decide) (by omega) (by omega) (by first | (simp [zc]; done) | (simp only [zc]; omega)) ?_
                                refine gz_s 1 (pc' := 200) (L' := [some (.ref x), some (.int (zi m)), some (.int (zi a)), some (.int (zi n)), some (.int (zi zq1)), some (.int (zi jn14v0)), some (.int (zi zq756)), some (.int (zi zq781)), some (.int (zi 3)), some (.int (zi zq1089))]) (S' := [.ref x]) rfl ?_
                                refine gs_gtk rfl (by decide) rfl sq1089.1 tx rfl rfl s1091 ?_
                                refine gz_s 2 (pc' := 207) (L' := [some (.ref x), some (.int (zi m)), some (.int (zi a)), some (.int (zi n)), some (.int (zi zq1)), some (.int (zi jn14v0)), some (.int (zi zq756)), some (.int (zi zq781)), some (.int (zi 3)), some (.int (zi zq1089))]) (S' := [.int (zi 194), .int (zi m), .ref pic]) rfl ?_
                                by_cases hc1109 : ¬ (m : Int) = 194
                                · refine gy_icT (pc' := 214) rfl (by decide) (by decide) (by omega) (by omega) hc1109 ?_
                                  refine gz_s 1 (pc' := 215) (L' := [some (.ref x), some (.int (zi m)), some (.int (zi a)), some (.int (zi n)), some (.int (zi zq1)), some (.int (zi jn14v0)), some (.int (zi zq756)), some (.int (zi zq781)), some (.int (zi 3)), some (.int (zi zq1089))]) (S' := [.int (zi 0), .ref pic]) rfl ?_
                                  refine gs_put rfl (by decide) rfl sq1089 tpic rfl rfl rfl rfl (Or.inl rfl) (by decide) (by omega) (by omega) (fun h1110 sh1110 eh1110 fh1110 => ?_)
                                  have s1111 := (fh1110 x 0 (fun q => absurd q.2 (by decide))).trans s1090
                                  have s1112 := (fh1110 x 1 (fun q => absurd q.2 (by decide))).trans s1091
                                  have s1113 := (fh1110 pic 0 (fun q => absurd q.2 (by decide))).trans s1092
                                  have s1114 := (fh1110 bn 0 (fun q => absurd (((tbn).symm.trans (congrArg ty q.1)).trans tpic) (by decide))).trans s1093
                                  have s1115 := (fh1110 bn 1 (fun q => absurd (((tbn).symm.trans (congrArg ty q.1)).trans tpic) (by decide))).trans s1094
                                  have s1116 := (fh1110 bn 2 (fun q => absurd (((tbn).symm.trans (congrArg ty q.1)).trans tpic) (by decide))).trans s1095
                                  have s1117 := (fh1110 pic 2 (fun q => absurd q.2 (by decide))).trans s1096
                                  have s1118 := (fh1110 pic 3 (fun q => absurd q.2 (by decide))).trans s1097
                                  have s1119 := (fh1110 src 1 (fun q => absurd q.2 (by decide))).trans s1098
                                  have s1120 := (fh1110 pic 7 (fun q => absurd q.2 (by decide))).trans s1099
                                  have s1121 := (fh1110 pic 8 (fun q => absurd q.2 (by decide))).trans s1100
                                  have s1122 := (fh1110 pic 5 (fun q => absurd q.2 (by decide))).trans s1101
                                  have s1123 := (fh1110 b0 1 (fun q => absurd q.2 (by decide))).trans s1102
                                  have s1124 := (fh1110 b0 2 (fun q => absurd q.2 (by decide))).trans s1103
                                  have s1125 := (fh1110 b0 3 (fun q => absurd q.2 (by decide))).trans s1104
                                  have s1126 := (fh1110 b1 1 (fun q => absurd q.2 (by decide))).trans s1105
                                  have s1127 := (fh1110 b1 2 (fun q => absurd q.2 (by decide))).trans s1106
                                  have s1128 := (fh1110 b1 3 (fun q => absurd q.2 (by decide))).trans s1107
                                  have s1129 := (fh1110 b2 1 (fun q => absurd q.2 (by decide))).trans efq1089_0
                                  have s1130 := (fh1110 b2 2 (fun q => absurd q.2 (by decide))).trans efq1089_1
                                  have s1131 := (fh1110 b2 3 (fun q => absurd q.2 (by decide))).trans efq1089_2
                                  refine gz_s 1 (pc' := 219) (L' := [some (.ref x), some (.int (zi m)), some (.int (zi a)), some (.int (zi n)), some (.int (zi zq1)), some (.int (zi jn14v0)), some (.int (zi zq756)), some (.int (zi zq781)), some (.int (zi 3)), some (.int (zi zq1089))]) (S' := [.ref x]) rfl ?_
                                  refine gs_gtk rfl (by decide) rfl sh1110.1 tx rfl rfl s1112 ?_
                                  refine gz_s 3 (pc' := 228) (L' := [some (.ref x), some (.int (zi m)), some (.int (zi a)), some (.int (zi n)), some (.int (zi zq1)), some (.int (zi jn14v0)), some (.int (zi zq756)), some (.int (zi zq781)), some (.int (zi 3)), some (.int (zi zq1089))]) (S' := [.int (zi zq1), .int (zi zq756), .int (zi zq781), .ref pic]) rfl ?_
                                  have k1132 := sh1110.2.1
                                  have k1132b := sh1110.2.2.1
                                  have hl1133 : h1110.2.2.2.1 co = h.2.2.2.1 co := congrFun sh1110.2.2.2.2.1 co
                                  have hl1134 : h1110.2.2.2.1 dm = h.2.2.2.1 dm := congrFun sh1110.2.2.2.2.1 dm
                                  have hl1135 : h1110.2.2.2.1 co = h.2.2.2.1 co := congrFun sh1110.2.2.2.2.1 co
                                  have hl1136 : h1110.2.2.2.1 dm = h.2.2.2.1 dm := congrFun sh1110.2.2.2.2.1 dm
                                  refine gz_call rfl (by decide) rfl (by decide) (by decide) (gcal_of rfl rfl rfl (Nat.le_of_ble_eq_true rfl) (gJ.recv (G := gGG) sh1110.1 tpic rfl rfl)) (cl_Picture_begin _ sh1110.1 pic tpic zq781 (by omega) zq756 (by omega) zq1 (by omega) bn s1113 tbn b0 s1114 tb0 b1 s1115 tb1 b2 s1116 tb2 co s1117 tco dm s1118 tdm fq806_0 s1123 (by omega) fq806_1 s1124 (by omega) fq806_2 s1125 (by omega) fq946_0 s1126 (by omega) fq946_1 s1127 (by omega) fq946_2 s1128 (by omega) fq1089_0 s1129 (by omega) fq1089_1 s1130 (by omega) fq1089_2 s1131 (by omega) (by omega) (by omega) (by omega) (by omega) (by omega) uq) (fun q1137 _ wq1137 => ?_)
                                  obtain ⟨pq1137, oq1137, hq1137⟩ := q1137
                                  obtain ⟨tyq1137, xq1137, fq1137_0, xq1137_0, gq1137, efq1137_0, afq1137_0, bfq1137_0, axq1137_0, bxq1137_0, uq1137_0, uq1137_1, uq1137_2, uq1137_3, yq1137_0⟩ := wq1137
                                  dsimp only at uq1137_1 uq1137_2
                                  refine ⟨_, gq1137, ?_⟩
                                  show gz gPP gGG gcn _ _ 231 [some (.ref x), some (.int (zi m)), some (.int (zi a)), some (.int (zi n)), some (.int (zi zq1)), some (.int (zi jn14v0)), some (.int (zi zq756)), some (.int (zi zq781)), some (.int (zi 3)), some (.int (zi zq1089))] [] hq1137 _
                                  have G1138 : gSg [112, 113] [] [54002, 54003, 54004, 54005, 54006, 54007, 54008, 54010, 54011, 54012, 54013, 82000, 82001, 82002, 82003, 82004, 82005, 82006, 82007, 82008, 83000, 83001, 83002, 83003, 83004, 83005, 83006, 83007, 83008, 84000, 84001, 84002, 84003, 84004, 84005, 84006, 84007, 84008, 112999, 113999] ty h tyq1137 hq1137 := gSg.tr (gSg.ss G0 sh1110 (by decide)) xq1137 (by decide) (by decide) (fun x hx => by cases hx)
                                  have t1139 : tyq1137 x = 65 := gSg.typ xq1137 sh1110.1 tx rfl
                                  have t1140 : tyq1137 src = 51 := gSg.typ xq1137 sh1110.1 tsrc rfl
                                  have t1141 : tyq1137 pic = 54 := gSg.typ xq1137 sh1110.1 tpic rfl
                                  have t1142 : tyq1137 bn = 57 := gSg.typ xq1137 sh1110.1 tbn rfl
                                  have t1143 : tyq1137 b0 = 82 := gSg.typ xq1137 sh1110.1 tb0 rfl
                                  have t1144 : tyq1137 b1 = 83 := gSg.typ xq1137 sh1110.1 tb1 rfl
                                  have t1145 : tyq1137 b2 = 84 := gSg.typ xq1137 sh1110.1 tb2 rfl
                                  have t1146 : tyq1137 co = 112 := gSg.typ xq1137 sh1110.1 tco rfl
                                  have hl1147 : hq1137.2.2.2.1 co = h1110.2.2.2.1 co := gSg.len xq1137 sh1110.1 tco rfl
                                  have t1148 : tyq1137 dm = 113 := gSg.typ xq1137 sh1110.1 tdm rfl
                                  have hl1149 : hq1137.2.2.2.1 dm = h1110.2.2.2.1 dm := gSg.len xq1137 sh1110.1 tdm rfl
                                  have s1150 := gSg.at xq1137 sh1110.1 tx rfl (by decide) s1111
                                  have s1151 := gSg.at xq1137 sh1110.1 tx rfl (by decide) s1112
                                  have s1152 := gSg.at xq1137 sh1110.1 tpic rfl (by decide) s1113
                                  have s1153 := gSg.at xq1137 sh1110.1 tbn rfl (by decide) s1114
                                  have s1154 := gSg.at xq1137 sh1110.1 tbn rfl (by decide) s1115
                                  have s1155 := gSg.at xq1137 sh1110.1 tbn rfl (by decide) s1116
                                  have s1156 := gSg.at xq1137 sh1110.1 tsrc rfl (by decide) s1119
                                  have s1157 := gSg.at xq1137 sh1110.1 tb0 rfl (by decide) s1123
                                  have s1158 := gSg.at xq1137 sh1110.1 tb0 rfl (by decide) s1124
                                  have s1159 := gSg.at xq1137 sh1110.1 tb0 rfl (by decide) s1125
                                  have s1160 := gSg.at xq1137 sh1110.1 tb1 rfl (by decide) s1126
                                  have s1161 := gSg.at xq1137 sh1110.1 tb1 rfl (by decide) s1127
                                  have s1162 := gSg.at xq1137 sh1110.1 tb1 rfl (by decide) s1128
                                  have s1163 := gSg.at xq1137 sh1110.1 tb2 rfl (by decide) s1129
                                  have s1164 := gSg.at xq1137 sh1110.1 tb2 rfl (by decide) s1130
                                  have s1165 := gSg.at xq1137 sh1110.1 tb2 rfl (by decide) s1131
                                  have s1166 := gSg.at xq1137 sh1110.1 tpic rfl (by decide) eh1110
                                  have uq1167 := gSg.uq xq1137 uq (by decide)
                                  have sS1168 : gSs rT 1027 tyq1137 [54002, 54003, 54004, 54005, 54006, 54007, 54008, 54010, 54011, 54012, 54013, 82000, 82001, 82002, 82003, 82004, 82005, 82006, 82007, 82008, 83000, 83001, 83002, 83003, 83004, 83005, 83006, 83007, 83008, 84000, 84001, 84002, 84003, 84004, 84005, 84006, 84007, 84008, 112999, 113999] hq1137 hq1137 := gSs.rf xq1137.1
                                  refine gz_s 1 (pc' := 232) (L' := [some (.ref x), some (.int (zi m)), some (.int (zi a)), some (.int (zi n)), some (.int (zi zq1)), some (.int (zi jn14v0)), some (.int (zi zq756)), some (.int (zi zq781)), some (.int (zi 3)), some (.int (zi zq1089))]) (S' := [.int (zi (-1))]) rfl ?_
                                  have hl1169 : 0 ≤ hq1137.2.2.2.1 co ∧ hq1137.2.2.2.1 co ≤ 12288 := gJ.rowl (G := gGG) sS1168.1 t1146 rfl
                                  have hl1170 : 0 ≤ hq1137.2.2.2.1 dm ∧ hq1137.2.2.2.1 dm ≤ 192 := gJ.rowl (G := gGG) sS1168.1 t1148 rfl
                                  have G1171 : gSg [112, 113] [] [54002, 54003, 54004, 54005, 54006, 54007, 54008, 54010, 54011, 54012, 54013, 82000, 82001, 82002, 82003, 82004, 82005, 82006, 82007, 82008, 83000, 83001, 83002, 83003, 83004, 83005, 83006, 83007, 83008, 84000, 84001, 84002, 84003, 84004, 84005, 84006, 84007, 84008, 112999, 113999] ty h tyq1137 hq1137 := gSg.ss G1138 sS1168 (by decide)
                                  exact gz_end (I := .ireturn) (len := 1) rfl (Or.inl rfl) ⟨tyq1137, G1171, (-1), fq1137_0, xq1137_0, rfl, (by omega), (by omega), efq1137_0, (by omega), (by omega), (by omega), (by omega), (by dsimp only; omega), (by dsimp only; omega), (by omega), yq1137_0⟩
                                · refine gy_icF rfl (by decide) (by decide) (by omega) (by omega) hc1109 ?_
                                  refine gz_s 2 (pc' := 215) (L' := [some (.ref x), some (.int (zi m)), some (.int (zi a)), some (.int (zi n)), some (.int (zi zq1)), some (.int (zi jn14v0)), some (.int (zi zq756)), some (.int (zi zq781)), some (.int (zi 3)), some (.int (zi zq1089))]) (S' := [.int (zi 1), .ref pic]) rfl ?_
                                  refine gs_put rfl (by decide) rfl sq1089 tpic rfl rfl rfl rfl (Or.inl rfl) (by decide) (by omega) (by omega) (fun h1172 sh1172 eh1172 fh1172 => ?_)
                                  have s1173 := (fh1172 x 0 (fun q => absurd q.2 (by decide))).trans s1090
                                  have s1174 := (fh1172 x 1 (fun q => absurd q.2 (by decide))).trans s1091
                                  have s1175 := (fh1172 pic 0 (fun q => absurd q.2 (by decide))).trans s1092
                                  have s1176 := (fh1172 bn 0 (fun q => absurd (((tbn).symm.trans (congrArg ty q.1)).trans tpic) (by decide))).trans s1093
                                  have s1177 := (fh1172 bn 1 (fun q => absurd (((tbn).symm.trans (congrArg ty q.1)).trans tpic) (by decide))).trans s1094
                                  have s1178 := (fh1172 bn 2 (fun q => absurd (((tbn).symm.trans (congrArg ty q.1)).trans tpic) (by decide))).trans s1095
                                  have s1179 := (fh1172 pic 2 (fun q => absurd q.2 (by decide))).trans s1096
                                  have s1180 := (fh1172 pic 3 (fun q => absurd q.2 (by decide))).trans s1097
                                  have s1181 := (fh1172 src 1 (fun q => absurd q.2 (by decide))).trans s1098
                                  have s1182 := (fh1172 pic 7 (fun q => absurd q.2 (by decide))).trans s1099
                                  have s1183 := (fh1172 pic 8 (fun q => absurd q.2 (by decide))).trans s1100
                                  have s1184 := (fh1172 pic 5 (fun q => absurd q.2 (by decide))).trans s1101
                                  have s1185 := (fh1172 b0 1 (fun q => absurd q.2 (by decide))).trans s1102
                                  have s1186 := (fh1172 b0 2 (fun q => absurd q.2 (by decide))).trans s1103
                                  have s1187 := (fh1172 b0 3 (fun q => absurd q.2 (by decide))).trans s1104
                                  have s1188 := (fh1172 b1 1 (fun q => absurd q.2 (by decide))).trans s1105
                                  have s1189 := (fh1172 b1 2 (fun q => absurd q.2 (by decide))).trans s1106
                                  have s1190 := (fh1172 b1 3 (fun q => absurd q.2 (by decide))).trans s1107
                                  have s1191 := (fh1172 b2 1 (fun q => absurd q.2 (by decide))).trans efq1089_0
                                  have s1192 := (fh1172 b2 2 (fun q => absurd q.2 (by decide))).trans efq1089_1
                                  have s1193 := (fh1172 b2 3 (fun q => absurd q.2 (by decide))).trans efq1089_2
                                  refine gz_s 1 (pc' := 219) (L' := [some (.ref x), some (.int (zi m)), some (.int (zi a)), some (.int (zi n)), some (.int (zi zq1)), some (.int (zi jn14v0)), some (.int (zi zq756)), some (.int (zi zq781)), some (.int (zi 3)), some (.int (zi zq1089))]) (S' := [.ref x]) rfl ?_
                                  refine gs_gtk rfl (by decide) rfl sh1172.1 tx rfl rfl s1174 ?_
                                  refine gz_s 3 (pc' := 228) (L' := [some (.ref x), some (.int (zi m)), some (.int (zi a)), some (.int (zi n)), some (.int (zi zq1)), some (.int (zi jn14v0)), some (.int (zi zq756)), some (.int (zi zq781)), some (.int (zi 3)), some (.int (zi zq1089))]) (S' := [.int (zi zq1), .int (zi zq756), .int (zi zq781), .ref pic]) rfl ?_
                                  have k1194 := sh1172.2.1
                                  have k1194b := sh1172.2.2.1
                                  have hl1195 : h1172.2.2.2.1 co = h.2.2.2.1 co := congrFun sh1172.2.2.2.2.1 co
                                  have hl1196 : h1172.2.2.2.1 dm = h.2.2.2.1 dm := congrFun sh1172.2.2.2.2.1 dm
                                  have hl1197 : h1172.2.2.2.1 co = h.2.2.2.1 co := congrFun sh1172.2.2.2.2.1 co
                                  have hl1198 : h1172.2.2.2.1 dm = h.2.2.2.1 dm := congrFun sh1172.2.2.2.2.1 dm
                                  refine gz_call rfl (by decide) rfl (by decide) (by decide) (gcal_of rfl rfl rfl (Nat.le_of_ble_eq_true rfl) (gJ.recv (G := gGG) sh1172.1 tpic rfl rfl)) (cl_Picture_begin _ sh1172.1 pic tpic zq781 (by omega) zq756 (by omega) zq1 (by omega) bn s1175 tbn b0 s1176 tb0 b1 s1177 tb1 b2 s1178 tb2 co s1179 tco dm s1180 tdm fq806_0 s1185 (by omega) fq806_1 s1186 (by omega) fq806_2 s1187 (by omega) fq946_0 s1188 (by omega) fq946_1 s1189 (by omega) fq946_2 s1190 (by omega) fq1089_0 s1191 (by omega) fq1089_1 s1192 (by omega) fq1089_2 s1193 (by omega) (by omega) (by omega) (by omega) (by omega) (by omega) uq) (fun q1199 _ wq1199 => ?_)
                                  obtain ⟨pq1199, oq1199, hq1199⟩ := q1199
                                  obtain ⟨tyq1199, xq1199, fq1199_0, xq1199_0, gq1199, efq1199_0, afq1199_0, bfq1199_0, axq1199_0, bxq1199_0, uq1199_0, uq1199_1, uq1199_2, uq1199_3, yq1199_0⟩ := wq1199
                                  dsimp only at uq1199_1 uq1199_2
                                  refine ⟨_, gq1199, ?_⟩
                                  show gz gPP gGG gcn _ _ 231 [some (.ref x), some (.int (zi m)), some (.int (zi a)), some (.int (zi n)), some (.int (zi zq1)), some (.int (zi jn14v0)), some (.int (zi zq756)), some (.int (zi zq781)), some (.int (zi 3)), some (.int (zi zq1089))] [] hq1199 _
                                  have G1200 : gSg [112, 113] [] [54002, 54003, 54004, 54005, 54006, 54007, 54008, 54010, 54011, 54012, 54013, 82000, 82001, 82002, 82003, 82004, 82005, 82006, 82007, 82008, 83000, 83001, 83002, 83003, 83004, 83005, 83006, 83007, 83008, 84000, 84001, 84002, 84003, 84004, 84005, 84006, 84007, 84008, 112999, 113999] ty h tyq1199 hq1199 := gSg.tr (gSg.ss G0 sh1172 (by decide)) xq1199 (by decide) (by decide) (fun x hx => by cases hx)
                                  have t1201 : tyq1199 x = 65 := gSg.typ xq1199 sh1172.1 tx rfl
                                  have t1202 : tyq1199 src = 51 := gSg.typ xq1199 sh1172.1 tsrc rfl
                                  have t1203 : tyq1199 pic = 54 := gSg.typ xq1199 sh1172.1 tpic rfl
                                  have t1204 : tyq1199 bn = 57 := gSg.typ xq1199 sh1172.1 tbn rfl
                                  have t1205 : tyq1199 b0 = 82 := gSg.typ xq1199 sh1172.1 tb0 rfl
                                  have t1206 : tyq1199 b1 = 83 := gSg.typ xq1199 sh1172.1 tb1 rfl
                                  have t1207 : tyq1199 b2 = 84 := gSg.typ xq1199 sh1172.1 tb2 rfl
                                  have t1208 : tyq1199 co = 112 := gSg.typ xq1199 sh1172.1 tco rfl
                                  have hl1209 : hq1199.2.2.2.1 co = h1172.2.2.2.1 co := gSg.len xq1199 sh1172.1 tco rfl
                                  have t1210 : tyq1199 dm = 113 := gSg.typ xq1199 sh1172.1 tdm rfl
                                  have hl1211 : hq1199.2.2.2.1 dm = h1172.2.2.2.1 dm := gSg.len xq1199 sh1172.1 tdm rfl
                                  have s1212 := gSg.at xq1199 sh1172.1 tx rfl (by decide) s1173
                                  have s1213 := gSg.at xq1199 sh1172.1 tx rfl (by decide) s1174
                                  have s1214 := gSg.at xq1199 sh1172.1 tpic rfl (by decide) s1175
                                  have s1215 := gSg.at xq1199 sh1172.1 tbn rfl (by decide) s1176
                                  have s1216 := gSg.at xq1199 sh1172.1 tbn rfl (by decide) s1177
                                  have s1217 := gSg.at xq1199 sh1172.1 tbn rfl (by decide) s1178
                                  have s1218 := gSg.at xq1199 sh1172.1 tsrc rfl (by decide) s1181
                                  have s1219 := gSg.at xq1199 sh1172.1 tb0 rfl (by decide) s1185
                                  have s1220 := gSg.at xq1199 sh1172.1 tb0 rfl (by decide) s1186
                                  have s1221 := gSg.at xq1199 sh1172.1 tb0 rfl (by decide) s1187
                                  have s1222 := gSg.at xq1199 sh1172.1 tb1 rfl (by decide) s1188
                                  have s1223 := gSg.at xq1199 sh1172.1 tb1 rfl (by decide) s1189
                                  have s1224 := gSg.at xq1199 sh1172.1 tb1 rfl (by decide) s1190
                                  have s1225 := gSg.at xq1199 sh1172.1 tb2 rfl (by decide) s1191
                                  have s1226 := gSg.at xq1199 sh1172.1 tb2 rfl (by decide) s1192
                                  have s1227 := gSg.at xq1199 sh1172.1 tb2 rfl (by decide) s1193
                                  have s1228 := gSg.at xq1199 sh1172.1 tpic rfl (by decide) eh1172
                                  have uq1229 := gSg.uq xq1199 uq (by decide)
                                  have sS1230 : gSs rT 1027 tyq1199 [54002, 54003, 54004, 54005, 54006, 54007, 54008, 54010, 54011, 54012, 54013, 82000, 82001, 82002, 82003, 82004, 82005, 82006, 82007, 82008, 83000, 83001, 83002, 83003, 83004, 83005, 83006, 83007, 83008, 84000, 84001, 84002, 84003, 84004, 84005, 84006, 84007, 84008, 112999, 113999] hq1199 hq1199 := gSs.rf xq1199.1
                                  refine gz_s 1 (pc' := 232) (L' := [some (.ref x), some (.int (zi m)), some (.int (zi a)), some (.int (zi n)), some (.int (zi zq1)), some (.int (zi jn14v0)), some (.int (zi zq756)), some (.int (zi zq781)), some (.int (zi 3)), some (.int (zi zq1089))]) (S' := [.int (zi (-1))]) rfl ?_
                                  have hl1231 : 0 ≤ hq1199.2.2.2.1 co ∧ hq1199.2.2.2.1 co ≤ 12288 := gJ.rowl (G := gGG) sS1230.1 t1208 rfl
                                  have hl1232 : 0 ≤ hq1199.2.2.2.1 dm ∧ hq1199.2.2.2.1 dm ≤ 192 := gJ.rowl (G := gGG) sS1230.1 t1210 rfl
                                  have G1233 : gSg [112, 113] [] [54002, 54003, 54004, 54005, 54006, 54007, 54008, 54010, 54011, 54012, 54013, 82000, 82001, 82002, 82003, 82004, 82005, 82006, 82007, 82008, 83000, 83001, 83002, 83003, 83004, 83005, 83006, 83007, 83008, 84000, 84001, 84002, 84003, 84004, 84005, 84006, 84007, 84008, 112999, 113999] ty h tyq1199 hq1199 := gSg.ss G1200 sS1230 (by decide)
                                  exact gz_end (I := .ireturn) (len := 1) rfl (Or.inl rfl) ⟨tyq1199, G1233, (-1), fq1199_0, xq1199_0, rfl, (by omega), (by omega), efq1199_0, (by omega), (by omega), (by omega), (by omega), (by dsimp only; omega), (by dsimp only; omega), (by omega), yq1199_0⟩
                              · refine gy_icF rfl (by decide) (by decide) (by omega) (by omega) hc1108 ?_
                                refine gz_s 1 (pc' := 192) (L' := [some (.ref x), some (.int (zi m)), some (.int (zi a)), some (.int (zi n)), some (.int (zi zq1)), some (.int (zi jn14v0)), some (.int (zi zq756)), some (.int (zi zq781)), some (.int (zi 2)), some (.int (zi zq1089))]) (S' := [.int (zi zq1089)]) rfl ?_
                                have k1234 := sq1089.2.1
                                have k1234b := sq1089.2.2.1
                                have hl1235 : hq1089.2.2.2.1 co = h.2.2.2.1 co := congrFun sq1089.2.2.2.2.1 co
                                have hl1236 : hq1089.2.2.2.1 dm = h.2.2.2.1 dm := congrFun sq1089.2.2.2.2.1 dm
                                have hl1237 : 0 ≤ hq1089.2.2.2.1 co ∧ hq1089.2.2.2.1 co ≤ 12288 := gJ.rowl (G := gGG) sq1089.1 tco rfl
                                have hl1238 : 0 ≤ hq1089.2.2.2.1 dm ∧ hq1089.2.2.2.1 dm ≤ 192 := gJ.rowl (G := gGG) sq1089.1 tdm rfl
                                have k1239 := sq1089.2.1
                                have k1239b := sq1089.2.2.1
                                have hl1240 : hq1089.2.2.2.1 co = h.2.2.2.1 co := congrFun sq1089.2.2.2.2.1 co
                                have hl1241 : hq1089.2.2.2.1 dm = h.2.2.2.1 dm := congrFun sq1089.2.2.2.2.1 dm
                                have hpc1242 : gPC ty pic b0 b1 b2 (hq1089.2.2.2.1 dm : Int) hq1089 := gPC.zero sq1089.1 tpic s1092 tbn s1093 tb0 s1094 tb1 s1095 tb2 s1096 tco s1097 tdm (by rw [(by omega : (0 : Int) = cn)]; exact s1099) bl s1100 (by omega) w s1101 (by omega) (by omega) (by omega) (by omega) (by omega)
                                have G1243 : gSg [112, 113] [] [54002, 54003, 54004, 54005, 54006, 54007, 54008, 54010, 54011, 54012, 54013, 82000, 82001, 82002, 82003, 82004, 82005, 82006, 82007, 82008, 83000, 83001, 83002, 83003, 83004, 83005, 83006, 83007, 83008, 84000, 84001, 84002, 84003, 84004, 84005, 84006, 84007, 84008, 112999, 113999] ty h ty hq1089 := gSg.ss G0 sq1089 (by decide)
                                exact gz_end (I := .ireturn) (len := 1) rfl (Or.inl rfl) ⟨ty, G1243, zq1089, cn, (hq1089.2.2.2.1 dm : Int), rfl, (by omega), (by omega), s1099, (by omega), (by omega), (by omega), (by omega), (by dsimp only; omega), (by dsimp only; omega), (by omega), hpc1242⟩
                          · refine gy_icF rfl (by decide) (by decide) (by omega) (by omega) hc962 ?_
                            refine gz_s 1 (pc' := 192) (L' := [some (.ref x), some (.int (zi m)), some (.int (zi a)), some (.int (zi n)), some (.int (zi zq1)), some (.int (zi jn14v0)), some (.int (zi zq756)), some (.int (zi zq781)), some (.int (zi 1)), some (.int (zi zq946))]) (S' := [.int (zi zq946)]) rfl ?_
                            have k1244 := sq946.2.1
                            have k1244b := sq946.2.2.1
                            have hl1245 : hq946.2.2.2.1 co = h.2.2.2.1 co := congrFun sq946.2.2.2.2.1 co
                            have hl1246 : hq946.2.2.2.1 dm = h.2.2.2.1 dm := congrFun sq946.2.2.2.2.1 dm
                            have hl1247 : 0 ≤ hq946.2.2.2.1 co ∧ hq946.2.2.2.1 co ≤ 12288 := gJ.rowl (G := gGG) sq946.1 tco rfl
                            have hl1248 : 0 ≤ hq946.2.2.2.1 dm ∧ hq946.2.2.2.1 dm ≤ 192 := gJ.rowl (G := gGG) sq946.1 tdm rfl
                            have k1249 := sq946.2.1
                            have k1249b := sq946.2.2.1
                            have hl1250 : hq946.2.2.2.1 co = h.2.2.2.1 co := congrFun sq946.2.2.2.2.1 co
                            have hl1251 : hq946.2.2.2.1 dm = h.2.2.2.1 dm := congrFun sq946.2.2.2.2.1 dm
                            have hpc1252 : gPC ty pic b0 b1 b2 (hq946.2.2.2.1 dm : Int) hq946 := gPC.zero sq946.1 tpic s949 tbn s950 tb0 s951 tb1 s952 tb2 s953 tco s954 tdm (by rw [(by omega : (0 : Int) = cn)]; exact s956) bl s957 (by omega) w s958 (by omega) (by omega) (by omega) (by omega) (by omega)
                            have G1253 : gSg [112, 113] [] [54002, 54003, 54004, 54005, 54006, 54007, 54008, 54010, 54011, 54012, 54013, 82000, 82001, 82002, 82003, 82004, 82005, 82006, 82007, 82008, 83000, 83001, 83002, 83003, 83004, 83005, 83006, 83007, 83008, 84000, 84001, 84002, 84003, 84004, 84005, 84006, 84007, 84008, 112999, 113999] ty h ty hq946 := gSg.ss G0 sq946 (by decide)
                            exact gz_end (I := .ireturn) (len := 1) rfl (Or.inl rfl) ⟨ty, G1253, zq946, cn, (hq946.2.2.2.1 dm : Int), rfl, (by omega), (by omega), s956, (by omega), (by omega), (by omega), (by omega), (by dsimp only; omega), (by dsimp only; omega), (by omega), hpc1252⟩
                      · refine gy_icF rfl (by decide) (by decide) (by omega) (by omega) hc819 ?_
                        refine gz_s 1 (pc' := 192) (L' := [some (.ref x), some (.int (zi m)), some (.int (zi a)), some (.int (zi n)), some (.int (zi zq1)), some (.int (zi jn14v0)), some (.int (zi zq756)), some (.int (zi zq781)), some (.int (zi 0)), some (.int (zi zq806))]) (S' := [.int (zi zq806)]) rfl ?_
                        have k1254 := sq806.2.1
                        have k1254b := sq806.2.2.1
                        have hl1255 : hq806.2.2.2.1 co = h.2.2.2.1 co := congrFun sq806.2.2.2.2.1 co
                        have hl1256 : hq806.2.2.2.1 dm = h.2.2.2.1 dm := congrFun sq806.2.2.2.2.1 dm
                        have hl1257 : 0 ≤ hq806.2.2.2.1 co ∧ hq806.2.2.2.1 co ≤ 12288 := gJ.rowl (G := gGG) sq806.1 tco rfl
                        have hl1258 : 0 ≤ hq806.2.2.2.1 dm ∧ hq806.2.2.2.1 dm ≤ 192 := gJ.rowl (G := gGG) sq806.1 tdm rfl
                        have k1259 := sq806.2.1
                        have k1259b := sq806.2.2.1
                        have hl1260 : hq806.2.2.2.1 co = h.2.2.2.1 co := congrFun sq806.2.2.2.2.1 co
                        have hl1261 : hq806.2.2.2.1 dm = h.2.2.2.1 dm := congrFun sq806.2.2.2.2.1 dm
                        have hpc1262 : gPC ty pic b0 b1 b2 (hq806.2.2.2.1 dm : Int) hq806 := gPC.zero sq806.1 tpic s809 tbn s810 tb0 s811 tb1 s812 tb2 s813 tco s814 tdm (by rw [(by omega : (0 : Int) = cn)]; exact s816) bl s817 (by omega) w s818 (by omega) (by omega) (by omega) (by omega) (by omega)
                        have G1263 : gSg [112, 113] [] [54002, 54003, 54004, 54005, 54006, 54007, 54008, 54010, 54011, 54012, 54013, 82000, 82001, 82002, 82003, 82004, 82005, 82006, 82007, 82008, 83000, 83001, 83002, 83003, 83004, 83005, 83006, 83007, 83008, 84000, 84001, 84002, 84003, 84004, 84005, 84006, 84007, 84008, 112999, 113999] ty h ty hq806 := gSg.ss G0 sq806 (by decide)
                        exact gz_end (I := .ireturn) (len := 1) rfl (Or.inl rfl) ⟨ty, G1263, zq806, cn, (hq806.2.2.2.1 dm : Int), rfl, (by omega), (by omega), s816, (by omega), (by omega), (by omega), (by omega), (by dsimp only; omega), (by dsimp only; omega), (by omega), hpc1262⟩
                    · refine gy_icF rfl (by decide) (by decide) (by omega) (by omega) hc805 ?_
                      refine gy_s 3 (pc' := 146) (L' := [some (.ref x), some (.int (zi m)), some (.int (zi a)), some (.int (zi n)), some (.int (zi zq1)), some (.int (zi jn14v0)), some (.int (zi zq756)), some (.int (zi zq781)), none, none]) (S' := [.int ((zi a) + (zi 5))]) (L2 := [some (.ref x), some (.int (zi m)), some (.int (zi a)), some (.int (zi n)), some (.int (zi zq1)), some (.int (zi jn14v0)), some (.int (zi zq756)), some (.int (zi zq781)), none, none]) (S2 := [.int (zi (a + 5))]) rfl (by simp only [zi_add, zi_sub, zi_mul, zi_neg, zi_and1, zi_and7, zi_and15, zi_and31, zi_and255, Int.reduceAdd, Int.reduceMul, Int.reduceSub]) (by simp only [zi_add, zi_sub, zi_mul, zi_neg, zi_and1, zi_and7, zi_and15, zi_and31, zi_and255, Int.reduceAdd, Int.reduceMul, Int.reduceSub]) ?_
                      have k1264 := sq781.2.1
                      have k1264b := sq781.2.2.1
                      have hl1265 : hq781.2.2.2.1 co = h.2.2.2.1 co := congrFun sq781.2.2.2.2.1 co
                      have hl1266 : hq781.2.2.2.1 dm = h.2.2.2.1 dm := congrFun sq781.2.2.2.2.1 dm
                      have hl1267 : 0 ≤ hq781.2.2.2.1 co ∧ hq781.2.2.2.1 co ≤ 12288 := gJ.rowl (G := gGG) sq781.1 tco rfl
                      have hl1268 : 0 ≤ hq781.2.2.2.1 dm ∧ hq781.2.2.2.1 dm ≤ 192 := gJ.rowl (G := gGG) sq781.1 tdm rfl
                      have k1269 := sq781.2.1
                      have k1269b := sq781.2.2.1
                      have hl1270 : hq781.2.2.2.1 co = h.2.2.2.1 co := congrFun sq781.2.2.2.2.1 co
                      have hl1271 : hq781.2.2.2.1 dm = h.2.2.2.1 dm := congrFun sq781.2.2.2.2.1 dm
                      have hpc1272 : gPC ty pic b0 b1 b2 (hq781.2.2.2.1 dm : Int) hq781 := gPC.zero sq781.1 tpic s784 tbn s785 tb0 s786 tb1 s787 tb2 s788 tco s789 tdm (by rw [(by omega : (0 : Int) = cn)]; exact s791) bl s792 (by omega) w s793 (by omega) (by omega) (by omega) (by omega) (by omega)
                      have G1273 : gSg [112, 113] [] [54002, 54003, 54004, 54005, 54006, 54007, 54008, 54010, 54011, 54012, 54013, 82000, 82001, 82002, 82003, 82004, 82005, 82006, 82007, 82008, 83000, 83001, 83002, 83003, 83004, 83005, 83006, 83007, 83008, 84000, 84001, 84002, 84003, 84004, 84005, 84006, 84007, 84008, 112999, 113999] ty h ty hq781 := gSg.ss G0 sq781 (by decide)
                      exact gz_end (I := .ireturn) (len := 1) rfl (Or.inl rfl) ⟨ty, G1273, a + 5, cn, (hq781.2.2.2.1 dm : Int), rfl, (by omega), (by omega), s791, (by omega), (by omega), (by omega), (by omega), (by dsimp only; omega), (by dsimp only; omega), (by omega), hpc1272⟩
                · refine gy_icF rfl (by decide) (by decide) (by omega) (by omega) hc780 ?_
                  refine gy_s 3 (pc' := 117) (L' := [some (.ref x), some (.int (zi m)), some (.int (zi a)), some (.int (zi n)), some (.int (zi zq1)), some (.int (zi jn14v0)), some (.int (zi zq756)), none, none, none]) (S' := [.int ((zi a) + (zi 3))]) (L2 := [some (.ref x), some (.int (zi m)), some (.int (zi a)), some (.int (zi n)), some (.int (zi zq1)), some (.int (zi jn14v0)), some (.int (zi zq756)), none, none, none]) (S2 := [.int (zi (a + 3))]) rfl (by simp only [zi_add, zi_sub, zi_mul, zi_neg, zi_and1, zi_and7, zi_and15, zi_and31, zi_and255, Int.reduceAdd, Int.reduceMul, Int.reduceSub]) (by simp only [zi_add, zi_sub, zi_mul, zi_neg, zi_and1, zi_and7, zi_and15, zi_and31, zi_and255, Int.reduceAdd, Int.reduceMul, Int.reduceSub]) ?_
                  have k1274 := sq756.2.1
                  have k1274b := sq756.2.2.1
                  have hl1275 : hq756.2.2.2.1 co = h.2.2.2.1 co := congrFun sq756.2.2.2.2.1 co
                  have hl1276 : hq756.2.2.2.1 dm = h.2.2.2.1 dm := congrFun sq756.2.2.2.2.1 dm
                  have hl1277 : 0 ≤ hq756.2.2.2.1 co ∧ hq756.2.2.2.1 co ≤ 12288 := gJ.rowl (G := gGG) sq756.1 tco rfl
                  have hl1278 : 0 ≤ hq756.2.2.2.1 dm ∧ hq756.2.2.2.1 dm ≤ 192 := gJ.rowl (G := gGG) sq756.1 tdm rfl
                  have k1279 := sq756.2.1
                  have k1279b := sq756.2.2.1
                  have hl1280 : hq756.2.2.2.1 co = h.2.2.2.1 co := congrFun sq756.2.2.2.2.1 co
                  have hl1281 : hq756.2.2.2.1 dm = h.2.2.2.1 dm := congrFun sq756.2.2.2.2.1 dm
                  have hpc1282 : gPC ty pic b0 b1 b2 (hq756.2.2.2.1 dm : Int) hq756 := gPC.zero sq756.1 tpic s759 tbn s760 tb0 s761 tb1 s762 tb2 s763 tco s764 tdm (by rw [(by omega : (0 : Int) = cn)]; exact s766) bl s767 (by omega) w s768 (by omega) (by omega) (by omega) (by omega) (by omega)
                  have G1283 : gSg [112, 113] [] [54002, 54003, 54004, 54005, 54006, 54007, 54008, 54010, 54011, 54012, 54013, 82000, 82001, 82002, 82003, 82004, 82005, 82006, 82007, 82008, 83000, 83001, 83002, 83003, 83004, 83005, 83006, 83007, 83008, 84000, 84001, 84002, 84003, 84004, 84005, 84006, 84007, 84008, 112999, 113999] ty h ty hq756 := gSg.ss G0 sq756 (by decide)
                  exact gz_end (I := .ireturn) (len := 1) rfl (Or.inl rfl) ⟨ty, G1283, a + 3, cn, (hq756.2.2.2.1 dm : Int), rfl, (by omega), (by omega), s766, (by omega), (by omega), (by omega), (by omega), (by dsimp only; omega), (by dsimp only; omega), (by omega), hpc1282⟩
          · refine gy_icF rfl (by decide) (by decide) (by omega) (by omega) hc226 ?_
            refine gy_s 3 (pc' := 74) (L' := [some (.ref x), some (.int (zi m)), some (.int (zi a)), some (.int (zi n)), some (.int (zi zq1)), some (.int (zi jn14v0)), none, none, none, none]) (S' := [.int ((zi a) + (zi 2))]) (L2 := [some (.ref x), some (.int (zi m)), some (.int (zi a)), some (.int (zi n)), some (.int (zi zq1)), some (.int (zi jn14v0)), none, none, none, none]) (S2 := [.int (zi (a + 2))]) rfl (by simp only [zi_add, zi_sub, zi_mul, zi_neg, zi_and1, zi_and7, zi_and15, zi_and31, zi_and255, Int.reduceAdd, Int.reduceMul, Int.reduceSub]) (by simp only [zi_add, zi_sub, zi_mul, zi_neg, zi_and1, zi_and7, zi_and15, zi_and31, zi_and255, Int.reduceAdd, Int.reduceMul, Int.reduceSub]) ?_
            have k1284 := sq213.2.1
            have k1284b := sq213.2.2.1
            have hl1285 : hq213.2.2.2.1 co = h.2.2.2.1 co := congrFun sq213.2.2.2.2.1 co
            have hl1286 : hq213.2.2.2.1 dm = h.2.2.2.1 dm := congrFun sq213.2.2.2.2.1 dm
            have hl1287 : 0 ≤ hq213.2.2.2.1 co ∧ hq213.2.2.2.1 co ≤ 12288 := gJ.rowl (G := gGG) sq213.1 tco rfl
            have hl1288 : 0 ≤ hq213.2.2.2.1 dm ∧ hq213.2.2.2.1 dm ≤ 192 := gJ.rowl (G := gGG) sq213.1 tdm rfl
            have k1289 := sq213.2.1
            have k1289b := sq213.2.2.1
            have hl1290 : hq213.2.2.2.1 co = h.2.2.2.1 co := congrFun sq213.2.2.2.2.1 co
            have hl1291 : hq213.2.2.2.1 dm = h.2.2.2.1 dm := congrFun sq213.2.2.2.2.1 dm
            have hpc1292 : gPC ty pic b0 b1 b2 (hq213.2.2.2.1 dm : Int) hq213 := gPC.zero sq213.1 tpic s216 tbn s217 tb0 s218 tb1 s219 tb2 s220 tco s221 tdm (by rw [(by omega : (0 : Int) = cn)]; exact s223) bl s224 (by omega) w s225 (by omega) (by omega) (by omega) (by omega) (by omega)
            have G1293 : gSg [112, 113] [] [54002, 54003, 54004, 54005, 54006, 54007, 54008, 54010, 54011, 54012, 54013, 82000, 82001, 82002, 82003, 82004, 82005, 82006, 82007, 82008, 83000, 83001, 83002, 83003, 83004, 83005, 83006, 83007, 83008, 84000, 84001, 84002, 84003, 84004, 84005, 84006, 84007, 84008, 112999, 113999] ty h ty hq213 := gSg.ss G0 sq213 (by decide)
            exact gz_end (I := .ireturn) (len := 1) rfl (Or.inl rfl) ⟨ty, G1293, a + 2, cn, (hq213.2.2.2.1 dm : Int), rfl, (by omega), (by omega), s223, (by omega), (by omega), (by omega), (by omega), (by dsimp only; omega), (by dsimp only; omega), (by omega), hpc1292⟩
        · refine gy_icF rfl (by decide) (by decide) (by omega) (by omega) hc212 ?_
          refine gz_s 1 (pc' := 55) (L' := [some (.ref x), some (.int (zi m)), some (.int (zi a)), some (.int (zi n)), some (.int (zi zq1)), some (.int (zi jn14v0)), none, none, none, none]) (S' := [.int (zi a)]) rfl ?_
          have k1294 := sq1.2.1
          have k1294b := sq1.2.2.1
          have hl1295 : hq1.2.2.2.1 co = h.2.2.2.1 co := congrFun sq1.2.2.2.2.1 co
          have hl1296 : hq1.2.2.2.1 dm = h.2.2.2.1 dm := congrFun sq1.2.2.2.2.1 dm
          have hl1297 : 0 ≤ hq1.2.2.2.1 co ∧ hq1.2.2.2.1 co ≤ 12288 := gJ.rowl (G := gGG) sq1.1 tco rfl
          have hl1298 : 0 ≤ hq1.2.2.2.1 dm ∧ hq1.2.2.2.1 dm ≤ 192 := gJ.rowl (G := gGG) sq1.1 tdm rfl
          have k1299 := sq1.2.1
          have k1299b := sq1.2.2.1
          have hl1300 : hq1.2.2.2.1 co = h.2.2.2.1 co := congrFun sq1.2.2.2.2.1 co
          have hl1301 : hq1.2.2.2.1 dm = h.2.2.2.1 dm := congrFun sq1.2.2.2.2.1 dm
          have hpc1302 : gPC ty pic b0 b1 b2 (hq1.2.2.2.1 dm : Int) hq1 := gPC.zero sq1.1 tpic s4 tbn s5 tb0 s6 tb1 s7 tb2 s8 tco s9 tdm (by rw [(by omega : (0 : Int) = cn)]; exact s11) bl s12 (by omega) w s13 (by omega) (by omega) (by omega) (by omega) (by omega)
          have G1303 : gSg [112, 113] [] [54002, 54003, 54004, 54005, 54006, 54007, 54008, 54010, 54011, 54012, 54013, 82000, 82001, 82002, 82003, 82004, 82005, 82006, 82007, 82008, 83000, 83001, 83002, 83003, 83004, 83005, 83006, 83007, 83008, 84000, 84001, 84002, 84003, 84004, 84005, 84006, 84007, 84008, 112999, 113999] ty h ty hq1 := gSg.ss G0 sq1 (by decide)
          exact gz_end (I := .ireturn) (len := 1) rfl (Or.inl rfl) ⟨ty, G1303, a, cn, (hq1.2.2.2.1 dm : Int), rfl, (by omega), (by omega), s11, (by omega), (by omega), (by omega), (by omega), (by dsimp only; omega), (by dsimp only; omega), (by omega), hpc1302⟩
  by_cases hc1304 : (zq1 : Int) = 1
  · refine gy_icT (pc' := 25) rfl (by decide) (by decide) (by omega) (by omega) hc1304 ?_
    refine gz_s 2 (pc' := 30) (L' := [some (.ref x), some (.int (zi m)), some (.int (zi a)), some (.int (zi n)), some (.int (zi zq1)), none, none, none, none, none]) (S' := [.int (zi 1)]) rfl ?_
    exact jn14 1 (by omega)
  · refine gy_icF rfl (by decide) (by decide) (by omega) (by omega) hc1304 ?_
    refine gz_s 2 (pc' := 22) (L' := [some (.ref x), some (.int (zi m)), some (.int (zi a)), some (.int (zi n)), some (.int (zi zq1)), none, none, none, none, none]) (S' := [.int (zi 3), .int (zi zq1)]) rfl ?_
    by_cases hc1305 : ¬ (zq1 : Int) = 3
    · refine gy_icT (pc' := 29) rfl (by decide) (by decide) (by omega) (by omega) hc1305 ?_
      refine gz_s 1 (pc' := 30) (L' := [some (.ref x), some (.int (zi m)), some (.int (zi a)), some (.int (zi n)), some (.int (zi zq1)), none, none, none, none, none]) (S' := [.int (zi 0)]) rfl ?_
      exact jn14 0 (by omega)
    · refine gy_icF rfl (by decide) (by decide) (by omega) (by omega) hc1305 ?_
      refine gz_s 2 (pc' := 30) (L' := [some (.ref x), some (.int (zi m)), some (.int (zi a)), some (.int (zi n)), some (.int (zi zq1)), none, none, none, none, none]) (S' := [.int (zi 1)]) rfl ?_
      exact jn14 1 (by omega)
