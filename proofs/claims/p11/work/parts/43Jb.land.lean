/-! ===== methods of the landed text (by program) ===== -/
set_option maxRecDepth 20000 in
set_option maxHeartbeats 4000000 in
theorem cl_Reader_readFrame (d : Nat) {ty : Nat → Nat} {h : gH} (hJ : gJ rT 1027 ty h) (x : Nat) (tx : ty x = 65) (m : Int) (rm : 0 ≤ m ∧ m ≤ 255) (a : Int) (ra : 0 ≤ a ∧ a ≤ 4100) (n : Int) (rn : 0 ≤ n ∧ n ≤ 65535) (src : Nat) (esrc : h.2.2.2.2 x 0 = .ref src) (tsrc : ty src = 51) (pic : Nat) (epic : h.2.2.2.2 x 1 = .ref pic) (tpic : ty pic = 54) (bn : Nat) (ebn : h.2.2.2.2 pic 0 = .ref bn) (tbn : ty bn = 57) (b0 : Nat) (eb0 : h.2.2.2.2 bn 0 = .ref b0) (tb0 : ty b0 = 82) (b1 : Nat) (eb1 : h.2.2.2.2 bn 1 = .ref b1) (tb1 : ty b1 = 83) (b2 : Nat) (eb2 : h.2.2.2.2 bn 2 = .ref b2) (tb2 : ty b2 = 84) (co : Nat) (eco : h.2.2.2.2 pic 2 = .ref co) (tco : ty co = 112) (dm : Nat) (edm : h.2.2.2.2 pic 3 = .ref dm) (tdm : ty dm = 113) (sz : Int) (esz : h.2.2.2.2 src 1 = .int (zi sz)) (rsz : 0 ≤ sz ∧ sz ≤ 2000) (cn : Int) (ecn : h.2.2.2.2 pic 7 = .int (zi cn)) (rcn : 0 ≤ cn ∧ cn ≤ 0) (bl : Int) (ebl : h.2.2.2.2 pic 8 = .int (zi bl)) (rbl : 0 ≤ bl ∧ bl ≤ 0) (w : Int) (ew : h.2.2.2.2 pic 5 = .int (zi w)) (rw : 0 ≤ w ∧ w ≤ 0) (pp0 : (h.2.2.2.1 co : Int) = 64 * (h.2.2.2.1 dm : Int)) (uq : gUq ty) : gz gPP gGG gcn (d + 3) gt28 0 (gent [.ref x, .int (zi m), .int (zi a), .int (zi n)] 10) [] h (fun q _ => ∃ ty9 : Nat → Nat, gSg [112, 113] [] [54002, 54003, 54004, 54005, 54006, 54007, 54008, 54010, 54011, 54012, 54013, 82000, 82001, 82002, 82003, 82004, 82005, 82006, 82007, 82008, 83000, 83001, 83002, 83003, 83004, 83005, 83006, 83007, 83008, 84000, 84001, 84002, 84003, 84004, 84005, 84006, 84007, 84008, 112999, 113999] ty h ty9 q.2.2 ∧ ∃ z cn1 ld1 : Int, gfin gt28 q.1 q.2.1 = some (some (.int (zi z))) ∧ (-1) ≤ z ∧ z ≤ 4400 ∧ q.2.2.2.2.2.2 pic 7 = .int (zi cn1) ∧ 0 ≤ cn1 ∧ cn1 ≤ 3 ∧ 0 ≤ ld1 ∧ ld1 ≤ 192 ∧ (((q.2.2.1 : Int) - h.1) ≤ 2 * (ld1 - h.2.2.2.1 dm)) ∧ (((q.2.2.2.1 : Int) - h.2.1) ≤ 12480 * (ld1 - h.2.2.2.1 dm)) ∧ ((h.2.2.2.1 dm : Int) ≤ ld1) ∧ (gPC ty9 pic b0 b1 b2 ld1 q.2.2)) := by
  have hS : gSs rT 1027 ty [54002, 54003, 54004, 54005, 54006, 54007, 54008, 54010, 54011, 54012, 54013, 82000, 82001, 82002, 82003, 82004, 82005, 82006, 82007, 82008, 83000, 83001, 83002, 83003, 83004, 83005, 83006, 83007, 83008, 84000, 84001, 84002, 84003, 84004, 84005, 84006, 84007, 84008, 112999, 113999] h h := gSs.rf hJ
  have G0 : gSg [112, 113] [] [54002, 54003, 54004, 54005, 54006, 54007, 54008, 54010, 54011, 54012, 54013, 82000, 82001, 82002, 82003, 82004, 82005, 82006, 82007, 82008, 83000, 83001, 83002, 83003, 83004, 83005, 83006, 83007, 83008, 84000, 84001, 84002, 84003, 84004, 84005, 84006, 84007, 84008, 112999, 113999] ty h ty h := gSg.rf hJ (fun x hx => by cases hx)
  refine gz_s 1 (pc' := 1) (L' := [some (.ref x), some (.int (zi m)), some (.int (zi a)), some (.int (zi n)), none, none, none, none, none, none]) (S' := [.ref x]) rfl ?_
  refine gs_gtk rfl (by decide) rfl hS.1 tx rfl rfl esrc ?_
  refine gy_s 3 (pc' := 8) (L' := [some (.ref x), some (.int (zi m)), some (.int (zi a)), some (.int (zi n)), none, none, none, none, none, none]) (S' := [.int ((zi a) + (zi 7)), .ref src]) (L2 := [some (.ref x), some (.int (zi m)), some (.int (zi a)), some (.int (zi n)), none, none, none, none, none, none]) (S2 := [.int (zi (a + 7)), .ref src]) rfl (by simp only [zi_add, zi_sub, zi_mul, zi_neg, zi_and1, zi_and7, zi_and15, zi_and31, zi_and255, Int.reduceAdd, Int.reduceMul, Int.reduceSub]) (by simp only [zi_add, zi_sub, zi_mul, zi_neg, zi_and1, zi_and7, zi_and15, zi_and31, zi_and255, Int.reduceAdd, Int.reduceMul, Int.reduceSub]) ?_
  refine gz_call rfl (by decide) rfl (by decide) (by decide) (gcal_of rfl rfl rfl (Nat.le_of_ble_eq_true rfl) (gJ.recv (G := gGG) hS.1 tsrc rfl rfl)) (cl_Collected_byteAt _ hS.1 src tsrc (a + 7) (by omega) sz esz (by omega) uq) (fun q1 _ wq1 => ?_)
  obtain ⟨pq1, oq1, hq1⟩ := q1
  obtain ⟨xq1, zq1, gq1, aq1, bq1, uq1_0⟩ := wq1
  refine ⟨_, gq1, ?_⟩
  show gz gPP gGG gcn _ _ 11 [some (.ref x), some (.int (zi m)), some (.int (zi a)), some (.int (zi n)), none, none, none, none, none, none] [.int (zi zq1)] hq1 _
  have sq1 : gSs rT 1027 ty [54002, 54003, 54004, 54005, 54006, 54007, 54008, 54010, 54011, 54012, 54013, 82000, 82001, 82002, 82003, 82004, 82005, 82006, 82007, 82008, 83000, 83001, 83002, 83003, 83004, 83005, 83006, 83007, 83008, 84000, 84001, 84002, 84003, 84004, 84005, 84006, 84007, 84008, 112999, 113999] h hq1 := gSs.tr hS xq1 (by decide)
  have s2 := (xq1.2.2.2.2.2 x 0 (by rw [tx]; decide)).trans esrc
  have s3 := (xq1.2.2.2.2.2 x 1 (by rw [tx]; decide)).trans epic
  have s4 := (xq1.2.2.2.2.2 pic 0 (by rw [tpic]; decide)).trans ebn
  have s5 := (xq1.2.2.2.2.2 bn 0 (by rw [tbn]; decide)).trans eb0
  have s6 := (xq1.2.2.2.2.2 bn 1 (by rw [tbn]; decide)).trans eb1
  have s7 := (xq1.2.2.2.2.2 bn 2 (by rw [tbn]; decide)).trans eb2
  have s8 := (xq1.2.2.2.2.2 pic 2 (by rw [tpic]; decide)).trans eco
  have s9 := (xq1.2.2.2.2.2 pic 3 (by rw [tpic]; decide)).trans edm
  have s10 := (xq1.2.2.2.2.2 src 1 (by rw [tsrc]; decide)).trans esz
  have s11 := (xq1.2.2.2.2.2 pic 7 (by rw [tpic]; decide)).trans ecn
  have s12 := (xq1.2.2.2.2.2 pic 8 (by rw [tpic]; decide)).trans ebl
  have s13 := (xq1.2.2.2.2.2 pic 5 (by rw [tpic]; decide)).trans ew
  refine gz_s 3 (pc' := 16) (L' := [some (.ref x), some (.int (zi m)), some (.int (zi a)), some (.int (zi n)), some (.int (zi zq1)), none, none, none, none, none]) (S' := [.int (zi 1), .int (zi zq1)]) rfl ?_
  have jn14 : ∀ (jn14v0 : Int), ((0 ≤ jn14v0) ∧ (jn14v0 ≤ 1) ∧ (jn14v0 = 1 → (zq1 = 1 ∨ zq1 = 3))) → gz gPP gGG gcn (d + 3) gt28 30 [some (.ref x), some (.int (zi m)), some (.int (zi a)), some (.int (zi n)), some (.int (zi zq1)), none, none, none, none, none] [.int (zi jn14v0)] hq1 (fun q _ => ∃ ty9 : Nat → Nat, gSg [112, 113] [] [54002, 54003, 54004, 54005, 54006, 54007, 54008, 54010, 54011, 54012, 54013, 82000, 82001, 82002, 82003, 82004, 82005, 82006, 82007, 82008, 83000, 83001, 83002, 83003, 83004, 83005, 83006, 83007, 83008, 84000, 84001, 84002, 84003, 84004, 84005, 84006, 84007, 84008, 112999, 113999] ty h ty9 q.2.2 ∧ ∃ z cn1 ld1 : Int, gfin gt28 q.1 q.2.1 = some (some (.int (zi z))) ∧ (-1) ≤ z ∧ z ≤ 4400 ∧ q.2.2.2.2.2.2 pic 7 = .int (zi cn1) ∧ 0 ≤ cn1 ∧ cn1 ≤ 3 ∧ 0 ≤ ld1 ∧ ld1 ≤ 192 ∧ (((q.2.2.1 : Int) - h.1) ≤ 2 * (ld1 - h.2.2.2.1 dm)) ∧ (((q.2.2.2.1 : Int) - h.2.1) ≤ 12480 * (ld1 - h.2.2.2.1 dm)) ∧ ((h.2.2.2.1 dm : Int) ≤ ld1) ∧ (gPC ty9 pic b0 b1 b2 ld1 q.2.2)) := by
    intro jn14v0 jn14d
    refine gz_s 3 (pc' := 35) (L' := [some (.ref x), some (.int (zi m)), some (.int (zi a)), some (.int (zi n)), some (.int (zi zq1)), some (.int (zi jn14v0)), none, none, none, none]) (S' := [.int (zi 8), .int (zi n)]) rfl ?_
    by_cases hc15 : (n : Int) < 8
    · refine gy_icT (pc' := 54) rfl (by decide) (by decide) (by omega) (by omega) hc15 ?_
      refine gz_s 1 (pc' := 55) (L' := [some (.ref x), some (.int (zi m)), some (.int (zi a)), some (.int (zi n)), some (.int (zi zq1)), some (.int (zi jn14v0)), none, none, none, none]) (S' := [.int (zi a)]) rfl ?_
      have k16 := sq1.2.1
      have k16b := sq1.2.2.1
      have hl17 : hq1.2.2.2.1 co = h.2.2.2.1 co := congrFun sq1.2.2.2.2.1 co
      have hl18 : hq1.2.2.2.1 dm = h.2.2.2.1 dm := congrFun sq1.2.2.2.2.1 dm
      have k19 := sq1.2.1
      have k19b := sq1.2.2.1
      have hl20 : hq1.2.2.2.1 co = h.2.2.2.1 co := congrFun sq1.2.2.2.2.1 co
      have hl21 : hq1.2.2.2.1 dm = h.2.2.2.1 dm := congrFun sq1.2.2.2.2.1 dm
      have hpc22 : gPC ty pic b0 b1 b2 (hq1.2.2.2.1 dm : Int) hq1 := gPC.zero sq1.1 tpic s4 tbn s5 tb0 s6 tb1 s7 tb2 s8 tco s9 tdm (by rw [(by omega : (0 : Int) = cn)]; exact s11) bl s12 (by omega) w s13 (by omega) (by omega) (by omega) (by omega) (by omega)
      have G23 : gSg [112, 113] [] [54002, 54003, 54004, 54005, 54006, 54007, 54008, 54010, 54011, 54012, 54013, 82000, 82001, 82002, 82003, 82004, 82005, 82006, 82007, 82008, 83000, 83001, 83002, 83003, 83004, 83005, 83006, 83007, 83008, 84000, 84001, 84002, 84003, 84004, 84005, 84006, 84007, 84008, 112999, 113999] ty h ty hq1 := gSg.ss G0 sq1 (by decide)
      exact gz_end (I := .ireturn) (len := 1) rfl (Or.inl rfl) ⟨ty, G23, a, cn, (hq1.2.2.2.1 dm : Int), rfl, (by omega), (by omega), s11, (by omega), (by omega), (by omega), (by omega), (by dsimp only; omega), (by dsimp only; omega), (by omega), hpc22⟩
    · refine gy_icF rfl (by decide) (by decide) (by omega) (by omega) hc15 ?_
      refine gz_s 1 (pc' := 40) (L' := [some (.ref x), some (.int (zi m)), some (.int (zi a)), some (.int (zi n)), some (.int (zi zq1)), some (.int (zi jn14v0)), none, none, none, none]) (S' := [.int (zi jn14v0)]) rfl ?_
      by_cases hc24 : (jn14v0 : Int) = 0
      · refine gy_ifT (pc' := 56) rfl (by decide) (by decide) (by omega) hc24 ?_
        refine gz_s 1 (pc' := 57) (L' := [some (.ref x), some (.int (zi m)), some (.int (zi a)), some (.int (zi n)), some (.int (zi zq1)), some (.int (zi jn14v0)), none, none, none, none]) (S' := [.ref x]) rfl ?_
        refine gs_gtk rfl (by decide) rfl sq1.1 tx rfl rfl s2 ?_
        refine gy_s 3 (pc' := 63) (L' := [some (.ref x), some (.int (zi m)), some (.int (zi a)), some (.int (zi n)), some (.int (zi zq1)), some (.int (zi jn14v0)), none, none, none, none]) (S' := [.int ((zi a) + (zi 2)), .ref src]) (L2 := [some (.ref x), some (.int (zi m)), some (.int (zi a)), some (.int (zi n)), some (.int (zi zq1)), some (.int (zi jn14v0)), none, none, none, none]) (S2 := [.int (zi (a + 2)), .ref src]) rfl (by simp only [zi_add, zi_sub, zi_mul, zi_neg, zi_and1, zi_and7, zi_and15, zi_and31, zi_and255, Int.reduceAdd, Int.reduceMul, Int.reduceSub]) (by simp only [zi_add, zi_sub, zi_mul, zi_neg, zi_and1, zi_and7, zi_and15, zi_and31, zi_and255, Int.reduceAdd, Int.reduceMul, Int.reduceSub]) ?_
        refine gz_call rfl (by decide) rfl (by decide) (by decide) (gcal_of rfl rfl rfl (Nat.le_of_ble_eq_true rfl) (gJ.recv (G := gGG) sq1.1 tsrc rfl rfl)) (cl_Collected_byteAt _ sq1.1 src tsrc (a + 2) (by omega) sz s10 (by omega) uq) (fun q25 _ wq25 => ?_)
        obtain ⟨pq25, oq25, hq25⟩ := q25
        obtain ⟨xq25, zq25, gq25, aq25, bq25, uq25_0⟩ := wq25
        refine ⟨_, gq25, ?_⟩
        show gz gPP gGG gcn _ _ 66 [some (.ref x), some (.int (zi m)), some (.int (zi a)), some (.int (zi n)), some (.int (zi zq1)), some (.int (zi jn14v0)), none, none, none, none] [.int (zi zq25)] hq25 _
        have sq25 : gSs rT 1027 ty [54002, 54003, 54004, 54005, 54006, 54007, 54008, 54010, 54011, 54012, 54013, 82000, 82001, 82002, 82003, 82004, 82005, 82006, 82007, 82008, 83000, 83001, 83002, 83003, 83004, 83005, 83006, 83007, 83008, 84000, 84001, 84002, 84003, 84004, 84005, 84006, 84007, 84008, 112999, 113999] h hq25 := gSs.tr sq1 xq25 (by decide)
        have s26 := (xq25.2.2.2.2.2 x 0 (by rw [tx]; decide)).trans s2
        have s27 := (xq25.2.2.2.2.2 x 1 (by rw [tx]; decide)).trans s3
        have s28 := (xq25.2.2.2.2.2 pic 0 (by rw [tpic]; decide)).trans s4
        have s29 := (xq25.2.2.2.2.2 bn 0 (by rw [tbn]; decide)).trans s5
        have s30 := (xq25.2.2.2.2.2 bn 1 (by rw [tbn]; decide)).trans s6
        have s31 := (xq25.2.2.2.2.2 bn 2 (by rw [tbn]; decide)).trans s7
        have s32 := (xq25.2.2.2.2.2 pic 2 (by rw [tpic]; decide)).trans s8
        have s33 := (xq25.2.2.2.2.2 pic 3 (by rw [tpic]; decide)).trans s9
        have s34 := (xq25.2.2.2.2.2 src 1 (by rw [tsrc]; decide)).trans s10
        have s35 := (xq25.2.2.2.2.2 pic 7 (by rw [tpic]; decide)).trans s11
        have s36 := (xq25.2.2.2.2.2 pic 8 (by rw [tpic]; decide)).trans s12
        have s37 := (xq25.2.2.2.2.2 pic 5 (by rw [tpic]; decide)).trans s13
        refine gz_s 1 (pc' := 68) (L' := [some (.ref x), some (.int (zi m)), some (.int (zi a)), some (.int (zi n)), some (.int (zi zq1)), some (.int (zi jn14v0)), none, none, none, none]) (S' := [.int (zi 8), .int (zi zq25)]) rfl ?_
        by_cases hc38 : (zq25 : Int) = 8
        · refine gy_icT (pc' := 75) rfl (by decide) (by decide) (by omega) (by omega) hc38 ?_
          refine gz_s 1 (pc' := 76) (L' := [some (.ref x), some (.int (zi m)), some (.int (zi a)), some (.int (zi n)), some (.int (zi zq1)), some (.int (zi jn14v0)), none, none, none, none]) (S' := [.ref x]) rfl ?_
          refine gs_gtk rfl (by decide) rfl sq25.1 tx rfl rfl s26 ?_
          refine gy_s 3 (pc' := 82) (L' := [some (.ref x), some (.int (zi m)), some (.int (zi a)), some (.int (zi n)), some (.int (zi zq1)), some (.int (zi jn14v0)), none, none, none, none]) (S' := [.int ((zi a) + (zi 3)), .ref src]) (L2 := [some (.ref x), some (.int (zi m)), some (.int (zi a)), some (.int (zi n)), some (.int (zi zq1)), some (.int (zi jn14v0)), none, none, none, none]) (S2 := [.int (zi (a + 3)), .ref src]) rfl (by simp only [zi_add, zi_sub, zi_mul, zi_neg, zi_and1, zi_and7, zi_and15, zi_and31, zi_and255, Int.reduceAdd, Int.reduceMul, Int.reduceSub]) (by simp only [zi_add, zi_sub, zi_mul, zi_neg, zi_and1, zi_and7, zi_and15, zi_and31, zi_and255, Int.reduceAdd, Int.reduceMul, Int.reduceSub]) ?_
          refine gz_call rfl (by decide) rfl (by decide) (by decide) (gcal_of rfl rfl rfl (Nat.le_of_ble_eq_true rfl) (gJ.recv (G := gGG) sq25.1 tsrc rfl rfl)) (cl_Collected_twoAt _ sq25.1 src tsrc (a + 3) (by omega) sz s34 (by omega) uq) (fun q39 _ wq39 => ?_)
          obtain ⟨pq39, oq39, hq39⟩ := q39
          obtain ⟨xq39, zq39, gq39, aq39, bq39, uq39_0⟩ := wq39
          refine ⟨_, gq39, ?_⟩
          show gz gPP gGG gcn _ _ 85 [some (.ref x), some (.int (zi m)), some (.int (zi a)), some (.int (zi n)), some (.int (zi zq1)), some (.int (zi jn14v0)), none, none, none, none] [.int (zi zq39)] hq39 _
          have sq39 : gSs rT 1027 ty [54002, 54003, 54004, 54005, 54006, 54007, 54008, 54010, 54011, 54012, 54013, 82000, 82001, 82002, 82003, 82004, 82005, 82006, 82007, 82008, 83000, 83001, 83002, 83003, 83004, 83005, 83006, 83007, 83008, 84000, 84001, 84002, 84003, 84004, 84005, 84006, 84007, 84008, 112999, 113999] h hq39 := gSs.tr sq25 xq39 (by decide)
          have s40 := (xq39.2.2.2.2.2 x 0 (by rw [tx]; decide)).trans s26
          have s41 := (xq39.2.2.2.2.2 x 1 (by rw [tx]; decide)).trans s27
          have s42 := (xq39.2.2.2.2.2 pic 0 (by rw [tpic]; decide)).trans s28
          have s43 := (xq39.2.2.2.2.2 bn 0 (by rw [tbn]; decide)).trans s29
          have s44 := (xq39.2.2.2.2.2 bn 1 (by rw [tbn]; decide)).trans s30
          have s45 := (xq39.2.2.2.2.2 bn 2 (by rw [tbn]; decide)).trans s31
          have s46 := (xq39.2.2.2.2.2 pic 2 (by rw [tpic]; decide)).trans s32
          have s47 := (xq39.2.2.2.2.2 pic 3 (by rw [tpic]; decide)).trans s33
          have s48 := (xq39.2.2.2.2.2 src 1 (by rw [tsrc]; decide)).trans s34
          have s49 := (xq39.2.2.2.2.2 pic 7 (by rw [tpic]; decide)).trans s35
          have s50 := (xq39.2.2.2.2.2 pic 8 (by rw [tpic]; decide)).trans s36
          have s51 := (xq39.2.2.2.2.2 pic 5 (by rw [tpic]; decide)).trans s37
          refine gz_s 2 (pc' := 89) (L' := [some (.ref x), some (.int (zi m)), some (.int (zi a)), some (.int (zi n)), some (.int (zi zq1)), some (.int (zi jn14v0)), some (.int (zi zq39)), none, none, none]) (S' := [.int (zi zq39)]) rfl ?_
          by_cases hc52 : ¬ (zq39 : Int) = 0
          · refine gy_ifT (pc' := 101) rfl (by decide) (by decide) (by omega) hc52 ?_
            refine gz_s 2 (pc' := 104) (L' := [some (.ref x), some (.int (zi m)), some (.int (zi a)), some (.int (zi n)), some (.int (zi zq1)), some (.int (zi jn14v0)), some (.int (zi zq39)), none, none, none]) (S' := [.int (zi 1), .int (zi zq39)]) rfl ?_
            by_cases hc53 : (zq39 : Int) < 1
            · refine gy_icT (pc' := 114) rfl (by decide) (by decide) (by omega) (by omega) hc53 ?_
              refine gy_s 3 (pc' := 117) (L' := [some (.ref x), some (.int (zi m)), some (.int (zi a)), some (.int (zi n)), some (.int (zi zq1)), some (.int (zi jn14v0)), some (.int (zi zq39)), none, none, none]) (S' := [.int ((zi a) + (zi 3))]) (L2 := [some (.ref x), some (.int (zi m)), some (.int (zi a)), some (.int (zi n)), some (.int (zi zq1)), some (.int (zi jn14v0)), some (.int (zi zq39)), none, none, none]) (S2 := [.int (zi (a + 3))]) rfl (by simp only [zi_add, zi_sub, zi_mul, zi_neg, zi_and1, zi_and7, zi_and15, zi_and31, zi_and255, Int.reduceAdd, Int.reduceMul, Int.reduceSub]) (by simp only [zi_add, zi_sub, zi_mul, zi_neg, zi_and1, zi_and7, zi_and15, zi_and31, zi_and255, Int.reduceAdd, Int.reduceMul, Int.reduceSub]) ?_
              have k54 := sq39.2.1
              have k54b := sq39.2.2.1
              have hl55 : hq39.2.2.2.1 co = h.2.2.2.1 co := congrFun sq39.2.2.2.2.1 co
              have hl56 : hq39.2.2.2.1 dm = h.2.2.2.1 dm := congrFun sq39.2.2.2.2.1 dm
              have k57 := sq39.2.1
              have k57b := sq39.2.2.1
              have hl58 : hq39.2.2.2.1 co = h.2.2.2.1 co := congrFun sq39.2.2.2.2.1 co
              have hl59 : hq39.2.2.2.1 dm = h.2.2.2.1 dm := congrFun sq39.2.2.2.2.1 dm
              have hpc60 : gPC ty pic b0 b1 b2 (hq39.2.2.2.1 dm : Int) hq39 := gPC.zero sq39.1 tpic s42 tbn s43 tb0 s44 tb1 s45 tb2 s46 tco s47 tdm (by rw [(by omega : (0 : Int) = cn)]; exact s49) bl s50 (by omega) w s51 (by omega) (by omega) (by omega) (by omega) (by omega)
              have G61 : gSg [112, 113] [] [54002, 54003, 54004, 54005, 54006, 54007, 54008, 54010, 54011, 54012, 54013, 82000, 82001, 82002, 82003, 82004, 82005, 82006, 82007, 82008, 83000, 83001, 83002, 83003, 83004, 83005, 83006, 83007, 83008, 84000, 84001, 84002, 84003, 84004, 84005, 84006, 84007, 84008, 112999, 113999] ty h ty hq39 := gSg.ss G0 sq39 (by decide)
              exact gz_end (I := .ireturn) (len := 1) rfl (Or.inl rfl) ⟨ty, G61, a + 3, cn, (hq39.2.2.2.1 dm : Int), rfl, (by omega), (by omega), s49, (by omega), (by omega), (by omega), (by omega), (by dsimp only; omega), (by dsimp only; omega), (by omega), hpc60⟩
            · refine gy_icF rfl (by decide) (by decide) (by omega) (by omega) hc53 ?_
              refine gz_s 2 (pc' := 111) (L' := [some (.ref x), some (.int (zi m)), some (.int (zi a)), some (.int (zi n)), some (.int (zi zq1)), some (.int (zi jn14v0)), some (.int (zi zq39)), none, none, none]) (S' := [.int (zi 64), .int (zi zq39)]) rfl ?_
              by_cases hc62 : (zq39 : Int) ≤ 64
              · refine gy_icT (pc' := 118) rfl (by decide) (by decide) (by omega) (by omega) hc62 ?_
                refine gz_s 1 (pc' := 119) (L' := [some (.ref x), some (.int (zi m)), some (.int (zi a)), some (.int (zi n)), some (.int (zi zq1)), some (.int (zi jn14v0)), some (.int (zi zq39)), none, none, none]) (S' := [.ref x]) rfl ?_
                refine gs_gtk rfl (by decide) rfl sq39.1 tx rfl rfl s40 ?_
                refine gy_s 3 (pc' := 125) (L' := [some (.ref x), some (.int (zi m)), some (.int (zi a)), some (.int (zi n)), some (.int (zi zq1)), some (.int (zi jn14v0)), some (.int (zi zq39)), none, none, none]) (S' := [.int ((zi a) + (zi 5)), .ref src]) (L2 := [some (.ref x), some (.int (zi m)), some (.int (zi a)), some (.int (zi n)), some (.int (zi zq1)), some (.int (zi jn14v0)), some (.int (zi zq39)), none, none, none]) (S2 := [.int (zi (a + 5)), .ref src]) rfl (by simp only [zi_add, zi_sub, zi_mul, zi_neg, zi_and1, zi_and7, zi_and15, zi_and31, zi_and255, Int.reduceAdd, Int.reduceMul, Int.reduceSub]) (by simp only [zi_add, zi_sub, zi_mul, zi_neg, zi_and1, zi_and7, zi_and15, zi_and31, zi_and255, Int.reduceAdd, Int.reduceMul, Int.reduceSub]) ?_
                refine gz_call rfl (by decide) rfl (by decide) (by decide) (gcal_of rfl rfl rfl (Nat.le_of_ble_eq_true rfl) (gJ.recv (G := gGG) sq39.1 tsrc rfl rfl)) (cl_Collected_twoAt _ sq39.1 src tsrc (a + 5) (by omega) sz s48 (by omega) uq) (fun q63 _ wq63 => ?_)
                obtain ⟨pq63, oq63, hq63⟩ := q63
                obtain ⟨xq63, zq63, gq63, aq63, bq63, uq63_0⟩ := wq63
                refine ⟨_, gq63, ?_⟩
                show gz gPP gGG gcn _ _ 128 [some (.ref x), some (.int (zi m)), some (.int (zi a)), some (.int (zi n)), some (.int (zi zq1)), some (.int (zi jn14v0)), some (.int (zi zq39)), none, none, none] [.int (zi zq63)] hq63 _
                have sq63 : gSs rT 1027 ty [54002, 54003, 54004, 54005, 54006, 54007, 54008, 54010, 54011, 54012, 54013, 82000, 82001, 82002, 82003, 82004, 82005, 82006, 82007, 82008, 83000, 83001, 83002, 83003, 83004, 83005, 83006, 83007, 83008, 84000, 84001, 84002, 84003, 84004, 84005, 84006, 84007, 84008, 112999, 113999] h hq63 := gSs.tr sq39 xq63 (by decide)
                have s64 := (xq63.2.2.2.2.2 x 0 (by rw [tx]; decide)).trans s40
                have s65 := (xq63.2.2.2.2.2 x 1 (by rw [tx]; decide)).trans s41
                have s66 := (xq63.2.2.2.2.2 pic 0 (by rw [tpic]; decide)).trans s42
                have s67 := (xq63.2.2.2.2.2 bn 0 (by rw [tbn]; decide)).trans s43
                have s68 := (xq63.2.2.2.2.2 bn 1 (by rw [tbn]; decide)).trans s44
                have s69 := (xq63.2.2.2.2.2 bn 2 (by rw [tbn]; decide)).trans s45
                have s70 := (xq63.2.2.2.2.2 pic 2 (by rw [tpic]; decide)).trans s46
                have s71 := (xq63.2.2.2.2.2 pic 3 (by rw [tpic]; decide)).trans s47
                have s72 := (xq63.2.2.2.2.2 src 1 (by rw [tsrc]; decide)).trans s48
                have s73 := (xq63.2.2.2.2.2 pic 7 (by rw [tpic]; decide)).trans s49
                have s74 := (xq63.2.2.2.2.2 pic 8 (by rw [tpic]; decide)).trans s50
                have s75 := (xq63.2.2.2.2.2 pic 5 (by rw [tpic]; decide)).trans s51
                refine gz_s 3 (pc' := 133) (L' := [some (.ref x), some (.int (zi m)), some (.int (zi a)), some (.int (zi n)), some (.int (zi zq1)), some (.int (zi jn14v0)), some (.int (zi zq39)), some (.int (zi zq63)), none, none]) (S' := [.int (zi 1), .int (zi zq63)]) rfl ?_
                by_cases hc76 : (zq63 : Int) < 1
                · refine gy_icT (pc' := 143) rfl (by decide) (by decide) (by omega) (by omega) hc76 ?_
                  refine gy_s 3 (pc' := 146) (L' := [some (.ref x), some (.int (zi m)), some (.int (zi a)), some (.int (zi n)), some (.int (zi zq1)), some (.int (zi jn14v0)), some (.int (zi zq39)), some (.int (zi zq63)), none, none]) (S' := [.int ((zi a) + (zi 5))]) (L2 := [some (.ref x), some (.int (zi m)), some (.int (zi a)), some (.int (zi n)), some (.int (zi zq1)), some (.int (zi jn14v0)), some (.int (zi zq39)), some (.int (zi zq63)), none, none]) (S2 := [.int (zi (a + 5))]) rfl (by simp only [zi_add, zi_sub, zi_mul, zi_neg, zi_and1, zi_and7, zi_and15, zi_and31, zi_and255, Int.reduceAdd, Int.reduceMul, Int.reduceSub]) (by simp only [zi_add, zi_sub, zi_mul, zi_neg, zi_and1, zi_and7, zi_and15, zi_and31, zi_and255, Int.reduceAdd, Int.reduceMul, Int.reduceSub]) ?_
                  have k77 := sq63.2.1
                  have k77b := sq63.2.2.1
                  have hl78 : hq63.2.2.2.1 co = h.2.2.2.1 co := congrFun sq63.2.2.2.2.1 co
                  have hl79 : hq63.2.2.2.1 dm = h.2.2.2.1 dm := congrFun sq63.2.2.2.2.1 dm
                  have k80 := sq63.2.1
                  have k80b := sq63.2.2.1
                  have hl81 : hq63.2.2.2.1 co = h.2.2.2.1 co := congrFun sq63.2.2.2.2.1 co
                  have hl82 : hq63.2.2.2.1 dm = h.2.2.2.1 dm := congrFun sq63.2.2.2.2.1 dm
                  have hpc83 : gPC ty pic b0 b1 b2 (hq63.2.2.2.1 dm : Int) hq63 := gPC.zero sq63.1 tpic s66 tbn s67 tb0 s68 tb1 s69 tb2 s70 tco s71 tdm (by rw [(by omega : (0 : Int) = cn)]; exact s73) bl s74 (by omega) w s75 (by omega) (by omega) (by omega) (by omega) (by omega)
                  have G84 : gSg [112, 113] [] [54002, 54003, 54004, 54005, 54006, 54007, 54008, 54010, 54011, 54012, 54013, 82000, 82001, 82002, 82003, 82004, 82005, 82006, 82007, 82008, 83000, 83001, 83002, 83003, 83004, 83005, 83006, 83007, 83008, 84000, 84001, 84002, 84003, 84004, 84005, 84006, 84007, 84008, 112999, 113999] ty h ty hq63 := gSg.ss G0 sq63 (by decide)
                  exact gz_end (I := .ireturn) (len := 1) rfl (Or.inl rfl) ⟨ty, G84, a + 5, cn, (hq63.2.2.2.1 dm : Int), rfl, (by omega), (by omega), s73, (by omega), (by omega), (by omega), (by omega), (by dsimp only; omega), (by dsimp only; omega), (by omega), hpc83⟩
                · refine gy_icF rfl (by decide) (by decide) (by omega) (by omega) hc76 ?_
                  refine gz_s 2 (pc' := 140) (L' := [some (.ref x), some (.int (zi m)), some (.int (zi a)), some (.int (zi n)), some (.int (zi zq1)), some (.int (zi jn14v0)), some (.int (zi zq39)), some (.int (zi zq63)), none, none]) (S' := [.int (zi 64), .int (zi zq63)]) rfl ?_
                  by_cases hc85 : (zq63 : Int) ≤ 64
                  · refine gy_icT (pc' := 147) rfl (by decide) (by decide) (by omega) (by omega) hc85 ?_
                    refine gz_s 1 (pc' := 149) (L' := [some (.ref x), some (.int (zi m)), some (.int (zi a)), some (.int (zi n)), some (.int (zi zq1)), some (.int (zi jn14v0)), some (.int (zi zq39)), some (.int (zi zq63)), none, none]) (S' := [.int (zi jn14v0)]) rfl ?_
                    refine gy_ifF rfl (by decide) (by decide) (by omega) (by first | (simp [zc]; done) | (simp only [zc]; omega)) ?_
                    refine gy_s 3 (pc' := 156) (L' := [some (.ref x), some (.int (zi m)), some (.int (zi a)), some (.int (zi n)), some (.int (zi zq1)), some (.int (zi jn14v0)), some (.int (zi zq39)), some (.int (zi zq63)), none, none]) (S' := [.int ((zi a) + (zi 7))]) (L2 := [some (.ref x), some (.int (zi m)), some (.int (zi a)), some (.int (zi n)), some (.int (zi zq1)), some (.int (zi jn14v0)), some (.int (zi zq39)), some (.int (zi zq63)), none, none]) (S2 := [.int (zi (a + 7))]) rfl (by simp only [zi_add, zi_sub, zi_mul, zi_neg, zi_and1, zi_and7, zi_and15, zi_and31, zi_and255, Int.reduceAdd, Int.reduceMul, Int.reduceSub]) (by simp only [zi_add, zi_sub, zi_mul, zi_neg, zi_and1, zi_and7, zi_and15, zi_and31, zi_and255, Int.reduceAdd, Int.reduceMul, Int.reduceSub]) ?_
                    have k86 := sq63.2.1
                    have k86b := sq63.2.2.1
                    have hl87 : hq63.2.2.2.1 co = h.2.2.2.1 co := congrFun sq63.2.2.2.2.1 co
                    have hl88 : hq63.2.2.2.1 dm = h.2.2.2.1 dm := congrFun sq63.2.2.2.2.1 dm
                    have k89 := sq63.2.1
                    have k89b := sq63.2.2.1
                    have hl90 : hq63.2.2.2.1 co = h.2.2.2.1 co := congrFun sq63.2.2.2.2.1 co
                    have hl91 : hq63.2.2.2.1 dm = h.2.2.2.1 dm := congrFun sq63.2.2.2.2.1 dm
                    have hpc92 : gPC ty pic b0 b1 b2 (hq63.2.2.2.1 dm : Int) hq63 := gPC.zero sq63.1 tpic s66 tbn s67 tb0 s68 tb1 s69 tb2 s70 tco s71 tdm (by rw [(by omega : (0 : Int) = cn)]; exact s73) bl s74 (by omega) w s75 (by omega) (by omega) (by omega) (by omega) (by omega)
                    have G93 : gSg [112, 113] [] [54002, 54003, 54004, 54005, 54006, 54007, 54008, 54010, 54011, 54012, 54013, 82000, 82001, 82002, 82003, 82004, 82005, 82006, 82007, 82008, 83000, 83001, 83002, 83003, 83004, 83005, 83006, 83007, 83008, 84000, 84001, 84002, 84003, 84004, 84005, 84006, 84007, 84008, 112999, 113999] ty h ty hq63 := gSg.ss G0 sq63 (by decide)
                    exact gz_end (I := .ireturn) (len := 1) rfl (Or.inl rfl) ⟨ty, G93, a + 7, cn, (hq63.2.2.2.1 dm : Int), rfl, (by omega), (by omega), s73, (by omega), (by omega), (by omega), (by omega), (by dsimp only; omega), (by dsimp only; omega), (by omega), hpc92⟩
                  · refine gy_icF rfl (by decide) (by decide) (by omega) (by omega) hc85 ?_
                    refine gy_s 3 (pc' := 146) (L' := [some (.ref x), some (.int (zi m)), some (.int (zi a)), some (.int (zi n)), some (.int (zi zq1)), some (.int (zi jn14v0)), some (.int (zi zq39)), some (.int (zi zq63)), none, none]) (S' := [.int ((zi a) + (zi 5))]) (L2 := [some (.ref x), some (.int (zi m)), some (.int (zi a)), some (.int (zi n)), some (.int (zi zq1)), some (.int (zi jn14v0)), some (.int (zi zq39)), some (.int (zi zq63)), none, none]) (S2 := [.int (zi (a + 5))]) rfl (by simp only [zi_add, zi_sub, zi_mul, zi_neg, zi_and1, zi_and7, zi_and15, zi_and31, zi_and255, Int.reduceAdd, Int.reduceMul, Int.reduceSub]) (by simp only [zi_add, zi_sub, zi_mul, zi_neg, zi_and1, zi_and7, zi_and15, zi_and31, zi_and255, Int.reduceAdd, Int.reduceMul, Int.reduceSub]) ?_
                    have k94 := sq63.2.1
                    have k94b := sq63.2.2.1
                    have hl95 : hq63.2.2.2.1 co = h.2.2.2.1 co := congrFun sq63.2.2.2.2.1 co
                    have hl96 : hq63.2.2.2.1 dm = h.2.2.2.1 dm := congrFun sq63.2.2.2.2.1 dm
                    have k97 := sq63.2.1
                    have k97b := sq63.2.2.1
                    have hl98 : hq63.2.2.2.1 co = h.2.2.2.1 co := congrFun sq63.2.2.2.2.1 co
                    have hl99 : hq63.2.2.2.1 dm = h.2.2.2.1 dm := congrFun sq63.2.2.2.2.1 dm
                    have hpc100 : gPC ty pic b0 b1 b2 (hq63.2.2.2.1 dm : Int) hq63 := gPC.zero sq63.1 tpic s66 tbn s67 tb0 s68 tb1 s69 tb2 s70 tco s71 tdm (by rw [(by omega : (0 : Int) = cn)]; exact s73) bl s74 (by omega) w s75 (by omega) (by omega) (by omega) (by omega) (by omega)
                    have G101 : gSg [112, 113] [] [54002, 54003, 54004, 54005, 54006, 54007, 54008, 54010, 54011, 54012, 54013, 82000, 82001, 82002, 82003, 82004, 82005, 82006, 82007, 82008, 83000, 83001, 83002, 83003, 83004, 83005, 83006, 83007, 83008, 84000, 84001, 84002, 84003, 84004, 84005, 84006, 84007, 84008, 112999, 113999] ty h ty hq63 := gSg.ss G0 sq63 (by decide)
                    exact gz_end (I := .ireturn) (len := 1) rfl (Or.inl rfl) ⟨ty, G101, a + 5, cn, (hq63.2.2.2.1 dm : Int), rfl, (by omega), (by omega), s73, (by omega), (by omega), (by omega), (by omega), (by dsimp only; omega), (by dsimp only; omega), (by omega), hpc100⟩
              · refine gy_icF rfl (by decide) (by decide) (by omega) (by omega) hc62 ?_
                refine gy_s 3 (pc' := 117) (L' := [some (.ref x), some (.int (zi m)), some (.int (zi a)), some (.int (zi n)), some (.int (zi zq1)), some (.int (zi jn14v0)), some (.int (zi zq39)), none, none, none]) (S' := [.int ((zi a) + (zi 3))]) (L2 := [some (.ref x), some (.int (zi m)), some (.int (zi a)), some (.int (zi n)), some (.int (zi zq1)), some (.int (zi jn14v0)), some (.int (zi zq39)), none, none, none]) (S2 := [.int (zi (a + 3))]) rfl (by simp only [zi_add, zi_sub, zi_mul, zi_neg, zi_and1, zi_and7, zi_and15, zi_and31, zi_and255, Int.reduceAdd, Int.reduceMul, Int.reduceSub]) (by simp only [zi_add, zi_sub, zi_mul, zi_neg, zi_and1, zi_and7, zi_and15, zi_and31, zi_and255, Int.reduceAdd, Int.reduceMul, Int.reduceSub]) ?_
                have k102 := sq39.2.1
                have k102b := sq39.2.2.1
                have hl103 : hq39.2.2.2.1 co = h.2.2.2.1 co := congrFun sq39.2.2.2.2.1 co
                have hl104 : hq39.2.2.2.1 dm = h.2.2.2.1 dm := congrFun sq39.2.2.2.2.1 dm
                have k105 := sq39.2.1
                have k105b := sq39.2.2.1
                have hl106 : hq39.2.2.2.1 co = h.2.2.2.1 co := congrFun sq39.2.2.2.2.1 co
                have hl107 : hq39.2.2.2.1 dm = h.2.2.2.1 dm := congrFun sq39.2.2.2.2.1 dm
                have hpc108 : gPC ty pic b0 b1 b2 (hq39.2.2.2.1 dm : Int) hq39 := gPC.zero sq39.1 tpic s42 tbn s43 tb0 s44 tb1 s45 tb2 s46 tco s47 tdm (by rw [(by omega : (0 : Int) = cn)]; exact s49) bl s50 (by omega) w s51 (by omega) (by omega) (by omega) (by omega) (by omega)
                have G109 : gSg [112, 113] [] [54002, 54003, 54004, 54005, 54006, 54007, 54008, 54010, 54011, 54012, 54013, 82000, 82001, 82002, 82003, 82004, 82005, 82006, 82007, 82008, 83000, 83001, 83002, 83003, 83004, 83005, 83006, 83007, 83008, 84000, 84001, 84002, 84003, 84004, 84005, 84006, 84007, 84008, 112999, 113999] ty h ty hq39 := gSg.ss G0 sq39 (by decide)
                exact gz_end (I := .ireturn) (len := 1) rfl (Or.inl rfl) ⟨ty, G109, a + 3, cn, (hq39.2.2.2.1 dm : Int), rfl, (by omega), (by omega), s49, (by omega), (by omega), (by omega), (by omega), (by dsimp only; omega), (by dsimp only; omega), (by omega), hpc108⟩
          · refine gy_ifF rfl (by decide) (by decide) (by omega) hc52 ?_
            refine gy_s 4 (pc' := 96) (L' := [some (.ref x), some (.int (zi m)), some (.int (zi a)), some (.int (zi n)), some (.int (zi zq1)), some (.int (zi jn14v0)), some (.int (zi zq39)), none, none, none]) (S' := [.int ((zi a) + (zi 5)), .ref x]) (L2 := [some (.ref x), some (.int (zi m)), some (.int (zi a)), some (.int (zi n)), some (.int (zi zq1)), some (.int (zi jn14v0)), some (.int (zi zq39)), none, none, none]) (S2 := [.int (zi (a + 5)), .ref x]) rfl (by simp only [zi_add, zi_sub, zi_mul, zi_neg, zi_and1, zi_and7, zi_and15, zi_and31, zi_and255, Int.reduceAdd, Int.reduceMul, Int.reduceSub]) (by simp only [zi_add, zi_sub, zi_mul, zi_neg, zi_and1, zi_and7, zi_and15, zi_and31, zi_and255, Int.reduceAdd, Int.reduceMul, Int.reduceSub]) ?_
            refine gz_call rfl (by decide) rfl (by decide) (by decide) (gcal_of rfl rfl rfl (Nat.le_of_ble_eq_true rfl) (gJ.recv (G := gGG) sq39.1 tx rfl rfl)) (cl_Reader_heightBehind _ sq39.1 x tx (a + 5) (by omega) src s40 tsrc sz s48 (by omega) uq) (fun q110 _ wq110 => ?_)
            obtain ⟨pq110, oq110, hq110⟩ := q110
            obtain ⟨xq110, zq110, gq110, aq110, bq110⟩ := wq110
            refine ⟨_, gq110, ?_⟩
            show gz gPP gGG gcn _ _ 99 [some (.ref x), some (.int (zi m)), some (.int (zi a)), some (.int (zi n)), some (.int (zi zq1)), some (.int (zi jn14v0)), some (.int (zi zq39)), none, none, none] [.int (zi zq110)] hq110 _
            have sq110 : gSs rT 1027 ty [54002, 54003, 54004, 54005, 54006, 54007, 54008, 54010, 54011, 54012, 54013, 82000, 82001, 82002, 82003, 82004, 82005, 82006, 82007, 82008, 83000, 83001, 83002, 83003, 83004, 83005, 83006, 83007, 83008, 84000, 84001, 84002, 84003, 84004, 84005, 84006, 84007, 84008, 112999, 113999] h hq110 := gSs.tr sq39 xq110 (by decide)
            have s111 := (xq110.2.2.2.2.2 x 0 (by rw [tx]; decide)).trans s40
            have s112 := (xq110.2.2.2.2.2 x 1 (by rw [tx]; decide)).trans s41
            have s113 := (xq110.2.2.2.2.2 pic 0 (by rw [tpic]; decide)).trans s42
            have s114 := (xq110.2.2.2.2.2 bn 0 (by rw [tbn]; decide)).trans s43
            have s115 := (xq110.2.2.2.2.2 bn 1 (by rw [tbn]; decide)).trans s44
            have s116 := (xq110.2.2.2.2.2 bn 2 (by rw [tbn]; decide)).trans s45
            have s117 := (xq110.2.2.2.2.2 pic 2 (by rw [tpic]; decide)).trans s46
            have s118 := (xq110.2.2.2.2.2 pic 3 (by rw [tpic]; decide)).trans s47
            have s119 := (xq110.2.2.2.2.2 src 1 (by rw [tsrc]; decide)).trans s48
            have s120 := (xq110.2.2.2.2.2 pic 7 (by rw [tpic]; decide)).trans s49
            have s121 := (xq110.2.2.2.2.2 pic 8 (by rw [tpic]; decide)).trans s50
            have s122 := (xq110.2.2.2.2.2 pic 5 (by rw [tpic]; decide)).trans s51
            refine gz_s 3 (pc' := 104) (L' := [some (.ref x), some (.int (zi m)), some (.int (zi a)), some (.int (zi n)), some (.int (zi zq1)), some (.int (zi jn14v0)), some (.int (zi zq110)), none, none, none]) (S' := [.int (zi 1), .int (zi zq110)]) rfl ?_
            by_cases hc123 : (zq110 : Int) < 1
            · refine gy_icT (pc' := 114) rfl (by decide) (by decide) (by omega) (by omega) hc123 ?_
              refine gy_s 3 (pc' := 117) (L' := [some (.ref x), some (.int (zi m)), some (.int (zi a)), some (.int (zi n)), some (.int (zi zq1)), some (.int (zi jn14v0)), some (.int (zi zq110)), none, none, none]) (S' := [.int ((zi a) + (zi 3))]) (L2 := [some (.ref x), some (.int (zi m)), some (.int (zi a)), some (.int (zi n)), some (.int (zi zq1)), some (.int (zi jn14v0)), some (.int (zi zq110)), none, none, none]) (S2 := [.int (zi (a + 3))]) rfl (by simp only [zi_add, zi_sub, zi_mul, zi_neg, zi_and1, zi_and7, zi_and15, zi_and31, zi_and255, Int.reduceAdd, Int.reduceMul, Int.reduceSub]) (by simp only [zi_add, zi_sub, zi_mul, zi_neg, zi_and1, zi_and7, zi_and15, zi_and31, zi_and255, Int.reduceAdd, Int.reduceMul, Int.reduceSub]) ?_
              have k124 := sq110.2.1
              have k124b := sq110.2.2.1
              have hl125 : hq110.2.2.2.1 co = h.2.2.2.1 co := congrFun sq110.2.2.2.2.1 co
              have hl126 : hq110.2.2.2.1 dm = h.2.2.2.1 dm := congrFun sq110.2.2.2.2.1 dm
              have k127 := sq110.2.1
              have k127b := sq110.2.2.1
              have hl128 : hq110.2.2.2.1 co = h.2.2.2.1 co := congrFun sq110.2.2.2.2.1 co
              have hl129 : hq110.2.2.2.1 dm = h.2.2.2.1 dm := congrFun sq110.2.2.2.2.1 dm
              have hpc130 : gPC ty pic b0 b1 b2 (hq110.2.2.2.1 dm : Int) hq110 := gPC.zero sq110.1 tpic s113 tbn s114 tb0 s115 tb1 s116 tb2 s117 tco s118 tdm (by rw [(by omega : (0 : Int) = cn)]; exact s120) bl s121 (by omega) w s122 (by omega) (by omega) (by omega) (by omega) (by omega)
              have G131 : gSg [112, 113] [] [54002, 54003, 54004, 54005, 54006, 54007, 54008, 54010, 54011, 54012, 54013, 82000, 82001, 82002, 82003, 82004, 82005, 82006, 82007, 82008, 83000, 83001, 83002, 83003, 83004, 83005, 83006, 83007, 83008, 84000, 84001, 84002, 84003, 84004, 84005, 84006, 84007, 84008, 112999, 113999] ty h ty hq110 := gSg.ss G0 sq110 (by decide)
              exact gz_end (I := .ireturn) (len := 1) rfl (Or.inl rfl) ⟨ty, G131, a + 3, cn, (hq110.2.2.2.1 dm : Int), rfl, (by omega), (by omega), s120, (by omega), (by omega), (by omega), (by omega), (by dsimp only; omega), (by dsimp only; omega), (by omega), hpc130⟩
            · refine gy_icF rfl (by decide) (by decide) (by omega) (by omega) hc123 ?_
              refine gz_s 2 (pc' := 111) (L' := [some (.ref x), some (.int (zi m)), some (.int (zi a)), some (.int (zi n)), some (.int (zi zq1)), some (.int (zi jn14v0)), some (.int (zi zq110)), none, none, none]) (S' := [.int (zi 64), .int (zi zq110)]) rfl ?_
              by_cases hc132 : (zq110 : Int) ≤ 64
              · refine gy_icT (pc' := 118) rfl (by decide) (by decide) (by omega) (by omega) hc132 ?_
                refine gz_s 1 (pc' := 119) (L' := [some (.ref x), some (.int (zi m)), some (.int (zi a)), some (.int (zi n)), some (.int (zi zq1)), some (.int (zi jn14v0)), some (.int (zi zq110)), none, none, none]) (S' := [.ref x]) rfl ?_
                refine gs_gtk rfl (by decide) rfl sq110.1 tx rfl rfl s111 ?_
                refine gy_s 3 (pc' := 125) (L' := [some (.ref x), some (.int (zi m)), some (.int (zi a)), some (.int (zi n)), some (.int (zi zq1)), some (.int (zi jn14v0)), some (.int (zi zq110)), none, none, none]) (S' := [.int ((zi a) + (zi 5)), .ref src]) (L2 := [some (.ref x), some (.int (zi m)), some (.int (zi a)), some (.int (zi n)), some (.int (zi zq1)), some (.int (zi jn14v0)), some (.int (zi zq110)), none, none, none]) (S2 := [.int (zi (a + 5)), .ref src]) rfl (by simp only [zi_add, zi_sub, zi_mul, zi_neg, zi_and1, zi_and7, zi_and15, zi_and31, zi_and255, Int.reduceAdd, Int.reduceMul, Int.reduceSub]) (by simp only [zi_add, zi_sub, zi_mul, zi_neg, zi_and1, zi_and7, zi_and15, zi_and31, zi_and255, Int.reduceAdd, Int.reduceMul, Int.reduceSub]) ?_
                refine gz_call rfl (by decide) rfl (by decide) (by decide) (gcal_of rfl rfl rfl (Nat.le_of_ble_eq_true rfl) (gJ.recv (G := gGG) sq110.1 tsrc rfl rfl)) (cl_Collected_twoAt _ sq110.1 src tsrc (a + 5) (by omega) sz s119 (by omega) uq) (fun q133 _ wq133 => ?_)
                obtain ⟨pq133, oq133, hq133⟩ := q133
                obtain ⟨xq133, zq133, gq133, aq133, bq133, uq133_0⟩ := wq133
                refine ⟨_, gq133, ?_⟩
                show gz gPP gGG gcn _ _ 128 [some (.ref x), some (.int (zi m)), some (.int (zi a)), some (.int (zi n)), some (.int (zi zq1)), some (.int (zi jn14v0)), some (.int (zi zq110)), none, none, none] [.int (zi zq133)] hq133 _
                have sq133 : gSs rT 1027 ty [54002, 54003, 54004, 54005, 54006, 54007, 54008, 54010, 54011, 54012, 54013, 82000, 82001, 82002, 82003, 82004, 82005, 82006, 82007, 82008, 83000, 83001, 83002, 83003, 83004, 83005, 83006, 83007, 83008, 84000, 84001, 84002, 84003, 84004, 84005, 84006, 84007, 84008, 112999, 113999] h hq133 := gSs.tr sq110 xq133 (by decide)
                have s134 := (xq133.2.2.2.2.2 x 0 (by rw [tx]; decide)).trans s111
                have s135 := (xq133.2.2.2.2.2 x 1 (by rw [tx]; decide)).trans s112
                have s136 := (xq133.2.2.2.2.2 pic 0 (by rw [tpic]; decide)).trans s113
                have s137 := (xq133.2.2.2.2.2 bn 0 (by rw [tbn]; decide)).trans s114
                have s138 := (xq133.2.2.2.2.2 bn 1 (by rw [tbn]; decide)).trans s115
                have s139 := (xq133.2.2.2.2.2 bn 2 (by rw [tbn]; decide)).trans s116
                have s140 := (xq133.2.2.2.2.2 pic 2 (by rw [tpic]; decide)).trans s117
                have s141 := (xq133.2.2.2.2.2 pic 3 (by rw [tpic]; decide)).trans s118
                have s142 := (xq133.2.2.2.2.2 src 1 (by rw [tsrc]; decide)).trans s119
                have s143 := (xq133.2.2.2.2.2 pic 7 (by rw [tpic]; decide)).trans s120
                have s144 := (xq133.2.2.2.2.2 pic 8 (by rw [tpic]; decide)).trans s121
                have s145 := (xq133.2.2.2.2.2 pic 5 (by rw [tpic]; decide)).trans s122
                refine gz_s 3 (pc' := 133) (L' := [some (.ref x), some (.int (zi m)), some (.int (zi a)), some (.int (zi n)), some (.int (zi zq1)), some (.int (zi jn14v0)), some (.int (zi zq110)), some (.int (zi zq133)), none, none]) (S' := [.int (zi 1), .int (zi zq133)]) rfl ?_
                by_cases hc146 : (zq133 : Int) < 1
                · refine gy_icT (pc' := 143) rfl (by decide) (by decide) (by omega) (by omega) hc146 ?_
                  refine gy_s 3 (pc' := 146) (L' := [some (.ref x), some (.int (zi m)), some (.int (zi a)), some (.int (zi n)), some (.int (zi zq1)), some (.int (zi jn14v0)), some (.int (zi zq110)), some (.int (zi zq133)), none, none]) (S' := [.int ((zi a) + (zi 5))]) (L2 := [some (.ref x), some (.int (zi m)), some (.int (zi a)), some (.int (zi n)), some (.int (zi zq1)), some (.int (zi jn14v0)), some (.int (zi zq110)), some (.int (zi zq133)), none, none]) (S2 := [.int (zi (a + 5))]) rfl (by simp only [zi_add, zi_sub, zi_mul, zi_neg, zi_and1, zi_and7, zi_and15, zi_and31, zi_and255, Int.reduceAdd, Int.reduceMul, Int.reduceSub]) (by simp only [zi_add, zi_sub, zi_mul, zi_neg, zi_and1, zi_and7, zi_and15, zi_and31, zi_and255, Int.reduceAdd, Int.reduceMul, Int.reduceSub]) ?_
                  have k147 := sq133.2.1
                  have k147b := sq133.2.2.1
                  have hl148 : hq133.2.2.2.1 co = h.2.2.2.1 co := congrFun sq133.2.2.2.2.1 co
                  have hl149 : hq133.2.2.2.1 dm = h.2.2.2.1 dm := congrFun sq133.2.2.2.2.1 dm
                  have k150 := sq133.2.1
                  have k150b := sq133.2.2.1
                  have hl151 : hq133.2.2.2.1 co = h.2.2.2.1 co := congrFun sq133.2.2.2.2.1 co
                  have hl152 : hq133.2.2.2.1 dm = h.2.2.2.1 dm := congrFun sq133.2.2.2.2.1 dm
                  have hpc153 : gPC ty pic b0 b1 b2 (hq133.2.2.2.1 dm : Int) hq133 := gPC.zero sq133.1 tpic s136 tbn s137 tb0 s138 tb1 s139 tb2 s140 tco s141 tdm (by rw [(by omega : (0 : Int) = cn)]; exact s143) bl s144 (by omega) w s145 (by omega) (by omega) (by omega) (by omega) (by omega)
                  have G154 : gSg [112, 113] [] [54002, 54003, 54004, 54005, 54006, 54007, 54008, 54010, 54011, 54012, 54013, 82000, 82001, 82002, 82003, 82004, 82005, 82006, 82007, 82008, 83000, 83001, 83002, 83003, 83004, 83005, 83006, 83007, 83008, 84000, 84001, 84002, 84003, 84004, 84005, 84006, 84007, 84008, 112999, 113999] ty h ty hq133 := gSg.ss G0 sq133 (by decide)
                  exact gz_end (I := .ireturn) (len := 1) rfl (Or.inl rfl) ⟨ty, G154, a + 5, cn, (hq133.2.2.2.1 dm : Int), rfl, (by omega), (by omega), s143, (by omega), (by omega), (by omega), (by omega), (by dsimp only; omega), (by dsimp only; omega), (by omega), hpc153⟩
                · refine gy_icF rfl (by decide) (by decide) (by omega) (by omega) hc146 ?_
                  refine gz_s 2 (pc' := 140) (L' := [some (.ref x), some (.int (zi m)), some (.int (zi a)), some (.int (zi n)), some (.int (zi zq1)), some (.int (zi jn14v0)), some (.int (zi zq110)), some (.int (zi zq133)), none, none]) (S' := [.int (zi 64), .int (zi zq133)]) rfl ?_
                  by_cases hc155 : (zq133 : Int) ≤ 64
                  · refine gy_icT (pc' := 147) rfl (by decide) (by decide) (by omega) (by omega) hc155 ?_
                    refine gz_s 1 (pc' := 149) (L' := [some (.ref x), some (.int (zi m)), some (.int (zi a)), some (.int (zi n)), some (.int (zi zq1)), some (.int (zi jn14v0)), some (.int (zi zq110)), some (.int (zi zq133)), none, none]) (S' := [.int (zi jn14v0)]) rfl ?_
                    refine gy_ifF rfl (by decide) (by decide) (by omega) (by first | (simp [zc]; done) | (simp only [zc]; omega)) ?_
                    refine gy_s 3 (pc' := 156) (L' := [some (.ref x), some (.int (zi m)), some (.int (zi a)), some (.int (zi n)), some (.int (zi zq1)), some (.int (zi jn14v0)), some (.int (zi zq110)), some (.int (zi zq133)), none, none]) (S' := [.int ((zi a) + (zi 7))]) (L2 := [some (.ref x), some (.int (zi m)), some (.int (zi a)), some (.int (zi n)), some (.int (zi zq1)), some (.int (zi jn14v0)), some (.int (zi zq110)), some (.int (zi zq133)), none, none]) (S2 := [.int (zi (a + 7))]) rfl (by simp only [zi_add, zi_sub, zi_mul, zi_neg, zi_and1, zi_and7, zi_and15, zi_and31, zi_and255, Int.reduceAdd, Int.reduceMul, Int.reduceSub]) (by simp only [zi_add, zi_sub, zi_mul, zi_neg, zi_and1, zi_and7, zi_and15, zi_and31, zi_and255, Int.reduceAdd, Int.reduceMul, Int.reduceSub]) ?_
                    have k156 := sq133.2.1
                    have k156b := sq133.2.2.1
                    have hl157 : hq133.2.2.2.1 co = h.2.2.2.1 co := congrFun sq133.2.2.2.2.1 co
                    have hl158 : hq133.2.2.2.1 dm = h.2.2.2.1 dm := congrFun sq133.2.2.2.2.1 dm
                    have k159 := sq133.2.1
                    have k159b := sq133.2.2.1
                    have hl160 : hq133.2.2.2.1 co = h.2.2.2.1 co := congrFun sq133.2.2.2.2.1 co
                    have hl161 : hq133.2.2.2.1 dm = h.2.2.2.1 dm := congrFun sq133.2.2.2.2.1 dm
                    have hpc162 : gPC ty pic b0 b1 b2 (hq133.2.2.2.1 dm : Int) hq133 := gPC.zero sq133.1 tpic s136 tbn s137 tb0 s138 tb1 s139 tb2 s140 tco s141 tdm (by rw [(by omega : (0 : Int) = cn)]; exact s143) bl s144 (by omega) w s145 (by omega) (by omega) (by omega) (by omega) (by omega)
                    have G163 : gSg [112, 113] [] [54002, 54003, 54004, 54005, 54006, 54007, 54008, 54010, 54011, 54012, 54013, 82000, 82001, 82002, 82003, 82004, 82005, 82006, 82007, 82008, 83000, 83001, 83002, 83003, 83004, 83005, 83006, 83007, 83008, 84000, 84001, 84002, 84003, 84004, 84005, 84006, 84007, 84008, 112999, 113999] ty h ty hq133 := gSg.ss G0 sq133 (by decide)
                    exact gz_end (I := .ireturn) (len := 1) rfl (Or.inl rfl) ⟨ty, G163, a + 7, cn, (hq133.2.2.2.1 dm : Int), rfl, (by omega), (by omega), s143, (by omega), (by omega), (by omega), (by omega), (by dsimp only; omega), (by dsimp only; omega), (by omega), hpc162⟩
                  · refine gy_icF rfl (by decide) (by decide) (by omega) (by omega) hc155 ?_
                    refine gy_s 3 (pc' := 146) (L' := [some (.ref x), some (.int (zi m)), some (.int (zi a)), some (.int (zi n)), some (.int (zi zq1)), some (.int (zi jn14v0)), some (.int (zi zq110)), some (.int (zi zq133)), none, none]) (S' := [.int ((zi a) + (zi 5))]) (L2 := [some (.ref x), some (.int (zi m)), some (.int (zi a)), some (.int (zi n)), some (.int (zi zq1)), some (.int (zi jn14v0)), some (.int (zi zq110)), some (.int (zi zq133)), none, none]) (S2 := [.int (zi (a + 5))]) rfl (by simp only [zi_add, zi_sub, zi_mul, zi_neg, zi_and1, zi_and7, zi_and15, zi_and31, zi_and255, Int.reduceAdd, Int.reduceMul, Int.reduceSub]) (by simp only [zi_add, zi_sub, zi_mul, zi_neg, zi_and1, zi_and7, zi_and15, zi_and31, zi_and255, Int.reduceAdd, Int.reduceMul, Int.reduceSub]) ?_
                    have k164 := sq133.2.1
                    have k164b := sq133.2.2.1
                    have hl165 : hq133.2.2.2.1 co = h.2.2.2.1 co := congrFun sq133.2.2.2.2.1 co
                    have hl166 : hq133.2.2.2.1 dm = h.2.2.2.1 dm := congrFun sq133.2.2.2.2.1 dm
                    have k167 := sq133.2.1
                    have k167b := sq133.2.2.1
                    have hl168 : hq133.2.2.2.1 co = h.2.2.2.1 co := congrFun sq133.2.2.2.2.1 co
                    have hl169 : hq133.2.2.2.1 dm = h.2.2.2.1 dm := congrFun sq133.2.2.2.2.1 dm
                    have hpc170 : gPC ty pic b0 b1 b2 (hq133.2.2.2.1 dm : Int) hq133 := gPC.zero sq133.1 tpic s136 tbn s137 tb0 s138 tb1 s139 tb2 s140 tco s141 tdm (by rw [(by omega : (0 : Int) = cn)]; exact s143) bl s144 (by omega) w s145 (by omega) (by omega) (by omega) (by omega) (by omega)
                    have G171 : gSg [112, 113] [] [54002, 54003, 54004, 54005, 54006, 54007, 54008, 54010, 54011, 54012, 54013, 82000, 82001, 82002, 82003, 82004, 82005, 82006, 82007, 82008, 83000, 83001, 83002, 83003, 83004, 83005, 83006, 83007, 83008, 84000, 84001, 84002, 84003, 84004, 84005, 84006, 84007, 84008, 112999, 113999] ty h ty hq133 := gSg.ss G0 sq133 (by decide)
                    exact gz_end (I := .ireturn) (len := 1) rfl (Or.inl rfl) ⟨ty, G171, a + 5, cn, (hq133.2.2.2.1 dm : Int), rfl, (by omega), (by omega), s143, (by omega), (by omega), (by omega), (by omega), (by dsimp only; omega), (by dsimp only; omega), (by omega), hpc170⟩
              · refine gy_icF rfl (by decide) (by decide) (by omega) (by omega) hc132 ?_
                refine gy_s 3 (pc' := 117) (L' := [some (.ref x), some (.int (zi m)), some (.int (zi a)), some (.int (zi n)), some (.int (zi zq1)), some (.int (zi jn14v0)), some (.int (zi zq110)), none, none, none]) (S' := [.int ((zi a) + (zi 3))]) (L2 := [some (.ref x), some (.int (zi m)), some (.int (zi a)), some (.int (zi n)), some (.int (zi zq1)), some (.int (zi jn14v0)), some (.int (zi zq110)), none, none, none]) (S2 := [.int (zi (a + 3))]) rfl (by simp only [zi_add, zi_sub, zi_mul, zi_neg, zi_and1, zi_and7, zi_and15, zi_and31, zi_and255, Int.reduceAdd, Int.reduceMul, Int.reduceSub]) (by simp only [zi_add, zi_sub, zi_mul, zi_neg, zi_and1, zi_and7, zi_and15, zi_and31, zi_and255, Int.reduceAdd, Int.reduceMul, Int.reduceSub]) ?_
                have k172 := sq110.2.1
                have k172b := sq110.2.2.1
                have hl173 : hq110.2.2.2.1 co = h.2.2.2.1 co := congrFun sq110.2.2.2.2.1 co
                have hl174 : hq110.2.2.2.1 dm = h.2.2.2.1 dm := congrFun sq110.2.2.2.2.1 dm
                have k175 := sq110.2.1
                have k175b := sq110.2.2.1
                have hl176 : hq110.2.2.2.1 co = h.2.2.2.1 co := congrFun sq110.2.2.2.2.1 co
                have hl177 : hq110.2.2.2.1 dm = h.2.2.2.1 dm := congrFun sq110.2.2.2.2.1 dm
                have hpc178 : gPC ty pic b0 b1 b2 (hq110.2.2.2.1 dm : Int) hq110 := gPC.zero sq110.1 tpic s113 tbn s114 tb0 s115 tb1 s116 tb2 s117 tco s118 tdm (by rw [(by omega : (0 : Int) = cn)]; exact s120) bl s121 (by omega) w s122 (by omega) (by omega) (by omega) (by omega) (by omega)
                have G179 : gSg [112, 113] [] [54002, 54003, 54004, 54005, 54006, 54007, 54008, 54010, 54011, 54012, 54013, 82000, 82001, 82002, 82003, 82004, 82005, 82006, 82007, 82008, 83000, 83001, 83002, 83003, 83004, 83005, 83006, 83007, 83008, 84000, 84001, 84002, 84003, 84004, 84005, 84006, 84007, 84008, 112999, 113999] ty h ty hq110 := gSg.ss G0 sq110 (by decide)
                exact gz_end (I := .ireturn) (len := 1) rfl (Or.inl rfl) ⟨ty, G179, a + 3, cn, (hq110.2.2.2.1 dm : Int), rfl, (by omega), (by omega), s120, (by omega), (by omega), (by omega), (by omega), (by dsimp only; omega), (by dsimp only; omega), (by omega), hpc178⟩
        · refine gy_icF rfl (by decide) (by decide) (by omega) (by omega) hc38 ?_
          refine gy_s 3 (pc' := 74) (L' := [some (.ref x), some (.int (zi m)), some (.int (zi a)), some (.int (zi n)), some (.int (zi zq1)), some (.int (zi jn14v0)), none, none, none, none]) (S' := [.int ((zi a) + (zi 2))]) (L2 := [some (.ref x), some (.int (zi m)), some (.int (zi a)), some (.int (zi n)), some (.int (zi zq1)), some (.int (zi jn14v0)), none, none, none, none]) (S2 := [.int (zi (a + 2))]) rfl (by simp only [zi_add, zi_sub, zi_mul, zi_neg, zi_and1, zi_and7, zi_and15, zi_and31, zi_and255, Int.reduceAdd, Int.reduceMul, Int.reduceSub]) (by simp only [zi_add, zi_sub, zi_mul, zi_neg, zi_and1, zi_and7, zi_and15, zi_and31, zi_and255, Int.reduceAdd, Int.reduceMul, Int.reduceSub]) ?_
          have k180 := sq25.2.1
          have k180b := sq25.2.2.1
          have hl181 : hq25.2.2.2.1 co = h.2.2.2.1 co := congrFun sq25.2.2.2.2.1 co
          have hl182 : hq25.2.2.2.1 dm = h.2.2.2.1 dm := congrFun sq25.2.2.2.2.1 dm
          have k183 := sq25.2.1
          have k183b := sq25.2.2.1
          have hl184 : hq25.2.2.2.1 co = h.2.2.2.1 co := congrFun sq25.2.2.2.2.1 co
          have hl185 : hq25.2.2.2.1 dm = h.2.2.2.1 dm := congrFun sq25.2.2.2.2.1 dm
          have hpc186 : gPC ty pic b0 b1 b2 (hq25.2.2.2.1 dm : Int) hq25 := gPC.zero sq25.1 tpic s28 tbn s29 tb0 s30 tb1 s31 tb2 s32 tco s33 tdm (by rw [(by omega : (0 : Int) = cn)]; exact s35) bl s36 (by omega) w s37 (by omega) (by omega) (by omega) (by omega) (by omega)
          have G187 : gSg [112, 113] [] [54002, 54003, 54004, 54005, 54006, 54007, 54008, 54010, 54011, 54012, 54013, 82000, 82001, 82002, 82003, 82004, 82005, 82006, 82007, 82008, 83000, 83001, 83002, 83003, 83004, 83005, 83006, 83007, 83008, 84000, 84001, 84002, 84003, 84004, 84005, 84006, 84007, 84008, 112999, 113999] ty h ty hq25 := gSg.ss G0 sq25 (by decide)
          exact gz_end (I := .ireturn) (len := 1) rfl (Or.inl rfl) ⟨ty, G187, a + 2, cn, (hq25.2.2.2.1 dm : Int), rfl, (by omega), (by omega), s35, (by omega), (by omega), (by omega), (by omega), (by dsimp only; omega), (by dsimp only; omega), (by omega), hpc186⟩
      · refine gy_ifF rfl (by decide) (by decide) (by omega) hc24 ?_
        refine gy_s 6 (pc' := 51) (L' := [some (.ref x), some (.int (zi m)), some (.int (zi a)), some (.int (zi n)), some (.int (zi zq1)), some (.int (zi jn14v0)), none, none, none, none]) (S' := [.int ((zi 8) + ((zi 3) * (zi zq1))), .int (zi n)]) (L2 := [some (.ref x), some (.int (zi m)), some (.int (zi a)), some (.int (zi n)), some (.int (zi zq1)), some (.int (zi jn14v0)), none, none, none, none]) (S2 := [.int (zi (8 + (3 * zq1))), .int (zi n)]) rfl (by simp only [zi_add, zi_sub, zi_mul, zi_neg, zi_and1, zi_and7, zi_and15, zi_and31, zi_and255, Int.reduceAdd, Int.reduceMul, Int.reduceSub]) (by simp only [zi_add, zi_sub, zi_mul, zi_neg, zi_and1, zi_and7, zi_and15, zi_and31, zi_and255, Int.reduceAdd, Int.reduceMul, Int.reduceSub]) ?_
        by_cases hc188 : (n : Int) = 8 + (3 * zq1)
        · refine gy_icT (pc' := 56) rfl (by decide) (by decide) (by omega) (by omega) hc188 ?_
          refine gz_s 1 (pc' := 57) (L' := [some (.ref x), some (.int (zi m)), some (.int (zi a)), some (.int (zi n)), some (.int (zi zq1)), some (.int (zi jn14v0)), none, none, none, none]) (S' := [.ref x]) rfl ?_
          refine gs_gtk rfl (by decide) rfl sq1.1 tx rfl rfl s2 ?_
          refine gy_s 3 (pc' := 63) (L' := [some (.ref x), some (.int (zi m)), some (.int (zi a)), some (.int (zi n)), some (.int (zi zq1)), some (.int (zi jn14v0)), none, none, none, none]) (S' := [.int ((zi a) + (zi 2)), .ref src]) (L2 := [some (.ref x), some (.int (zi m)), some (.int (zi a)), some (.int (zi n)), some (.int (zi zq1)), some (.int (zi jn14v0)), none, none, none, none]) (S2 := [.int (zi (a + 2)), .ref src]) rfl (by simp only [zi_add, zi_sub, zi_mul, zi_neg, zi_and1, zi_and7, zi_and15, zi_and31, zi_and255, Int.reduceAdd, Int.reduceMul, Int.reduceSub]) (by simp only [zi_add, zi_sub, zi_mul, zi_neg, zi_and1, zi_and7, zi_and15, zi_and31, zi_and255, Int.reduceAdd, Int.reduceMul, Int.reduceSub]) ?_
          refine gz_call rfl (by decide) rfl (by decide) (by decide) (gcal_of rfl rfl rfl (Nat.le_of_ble_eq_true rfl) (gJ.recv (G := gGG) sq1.1 tsrc rfl rfl)) (cl_Collected_byteAt _ sq1.1 src tsrc (a + 2) (by omega) sz s10 (by omega) uq) (fun q189 _ wq189 => ?_)
          obtain ⟨pq189, oq189, hq189⟩ := q189
          obtain ⟨xq189, zq189, gq189, aq189, bq189, uq189_0⟩ := wq189
          refine ⟨_, gq189, ?_⟩
          show gz gPP gGG gcn _ _ 66 [some (.ref x), some (.int (zi m)), some (.int (zi a)), some (.int (zi n)), some (.int (zi zq1)), some (.int (zi jn14v0)), none, none, none, none] [.int (zi zq189)] hq189 _
          have sq189 : gSs rT 1027 ty [54002, 54003, 54004, 54005, 54006, 54007, 54008, 54010, 54011, 54012, 54013, 82000, 82001, 82002, 82003, 82004, 82005, 82006, 82007, 82008, 83000, 83001, 83002, 83003, 83004, 83005, 83006, 83007, 83008, 84000, 84001, 84002, 84003, 84004, 84005, 84006, 84007, 84008, 112999, 113999] h hq189 := gSs.tr sq1 xq189 (by decide)
          have s190 := (xq189.2.2.2.2.2 x 0 (by rw [tx]; decide)).trans s2
          have s191 := (xq189.2.2.2.2.2 x 1 (by rw [tx]; decide)).trans s3
          have s192 := (xq189.2.2.2.2.2 pic 0 (by rw [tpic]; decide)).trans s4
          have s193 := (xq189.2.2.2.2.2 bn 0 (by rw [tbn]; decide)).trans s5
          have s194 := (xq189.2.2.2.2.2 bn 1 (by rw [tbn]; decide)).trans s6
          have s195 := (xq189.2.2.2.2.2 bn 2 (by rw [tbn]; decide)).trans s7
          have s196 := (xq189.2.2.2.2.2 pic 2 (by rw [tpic]; decide)).trans s8
          have s197 := (xq189.2.2.2.2.2 pic 3 (by rw [tpic]; decide)).trans s9
          have s198 := (xq189.2.2.2.2.2 src 1 (by rw [tsrc]; decide)).trans s10
          have s199 := (xq189.2.2.2.2.2 pic 7 (by rw [tpic]; decide)).trans s11
          have s200 := (xq189.2.2.2.2.2 pic 8 (by rw [tpic]; decide)).trans s12
          have s201 := (xq189.2.2.2.2.2 pic 5 (by rw [tpic]; decide)).trans s13
          refine gz_s 1 (pc' := 68) (L' := [some (.ref x), some (.int (zi m)), some (.int (zi a)), some (.int (zi n)), some (.int (zi zq1)), some (.int (zi jn14v0)), none, none, none, none]) (S' := [.int (zi 8), .int (zi zq189)]) rfl ?_
          by_cases hc202 : (zq189 : Int) = 8
          · refine gy_icT (pc' := 75) rfl (by decide) (by decide) (by omega) (by omega) hc202 ?_
            refine gz_s 1 (pc' := 76) (L' := [some (.ref x), some (.int (zi m)), some (.int (zi a)), some (.int (zi n)), some (.int (zi zq1)), some (.int (zi jn14v0)), none, none, none, none]) (S' := [.ref x]) rfl ?_
            refine gs_gtk rfl (by decide) rfl sq189.1 tx rfl rfl s190 ?_
            refine gy_s 3 (pc' := 82) (L' := [some (.ref x), some (.int (zi m)), some (.int (zi a)), some (.int (zi n)), some (.int (zi zq1)), some (.int (zi jn14v0)), none, none, none, none]) (S' := [.int ((zi a) + (zi 3)), .ref src]) (L2 := [some (.ref x), some (.int (zi m)), some (.int (zi a)), some (.int (zi n)), some (.int (zi zq1)), some (.int (zi jn14v0)), none, none, none, none]) (S2 := [.int (zi (a + 3)), .ref src]) rfl (by simp only [zi_add, zi_sub, zi_mul, zi_neg, zi_and1, zi_and7, zi_and15, zi_and31, zi_and255, Int.reduceAdd, Int.reduceMul, Int.reduceSub]) (by simp only [zi_add, zi_sub, zi_mul, zi_neg, zi_and1, zi_and7, zi_and15, zi_and31, zi_and255, Int.reduceAdd, Int.reduceMul, Int.reduceSub]) ?_
            refine gz_call rfl (by decide) rfl (by decide) (by decide) (gcal_of rfl rfl rfl (Nat.le_of_ble_eq_true rfl) (gJ.recv (G := gGG) sq189.1 tsrc rfl rfl)) (cl_Collected_twoAt _ sq189.1 src tsrc (a + 3) (by omega) sz s198 (by omega) uq) (fun q203 _ wq203 => ?_)
            obtain ⟨pq203, oq203, hq203⟩ := q203
            obtain ⟨xq203, zq203, gq203, aq203, bq203, uq203_0⟩ := wq203
            refine ⟨_, gq203, ?_⟩
            show gz gPP gGG gcn _ _ 85 [some (.ref x), some (.int (zi m)), some (.int (zi a)), some (.int (zi n)), some (.int (zi zq1)), some (.int (zi jn14v0)), none, none, none, none] [.int (zi zq203)] hq203 _
            have sq203 : gSs rT 1027 ty [54002, 54003, 54004, 54005, 54006, 54007, 54008, 54010, 54011, 54012, 54013, 82000, 82001, 82002, 82003, 82004, 82005, 82006, 82007, 82008, 83000, 83001, 83002, 83003, 83004, 83005, 83006, 83007, 83008, 84000, 84001, 84002, 84003, 84004, 84005, 84006, 84007, 84008, 112999, 113999] h hq203 := gSs.tr sq189 xq203 (by decide)
            have s204 := (xq203.2.2.2.2.2 x 0 (by rw [tx]; decide)).trans s190
            have s205 := (xq203.2.2.2.2.2 x 1 (by rw [tx]; decide)).trans s191
            have s206 := (xq203.2.2.2.2.2 pic 0 (by rw [tpic]; decide)).trans s192
            have s207 := (xq203.2.2.2.2.2 bn 0 (by rw [tbn]; decide)).trans s193
            have s208 := (xq203.2.2.2.2.2 bn 1 (by rw [tbn]; decide)).trans s194
            have s209 := (xq203.2.2.2.2.2 bn 2 (by rw [tbn]; decide)).trans s195
            have s210 := (xq203.2.2.2.2.2 pic 2 (by rw [tpic]; decide)).trans s196
            have s211 := (xq203.2.2.2.2.2 pic 3 (by rw [tpic]; decide)).trans s197
            have s212 := (xq203.2.2.2.2.2 src 1 (by rw [tsrc]; decide)).trans s198
            have s213 := (xq203.2.2.2.2.2 pic 7 (by rw [tpic]; decide)).trans s199
            have s214 := (xq203.2.2.2.2.2 pic 8 (by rw [tpic]; decide)).trans s200
            have s215 := (xq203.2.2.2.2.2 pic 5 (by rw [tpic]; decide)).trans s201
            refine gz_s 2 (pc' := 89) (L' := [some (.ref x), some (.int (zi m)), some (.int (zi a)), some (.int (zi n)), some (.int (zi zq1)), some (.int (zi jn14v0)), some (.int (zi zq203)), none, none, none]) (S' := [.int (zi zq203)]) rfl ?_
            by_cases hc216 : ¬ (zq203 : Int) = 0
            · refine gy_ifT (pc' := 101) rfl (by decide) (by decide) (by omega) hc216 ?_
              refine gz_s 2 (pc' := 104) (L' := [some (.ref x), some (.int (zi m)), some (.int (zi a)), some (.int (zi n)), some (.int (zi zq1)), some (.int (zi jn14v0)), some (.int (zi zq203)), none, none, none]) (S' := [.int (zi 1), .int (zi zq203)]) rfl ?_
              by_cases hc217 : (zq203 : Int) < 1
              · refine gy_icT (pc' := 114) rfl (by decide) (by decide) (by omega) (by omega) hc217 ?_
                refine gy_s 3 (pc' := 117) (L' := [some (.ref x), some (.int (zi m)), some (.int (zi a)), some (.int (zi n)), some (.int (zi zq1)), some (.int (zi jn14v0)), some (.int (zi zq203)), none, none, none]) (S' := [.int ((zi a) + (zi 3))]) (L2 := [some (.ref x), some (.int (zi m)), some (.int (zi a)), some (.int (zi n)), some (.int (zi zq1)), some (.int (zi jn14v0)), some (.int (zi zq203)), none, none, none]) (S2 := [.int (zi (a + 3))]) rfl (by simp only [zi_add, zi_sub, zi_mul, zi_neg, zi_and1, zi_and7, zi_and15, zi_and31, zi_and255, Int.reduceAdd, Int.reduceMul, Int.reduceSub]) (by simp only [zi_add, zi_sub, zi_mul, zi_neg, zi_and1, zi_and7, zi_and15, zi_and31, zi_and255, Int.reduceAdd, Int.reduceMul, Int.reduceSub]) ?_
                have k218 := sq203.2.1
                have k218b := sq203.2.2.1
                have hl219 : hq203.2.2.2.1 co = h.2.2.2.1 co := congrFun sq203.2.2.2.2.1 co
                have hl220 : hq203.2.2.2.1 dm = h.2.2.2.1 dm := congrFun sq203.2.2.2.2.1 dm
                have k221 := sq203.2.1
                have k221b := sq203.2.2.1
                have hl222 : hq203.2.2.2.1 co = h.2.2.2.1 co := congrFun sq203.2.2.2.2.1 co
                have hl223 : hq203.2.2.2.1 dm = h.2.2.2.1 dm := congrFun sq203.2.2.2.2.1 dm
                have hpc224 : gPC ty pic b0 b1 b2 (hq203.2.2.2.1 dm : Int) hq203 := gPC.zero sq203.1 tpic s206 tbn s207 tb0 s208 tb1 s209 tb2 s210 tco s211 tdm (by rw [(by omega : (0 : Int) = cn)]; exact s213) bl s214 (by omega) w s215 (by omega) (by omega) (by omega) (by omega) (by omega)
                have G225 : gSg [112, 113] [] [54002, 54003, 54004, 54005, 54006, 54007, 54008, 54010, 54011, 54012, 54013, 82000, 82001, 82002, 82003, 82004, 82005, 82006, 82007, 82008, 83000, 83001, 83002, 83003, 83004, 83005, 83006, 83007, 83008, 84000, 84001, 84002, 84003, 84004, 84005, 84006, 84007, 84008, 112999, 113999] ty h ty hq203 := gSg.ss G0 sq203 (by decide)
                exact gz_end (I := .ireturn) (len := 1) rfl (Or.inl rfl) ⟨ty, G225, a + 3, cn, (hq203.2.2.2.1 dm : Int), rfl, (by omega), (by omega), s213, (by omega), (by omega), (by omega), (by omega), (by dsimp only; omega), (by dsimp only; omega), (by omega), hpc224⟩
              · refine gy_icF rfl (by decide) (by decide) (by omega) (by omega) hc217 ?_
                refine gz_s 2 (pc' := 111) (L' := [some (.ref x), some (.int (zi m)), some (.int (zi a)), some (.int (zi n)), some (.int (zi zq1)), some (.int (zi jn14v0)), some (.int (zi zq203)), none, none, none]) (S' := [.int (zi 64), .int (zi zq203)]) rfl ?_
                by_cases hc226 : (zq203 : Int) ≤ 64
                · refine gy_icT (pc' := 118) rfl (by decide) (by decide) (by omega) (by omega) hc226 ?_
                  refine gz_s 1 (pc' := 119) (L' := [some (.ref x), some (.int (zi m)), some (.int (zi a)), some (.int (zi n)), some (.int (zi zq1)), some (.int (zi jn14v0)), some (.int (zi zq203)), none, none, none]) (S' := [.ref x]) rfl ?_
                  refine gs_gtk rfl (by decide) rfl sq203.1 tx rfl rfl s204 ?_
                  refine gy_s 3 (pc' := 125) (L' := [some (.ref x), some (.int (zi m)), some (.int (zi a)), some (.int (zi n)), some (.int (zi zq1)), some (.int (zi jn14v0)), some (.int (zi zq203)), none, none, none]) (S' := [.int ((zi a) + (zi 5)), .ref src]) (L2 := [some (.ref x), some (.int (zi m)), some (.int (zi a)), some (.int (zi n)), some (.int (zi zq1)), some (.int (zi jn14v0)), some (.int (zi zq203)), none, none, none]) (S2 := [.int (zi (a + 5)), .ref src]) rfl (by simp only [zi_add, zi_sub, zi_mul, zi_neg, zi_and1, zi_and7, zi_and15, zi_and31, zi_and255, Int.reduceAdd, Int.reduceMul, Int.reduceSub]) (by simp only [zi_add, zi_sub, zi_mul, zi_neg, zi_and1, zi_and7, zi_and15, zi_and31, zi_and255, Int.reduceAdd, Int.reduceMul, Int.reduceSub]) ?_
                  refine gz_call rfl (by decide) rfl (by decide) (by decide) (gcal_of rfl rfl rfl (Nat.le_of_ble_eq_true rfl) (gJ.recv (G := gGG) sq203.1 tsrc rfl rfl)) (cl_Collected_twoAt _ sq203.1 src tsrc (a + 5) (by omega) sz s212 (by omega) uq) (fun q227 _ wq227 => ?_)
                  obtain ⟨pq227, oq227, hq227⟩ := q227
                  obtain ⟨xq227, zq227, gq227, aq227, bq227, uq227_0⟩ := wq227
                  refine ⟨_, gq227, ?_⟩
                  show gz gPP gGG gcn _ _ 128 [some (.ref x), some (.int (zi m)), some (.int (zi a)), some (.int (zi n)), some (.int (zi zq1)), some (.int (zi jn14v0)), some (.int (zi zq203)), none, none, none] [.int (zi zq227)] hq227 _
                  have sq227 : gSs rT 1027 ty [54002, 54003, 54004, 54005, 54006, 54007, 54008, 54010, 54011, 54012, 54013, 82000, 82001, 82002, 82003, 82004, 82005, 82006, 82007, 82008, 83000, 83001, 83002, 83003, 83004, 83005, 83006, 83007, 83008, 84000, 84001, 84002, 84003, 84004, 84005, 84006, 84007, 84008, 112999, 113999] h hq227 := gSs.tr sq203 xq227 (by decide)
                  have s228 := (xq227.2.2.2.2.2 x 0 (by rw [tx]; decide)).trans s204
                  have s229 := (xq227.2.2.2.2.2 x 1 (by rw [tx]; decide)).trans s205
                  have s230 := (xq227.2.2.2.2.2 pic 0 (by rw [tpic]; decide)).trans s206
                  have s231 := (xq227.2.2.2.2.2 bn 0 (by rw [tbn]; decide)).trans s207
                  have s232 := (xq227.2.2.2.2.2 bn 1 (by rw [tbn]; decide)).trans s208
                  have s233 := (xq227.2.2.2.2.2 bn 2 (by rw [tbn]; decide)).trans s209
                  have s234 := (xq227.2.2.2.2.2 pic 2 (by rw [tpic]; decide)).trans s210
                  have s235 := (xq227.2.2.2.2.2 pic 3 (by rw [tpic]; decide)).trans s211
                  have s236 := (xq227.2.2.2.2.2 src 1 (by rw [tsrc]; decide)).trans s212
                  have s237 := (xq227.2.2.2.2.2 pic 7 (by rw [tpic]; decide)).trans s213
                  have s238 := (xq227.2.2.2.2.2 pic 8 (by rw [tpic]; decide)).trans s214
                  have s239 := (xq227.2.2.2.2.2 pic 5 (by rw [tpic]; decide)).trans s215
                  refine gz_s 3 (pc' := 133) (L' := [some (.ref x), some (.int (zi m)), some (.int (zi a)), some (.int (zi n)), some (.int (zi zq1)), some (.int (zi jn14v0)), some (.int (zi zq203)), some (.int (zi zq227)), none, none]) (S' := [.int (zi 1), .int (zi zq227)]) rfl ?_
                  by_cases hc240 : (zq227 : Int) < 1
                  · refine gy_icT (pc' := 143) rfl (by decide) (by decide) (by omega) (by omega) hc240 ?_
                    refine gy_s 3 (pc' := 146) (L' := [some (.ref x), some (.int (zi m)), some (.int (zi a)), some (.int (zi n)), some (.int (zi zq1)), some (.int (zi jn14v0)), some (.int (zi zq203)), some (.int (zi zq227)), none, none]) (S' := [.int ((zi a) + (zi 5))]) (L2 := [some (.ref x), some (.int (zi m)), some (.int (zi a)), some (.int (zi n)), some (.int (zi zq1)), some (.int (zi jn14v0)), some (.int (zi zq203)), some (.int (zi zq227)), none, none]) (S2 := [.int (zi (a + 5))]) rfl (by simp only [zi_add, zi_sub, zi_mul, zi_neg, zi_and1, zi_and7, zi_and15, zi_and31, zi_and255, Int.reduceAdd, Int.reduceMul, Int.reduceSub]) (by simp only [zi_add, zi_sub, zi_mul, zi_neg, zi_and1, zi_and7, zi_and15, zi_and31, zi_and255, Int.reduceAdd, Int.reduceMul, Int.reduceSub]) ?_
                    have k241 := sq227.2.1
                    have k241b := sq227.2.2.1
                    have hl242 : hq227.2.2.2.1 co = h.2.2.2.1 co := congrFun sq227.2.2.2.2.1 co
                    have hl243 : hq227.2.2.2.1 dm = h.2.2.2.1 dm := congrFun sq227.2.2.2.2.1 dm
                    have k244 := sq227.2.1
                    have k244b := sq227.2.2.1
                    have hl245 : hq227.2.2.2.1 co = h.2.2.2.1 co := congrFun sq227.2.2.2.2.1 co
                    have hl246 : hq227.2.2.2.1 dm = h.2.2.2.1 dm := congrFun sq227.2.2.2.2.1 dm
                    have hpc247 : gPC ty pic b0 b1 b2 (hq227.2.2.2.1 dm : Int) hq227 := gPC.zero sq227.1 tpic s230 tbn s231 tb0 s232 tb1 s233 tb2 s234 tco s235 tdm (by rw [(by omega : (0 : Int) = cn)]; exact s237) bl s238 (by omega) w s239 (by omega) (by omega) (by omega) (by omega) (by omega)
                    have G248 : gSg [112, 113] [] [54002, 54003, 54004, 54005, 54006, 54007, 54008, 54010, 54011, 54012, 54013, 82000, 82001, 82002, 82003, 82004, 82005, 82006, 82007, 82008, 83000, 83001, 83002, 83003, 83004, 83005, 83006, 83007, 83008, 84000, 84001, 84002, 84003, 84004, 84005, 84006, 84007, 84008, 112999, 113999] ty h ty hq227 := gSg.ss G0 sq227 (by decide)
                    exact gz_end (I := .ireturn) (len := 1) rfl (Or.inl rfl) ⟨ty, G248, a + 5, cn, (hq227.2.2.2.1 dm : Int), rfl, (by omega), (by omega), s237, (by omega), (by omega), (by omega), (by omega), (by dsimp only; omega), (by dsimp only; omega), (by omega), hpc247⟩
                  · refine gy_icF rfl (by decide) (by decide) (by omega) (by omega) hc240 ?_
                    refine gz_s 2 (pc' := 140) (L' := [some (.ref x), some (.int (zi m)), some (.int (zi a)), some (.int (zi n)), some (.int (zi zq1)), some (.int (zi jn14v0)), some (.int (zi zq203)), some (.int (zi zq227)), none, none]) (S' := [.int (zi 64), .int (zi zq227)]) rfl ?_
                    by_cases hc249 : (zq227 : Int) ≤ 64
                    · refine gy_icT (pc' := 147) rfl (by decide) (by decide) (by omega) (by omega) hc249 ?_
                      refine gz_s 1 (pc' := 149) (L' := [some (.ref x), some (.int (zi m)), some (.int (zi a)), some (.int (zi n)), some (.int (zi zq1)), some (.int (zi jn14v0)), some (.int (zi zq203)), some (.int (zi zq227)), none, none]) (S' := [.int (zi jn14v0)]) rfl ?_
                      refine gy_ifT (pc' := 157) rfl (by decide) (by decide) (by omega) (by first | (simp [zc]; done) | (simp only [zc]; omega)) ?_
                      refine gz_s 4 (pc' := 164) (L' := [some (.ref x), some (.int (zi m)), some (.int (zi a)), some (.int (zi n)), some (.int (zi zq1)), some (.int (zi jn14v0)), some (.int (zi zq203)), some (.int (zi zq227)), some (.int (zi 0)), none]) (S' := [.int (zi zq1), .int (zi 0)]) rfl ?_
                      refine gy_icF rfl (by decide) (by decide) (by omega) (by omega) (by first | (simp [zc]; done) | (simp only [zc]; omega)) ?_
                      refine gy_s 9 (pc' := 179) (L' := [some (.ref x), some (.int (zi m)), some (.int (zi a)), some (.int (zi n)), some (.int (zi zq1)), some (.int (zi jn14v0)), some (.int (zi zq203)), some (.int (zi zq227)), some (.int (zi 0)), none]) (S' := [.int (((zi a) + (zi 8)) + ((zi 3) * (zi 0))), .int (zi 0), .ref x]) (L2 := [some (.ref x), some (.int (zi m)), some (.int (zi a)), some (.int (zi n)), some (.int (zi zq1)), some (.int (zi jn14v0)), some (.int (zi zq203)), some (.int (zi zq227)), some (.int (zi 0)), none]) (S2 := [.int (zi ((a + 8) + 0)), .int (zi 0), .ref x]) rfl (by simp only [zi_add, zi_sub, zi_mul, zi_neg, zi_and1, zi_and7, zi_and15, zi_and31, zi_and255, Int.reduceAdd, Int.reduceMul, Int.reduceSub]) (by simp only [zi_add, zi_sub, zi_mul, zi_neg, zi_and1, zi_and7, zi_and15, zi_and31, zi_and255, Int.reduceAdd, Int.reduceMul, Int.reduceSub]) ?_
                      refine gz_call rfl (by decide) rfl (by decide) (by decide) (gcal_of rfl rfl rfl (Nat.le_of_ble_eq_true rfl) (gJ.recv (G := gGG) sq227.1 tx rfl rfl)) (cl_readBand0 _ sq227.1 x tx 0 (by omega) ((a + 8) + 0) (by omega) src s228 tsrc pic s229 tpic bn s230 tbn b0 s231 tb0 sz s236 (by omega) uq) (fun q250 _ wq250 => ?_)
                      obtain ⟨pq250, oq250, hq250⟩ := q250
                      obtain ⟨xq250, zq250, fq250_0, fq250_1, fq250_2, gq250, aq250, bq250, efq250_0, afq250_0, bfq250_0, efq250_1, afq250_1, bfq250_1, efq250_2, afq250_2, bfq250_2, uq250_0⟩ := wq250
                      refine ⟨_, gq250, ?_⟩
                      show gz gPP gGG gcn _ _ 182 [some (.ref x), some (.int (zi m)), some (.int (zi a)), some (.int (zi n)), some (.int (zi zq1)), some (.int (zi jn14v0)), some (.int (zi zq203)), some (.int (zi zq227)), some (.int (zi 0)), none] [.int (zi zq250)] hq250 _
                      have sq250 : gSs rT 1027 ty [54002, 54003, 54004, 54005, 54006, 54007, 54008, 54010, 54011, 54012, 54013, 82000, 82001, 82002, 82003, 82004, 82005, 82006, 82007, 82008, 83000, 83001, 83002, 83003, 83004, 83005, 83006, 83007, 83008, 84000, 84001, 84002, 84003, 84004, 84005, 84006, 84007, 84008, 112999, 113999] h hq250 := gSs.tr sq227 xq250 (by decide)
                      have s251 := (xq250.2.2.2.2.2 x 0 (by rw [tx]; decide)).trans s228
                      have s252 := (xq250.2.2.2.2.2 x 1 (by rw [tx]; decide)).trans s229
                      have s253 := (xq250.2.2.2.2.2 pic 0 (by rw [tpic]; decide)).trans s230
                      have s254 := (xq250.2.2.2.2.2 bn 0 (by rw [tbn]; decide)).trans s231
                      have s255 := (xq250.2.2.2.2.2 bn 1 (by rw [tbn]; decide)).trans s232
                      have s256 := (xq250.2.2.2.2.2 bn 2 (by rw [tbn]; decide)).trans s233
                      have s257 := (xq250.2.2.2.2.2 pic 2 (by rw [tpic]; decide)).trans s234
                      have s258 := (xq250.2.2.2.2.2 pic 3 (by rw [tpic]; decide)).trans s235
                      have s259 := (xq250.2.2.2.2.2 src 1 (by rw [tsrc]; decide)).trans s236
                      have s260 := (xq250.2.2.2.2.2 pic 7 (by rw [tpic]; decide)).trans s237
                      have s261 := (xq250.2.2.2.2.2 pic 8 (by rw [tpic]; decide)).trans s238
                      have s262 := (xq250.2.2.2.2.2 pic 5 (by rw [tpic]; decide)).trans s239
                      refine gz_s 3 (pc' := 187) (L' := [some (.ref x), some (.int (zi m)), some (.int (zi a)), some (.int (zi n)), some (.int (zi zq1)), some (.int (zi jn14v0)), some (.int (zi zq203)), some (.int (zi zq227)), some (.int (zi 0)), some (.int (zi zq250))]) (S' := [.int (zi (-1)), .int (zi zq250)]) rfl ?_
                      by_cases hc263 : (zq250 : Int) = (-1)
                      · refine gy_icT (pc' := 193) rfl (by decide) (by decide) (by omega) (by omega) hc263 ?_
                        refine gy_s 4 (pc' := 164) (L' := [some (.ref x), some (.int (zi m)), some (.int (zi a)), some (.int (zi n)), some (.int (zi zq1)), some (.int (zi jn14v0)), some (.int (zi zq203)), some (.int (zi zq227)), some (.int ((zi 0) + zi 1)), some (.int (zi zq250))]) (S' := [.int (zi zq1), .int ((zi 0) + zi 1)]) (L2 := [some (.ref x), some (.int (zi m)), some (.int (zi a)), some (.int (zi n)), some (.int (zi zq1)), some (.int (zi jn14v0)), some (.int (zi zq203)), some (.int (zi zq227)), some (.int (zi 1)), some (.int (zi zq250))]) (S2 := [.int (zi zq1), .int (zi 1)]) rfl (by simp only [zi_add, zi_sub, zi_mul, zi_neg, zi_and1, zi_and7, zi_and15, zi_and31, zi_and255, Int.reduceAdd, Int.reduceMul, Int.reduceSub]) (by simp only [zi_add, zi_sub, zi_mul, zi_neg, zi_and1, zi_and7, zi_and15, zi_and31, zi_and255, Int.reduceAdd, Int.reduceMul, Int.reduceSub]) ?_
                        by_cases hc264 : (zq1 : Int) ≤ 1
                        · refine gy_icT (pc' := 199) rfl (by decide) (by decide) (by omega) (by omega) hc264 ?_
                          refine gz_s 1 (pc' := 200) (L' := [some (.ref x), some (.int (zi m)), some (.int (zi a)), some (.int (zi n)), some (.int (zi zq1)), some (.int (zi jn14v0)), some (.int (zi zq203)), some (.int (zi zq227)), some (.int (zi 1)), some (.int (zi zq250))]) (S' := [.ref x]) rfl ?_
                          refine gs_gtk rfl (by decide) rfl sq250.1 tx rfl rfl s252 ?_
                          refine gz_s 2 (pc' := 207) (L' := [some (.ref x), some (.int (zi m)), some (.int (zi a)), some (.int (zi n)), some (.int (zi zq1)), some (.int (zi jn14v0)), some (.int (zi zq203)), some (.int (zi zq227)), some (.int (zi 1)), some (.int (zi zq250))]) (S' := [.int (zi 194), .int (zi m), .ref pic]) rfl ?_
                          by_cases hc265 : ¬ (m : Int) = 194
                          · refine gy_icT (pc' := 214) rfl (by decide) (by decide) (by omega) (by omega) hc265 ?_
                            refine gz_s 1 (pc' := 215) (L' := [some (.ref x), some (.int (zi m)), some (.int (zi a)), some (.int (zi n)), some (.int (zi zq1)), some (.int (zi jn14v0)), some (.int (zi zq203)), some (.int (zi zq227)), some (.int (zi 1)), some (.int (zi zq250))]) (S' := [.int (zi 0), .ref pic]) rfl ?_
                            refine gs_put rfl (by decide) rfl sq250 tpic rfl rfl rfl rfl (Or.inl rfl) (by decide) (by omega) (by omega) (fun h266 sh266 eh266 fh266 => ?_)
                            have s267 := (fh266 x 0 (fun q => absurd q.2 (by decide))).trans s251
                            have s268 := (fh266 x 1 (fun q => absurd q.2 (by decide))).trans s252
                            have s269 := (fh266 pic 0 (fun q => absurd q.2 (by decide))).trans s253
                            have s270 := (fh266 bn 0 (fun q => absurd (((tbn).symm.trans (congrArg ty q.1)).trans tpic) (by decide))).trans s254
                            have s271 := (fh266 bn 1 (fun q => absurd (((tbn).symm.trans (congrArg ty q.1)).trans tpic) (by decide))).trans s255
                            have s272 := (fh266 bn 2 (fun q => absurd (((tbn).symm.trans (congrArg ty q.1)).trans tpic) (by decide))).trans s256
                            have s273 := (fh266 pic 2 (fun q => absurd q.2 (by decide))).trans s257
                            have s274 := (fh266 pic 3 (fun q => absurd q.2 (by decide))).trans s258
                            have s275 := (fh266 src 1 (fun q => absurd q.2 (by decide))).trans s259
                            have s276 := (fh266 pic 7 (fun q => absurd q.2 (by decide))).trans s260
                            have s277 := (fh266 pic 8 (fun q => absurd q.2 (by decide))).trans s261
                            have s278 := (fh266 pic 5 (fun q => absurd q.2 (by decide))).trans s262
                            have s279 := (fh266 b0 1 (fun q => absurd q.2 (by decide))).trans efq250_0
                            have s280 := (fh266 b0 2 (fun q => absurd q.2 (by decide))).trans efq250_1
                            have s281 := (fh266 b0 3 (fun q => absurd q.2 (by decide))).trans efq250_2
                            refine gz_s 1 (pc' := 219) (L' := [some (.ref x), some (.int (zi m)), some (.int (zi a)), some (.int (zi n)), some (.int (zi zq1)), some (.int (zi jn14v0)), some (.int (zi zq203)), some (.int (zi zq227)), some (.int (zi 1)), some (.int (zi zq250))]) (S' := [.ref x]) rfl ?_
                            refine gs_gtk rfl (by decide) rfl sh266.1 tx rfl rfl s268 ?_
                            refine gz_s 3 (pc' := 228) (L' := [some (.ref x), some (.int (zi m)), some (.int (zi a)), some (.int (zi n)), some (.int (zi zq1)), some (.int (zi jn14v0)), some (.int (zi zq203)), some (.int (zi zq227)), some (.int (zi 1)), some (.int (zi zq250))]) (S' := [.int (zi zq1), .int (zi zq203), .int (zi zq227), .ref pic]) rfl ?_
                            have k282 := sh266.2.1
                            have k282b := sh266.2.2.1
                            have hl283 : h266.2.2.2.1 co = h.2.2.2.1 co := congrFun sh266.2.2.2.2.1 co
                            have hl284 : h266.2.2.2.1 dm = h.2.2.2.1 dm := congrFun sh266.2.2.2.2.1 dm
                            have hl285 : h266.2.2.2.1 co = h.2.2.2.1 co := congrFun sh266.2.2.2.2.1 co
                            have hl286 : h266.2.2.2.1 dm = h.2.2.2.1 dm := congrFun sh266.2.2.2.2.1 dm
                            obtain ⟨z287, ez287, az287, bz287⟩ := gJ.int (k := 1) (G := gGG) sh266.1 tb1 rfl rfl rfl
                            obtain ⟨z288, ez288, az288, bz288⟩ := gJ.int (k := 2) (G := gGG) sh266.1 tb1 rfl rfl rfl
                            obtain ⟨z289, ez289, az289, bz289⟩ := gJ.int (k := 3) (G := gGG) sh266.1 tb1 rfl rfl rfl
                            obtain ⟨z290, ez290, az290, bz290⟩ := gJ.int (k := 1) (G := gGG) sh266.1 tb2 rfl rfl rfl
                            obtain ⟨z291, ez291, az291, bz291⟩ := gJ.int (k := 2) (G := gGG) sh266.1 tb2 rfl rfl rfl
                            obtain ⟨z292, ez292, az292, bz292⟩ := gJ.int (k := 3) (G := gGG) sh266.1 tb2 rfl rfl rfl
                            refine gz_call rfl (by decide) rfl (by decide) (by decide) (gcal_of rfl rfl rfl (Nat.le_of_ble_eq_true rfl) (gJ.recv (G := gGG) sh266.1 tpic rfl rfl)) (cl_Picture_begin _ sh266.1 pic tpic zq227 (by omega) zq203 (by omega) zq1 (by omega) bn s269 tbn b0 s270 tb0 b1 s271 tb1 b2 s272 tb2 co s273 tco dm s274 tdm fq250_0 s279 (by omega) fq250_1 s280 (by omega) fq250_2 s281 (by omega) z287 ez287 (by omega) z288 ez288 (by omega) z289 ez289 (by omega) z290 ez290 (by omega) z291 ez291 (by omega) z292 ez292 (by omega) (by omega) (by omega) (by omega) (by omega) (by omega) uq) (fun q293 _ wq293 => ?_)
                            obtain ⟨pq293, oq293, hq293⟩ := q293
                            obtain ⟨tyq293, xq293, fq293_0, xq293_0, gq293, efq293_0, afq293_0, bfq293_0, axq293_0, bxq293_0, uq293_0, uq293_1, uq293_2, uq293_3, yq293_0⟩ := wq293
                            dsimp only at uq293_1 uq293_2
                            refine ⟨_, gq293, ?_⟩
                            show gz gPP gGG gcn _ _ 231 [some (.ref x), some (.int (zi m)), some (.int (zi a)), some (.int (zi n)), some (.int (zi zq1)), some (.int (zi jn14v0)), some (.int (zi zq203)), some (.int (zi zq227)), some (.int (zi 1)), some (.int (zi zq250))] [] hq293 _
                            have G294 : gSg [112, 113] [] [54002, 54003, 54004, 54005, 54006, 54007, 54008, 54010, 54011, 54012, 54013, 82000, 82001, 82002, 82003, 82004, 82005, 82006, 82007, 82008, 83000, 83001, 83002, 83003, 83004, 83005, 83006, 83007, 83008, 84000, 84001, 84002, 84003, 84004, 84005, 84006, 84007, 84008, 112999, 113999] ty h tyq293 hq293 := gSg.tr (gSg.ss G0 sh266 (by decide)) xq293 (by decide) (by decide) (fun x hx => by cases hx)
                            have t295 : tyq293 x = 65 := gSg.typ xq293 sh266.1 tx rfl
                            have t296 : tyq293 src = 51 := gSg.typ xq293 sh266.1 tsrc rfl
                            have t297 : tyq293 pic = 54 := gSg.typ xq293 sh266.1 tpic rfl
                            have t298 : tyq293 bn = 57 := gSg.typ xq293 sh266.1 tbn rfl
                            have t299 : tyq293 b0 = 82 := gSg.typ xq293 sh266.1 tb0 rfl
                            have t300 : tyq293 b1 = 83 := gSg.typ xq293 sh266.1 tb1 rfl
                            have t301 : tyq293 b2 = 84 := gSg.typ xq293 sh266.1 tb2 rfl
                            have t302 : tyq293 co = 112 := gSg.typ xq293 sh266.1 tco rfl
                            have hl303 : hq293.2.2.2.1 co = h266.2.2.2.1 co := gSg.len xq293 sh266.1 tco rfl
                            have t304 : tyq293 dm = 113 := gSg.typ xq293 sh266.1 tdm rfl
                            have hl305 : hq293.2.2.2.1 dm = h266.2.2.2.1 dm := gSg.len xq293 sh266.1 tdm rfl
                            have s306 := gSg.at xq293 sh266.1 tx rfl (by decide) s267
                            have s307 := gSg.at xq293 sh266.1 tx rfl (by decide) s268
                            have s308 := gSg.at xq293 sh266.1 tpic rfl (by decide) s269
                            have s309 := gSg.at xq293 sh266.1 tbn rfl (by decide) s270
                            have s310 := gSg.at xq293 sh266.1 tbn rfl (by decide) s271
                            have s311 := gSg.at xq293 sh266.1 tbn rfl (by decide) s272
                            have s312 := gSg.at xq293 sh266.1 tsrc rfl (by decide) s275
                            have s313 := gSg.at xq293 sh266.1 tb0 rfl (by decide) s279
                            have s314 := gSg.at xq293 sh266.1 tb0 rfl (by decide) s280
                            have s315 := gSg.at xq293 sh266.1 tb0 rfl (by decide) s281
                            have s316 := gSg.at xq293 sh266.1 tpic rfl (by decide) eh266
                            have s317 := gSg.at xq293 sh266.1 tb1 rfl (by decide) ez287
                            have s318 := gSg.at xq293 sh266.1 tb1 rfl (by decide) ez288
                            have s319 := gSg.at xq293 sh266.1 tb1 rfl (by decide) ez289
                            have s320 := gSg.at xq293 sh266.1 tb2 rfl (by decide) ez290
                            have s321 := gSg.at xq293 sh266.1 tb2 rfl (by decide) ez291
                            have s322 := gSg.at xq293 sh266.1 tb2 rfl (by decide) ez292
                            have uq323 := gSg.uq xq293 uq (by decide)
                            have sS324 : gSs rT 1027 tyq293 [54002, 54003, 54004, 54005, 54006, 54007, 54008, 54010, 54011, 54012, 54013, 82000, 82001, 82002, 82003, 82004, 82005, 82006, 82007, 82008, 83000, 83001, 83002, 83003, 83004, 83005, 83006, 83007, 83008, 84000, 84001, 84002, 84003, 84004, 84005, 84006, 84007, 84008, 112999, 113999] hq293 hq293 := gSs.rf xq293.1
                            refine gz_s 1 (pc' := 232) (L' := [some (.ref x), some (.int (zi m)), some (.int (zi a)), some (.int (zi n)), some (.int (zi zq1)), some (.int (zi jn14v0)), some (.int (zi zq203)), some (.int (zi zq227)), some (.int (zi 1)), some (.int (zi zq250))]) (S' := [.int (zi (-1))]) rfl ?_
                            have G325 : gSg [112, 113] [] [54002, 54003, 54004, 54005, 54006, 54007, 54008, 54010, 54011, 54012, 54013, 82000, 82001, 82002, 82003, 82004, 82005, 82006, 82007, 82008, 83000, 83001, 83002, 83003, 83004, 83005, 83006, 83007, 83008, 84000, 84001, 84002, 84003, 84004, 84005, 84006, 84007, 84008, 112999, 113999] ty h tyq293 hq293 := gSg.ss G294 sS324 (by decide)
                            exact gz_end (I := .ireturn) (len := 1) rfl (Or.inl rfl) ⟨tyq293, G325, (-1), fq293_0, xq293_0, rfl, (by omega), (by omega), efq293_0, (by omega), (by omega), (by omega), (by omega), (by dsimp only; omega), (by dsimp only; omega), (by omega), yq293_0⟩
                          · refine gy_icF rfl (by decide) (by decide) (by omega) (by omega) hc265 ?_
                            refine gz_s 2 (pc' := 215) (L' := [some (.ref x), some (.int (zi m)), some (.int (zi a)), some (.int (zi n)), some (.int (zi zq1)), some (.int (zi jn14v0)), some (.int (zi zq203)), some (.int (zi zq227)), some (.int (zi 1)), some (.int (zi zq250))]) (S' := [.int (zi 1), .ref pic]) rfl ?_
                            refine gs_put rfl (by decide) rfl sq250 tpic rfl rfl rfl rfl (Or.inl rfl) (by decide) (by omega) (by omega) (fun h326 sh326 eh326 fh326 => ?_)
                            have s327 := (fh326 x 0 (fun q => absurd q.2 (by decide))).trans s251
                            have s328 := (fh326 x 1 (fun q => absurd q.2 (by decide))).trans s252
                            have s329 := (fh326 pic 0 (fun q => absurd q.2 (by decide))).trans s253
                            have s330 := (fh326 bn 0 (fun q => absurd (((tbn).symm.trans (congrArg ty q.1)).trans tpic) (by decide))).trans s254
                            have s331 := (fh326 bn 1 (fun q => absurd (((tbn).symm.trans (congrArg ty q.1)).trans tpic) (by decide))).trans s255
                            have s332 := (fh326 bn 2 (fun q => absurd (((tbn).symm.trans (congrArg ty q.1)).trans tpic) (by decide))).trans s256
                            have s333 := (fh326 pic 2 (fun q => absurd q.2 (by decide))).trans s257
                            have s334 := (fh326 pic 3 (fun q => absurd q.2 (by decide))).trans s258
                            have s335 := (fh326 src 1 (fun q => absurd q.2 (by decide))).trans s259
                            have s336 := (fh326 pic 7 (fun q => absurd q.2 (by decide))).trans s260
                            have s337 := (fh326 pic 8 (fun q => absurd q.2 (by decide))).trans s261
                            have s338 := (fh326 pic 5 (fun q => absurd q.2 (by decide))).trans s262
                            have s339 := (fh326 b0 1 (fun q => absurd q.2 (by decide))).trans efq250_0
                            have s340 := (fh326 b0 2 (fun q => absurd q.2 (by decide))).trans efq250_1
                            have s341 := (fh326 b0 3 (fun q => absurd q.2 (by decide))).trans efq250_2
                            refine gz_s 1 (pc' := 219) (L' := [some (.ref x), some (.int (zi m)), some (.int (zi a)), some (.int (zi n)), some (.int (zi zq1)), some (.int (zi jn14v0)), some (.int (zi zq203)), some (.int (zi zq227)), some (.int (zi 1)), some (.int (zi zq250))]) (S' := [.ref x]) rfl ?_
                            refine gs_gtk rfl (by decide) rfl sh326.1 tx rfl rfl s328 ?_
                            refine gz_s 3 (pc' := 228) (L' := [some (.ref x), some (.int (zi m)), some (.int (zi a)), some (.int (zi n)), some (.int (zi zq1)), some (.int (zi jn14v0)), some (.int (zi zq203)), some (.int (zi zq227)), some (.int (zi 1)), some (.int (zi zq250))]) (S' := [.int (zi zq1), .int (zi zq203), .int (zi zq227), .ref pic]) rfl ?_
                            have k342 := sh326.2.1
                            have k342b := sh326.2.2.1
                            have hl343 : h326.2.2.2.1 co = h.2.2.2.1 co := congrFun sh326.2.2.2.2.1 co
                            have hl344 : h326.2.2.2.1 dm = h.2.2.2.1 dm := congrFun sh326.2.2.2.2.1 dm
                            have hl345 : h326.2.2.2.1 co = h.2.2.2.1 co := congrFun sh326.2.2.2.2.1 co
                            have hl346 : h326.2.2.2.1 dm = h.2.2.2.1 dm := congrFun sh326.2.2.2.2.1 dm
                            obtain ⟨z347, ez347, az347, bz347⟩ := gJ.int (k := 1) (G := gGG) sh326.1 tb1 rfl rfl rfl
                            obtain ⟨z348, ez348, az348, bz348⟩ := gJ.int (k := 2) (G := gGG) sh326.1 tb1 rfl rfl rfl
                            obtain ⟨z349, ez349, az349, bz349⟩ := gJ.int (k := 3) (G := gGG) sh326.1 tb1 rfl rfl rfl
                            obtain ⟨z350, ez350, az350, bz350⟩ := gJ.int (k := 1) (G := gGG) sh326.1 tb2 rfl rfl rfl
                            obtain ⟨z351, ez351, az351, bz351⟩ := gJ.int (k := 2) (G := gGG) sh326.1 tb2 rfl rfl rfl
                            obtain ⟨z352, ez352, az352, bz352⟩ := gJ.int (k := 3) (G := gGG) sh326.1 tb2 rfl rfl rfl
                            refine gz_call rfl (by decide) rfl (by decide) (by decide) (gcal_of rfl rfl rfl (Nat.le_of_ble_eq_true rfl) (gJ.recv (G := gGG) sh326.1 tpic rfl rfl)) (cl_Picture_begin _ sh326.1 pic tpic zq227 (by omega) zq203 (by omega) zq1 (by omega) bn s329 tbn b0 s330 tb0 b1 s331 tb1 b2 s332 tb2 co s333 tco dm s334 tdm fq250_0 s339 (by omega) fq250_1 s340 (by omega) fq250_2 s341 (by omega) z347 ez347 (by omega) z348 ez348 (by omega) z349 ez349 (by omega) z350 ez350 (by omega) z351 ez351 (by omega) z352 ez352 (by omega) (by omega) (by omega) (by omega) (by omega) (by omega) uq) (fun q353 _ wq353 => ?_)
                            obtain ⟨pq353, oq353, hq353⟩ := q353
                            obtain ⟨tyq353, xq353, fq353_0, xq353_0, gq353, efq353_0, afq353_0, bfq353_0, axq353_0, bxq353_0, uq353_0, uq353_1, uq353_2, uq353_3, yq353_0⟩ := wq353
                            dsimp only at uq353_1 uq353_2
                            refine ⟨_, gq353, ?_⟩
                            show gz gPP gGG gcn _ _ 231 [some (.ref x), some (.int (zi m)), some (.int (zi a)), some (.int (zi n)), some (.int (zi zq1)), some (.int (zi jn14v0)), some (.int (zi zq203)), some (.int (zi zq227)), some (.int (zi 1)), some (.int (zi zq250))] [] hq353 _
                            have G354 : gSg [112, 113] [] [54002, 54003, 54004, 54005, 54006, 54007, 54008, 54010, 54011, 54012, 54013, 82000, 82001, 82002, 82003, 82004, 82005, 82006, 82007, 82008, 83000, 83001, 83002, 83003, 83004, 83005, 83006, 83007, 83008, 84000, 84001, 84002, 84003, 84004, 84005, 84006, 84007, 84008, 112999, 113999] ty h tyq353 hq353 := gSg.tr (gSg.ss G0 sh326 (by decide)) xq353 (by decide) (by decide) (fun x hx => by cases hx)
                            have t355 : tyq353 x = 65 := gSg.typ xq353 sh326.1 tx rfl
                            have t356 : tyq353 src = 51 := gSg.typ xq353 sh326.1 tsrc rfl
                            have t357 : tyq353 pic = 54 := gSg.typ xq353 sh326.1 tpic rfl
                            have t358 : tyq353 bn = 57 := gSg.typ xq353 sh326.1 tbn rfl
                            have t359 : tyq353 b0 = 82 := gSg.typ xq353 sh326.1 tb0 rfl
                            have t360 : tyq353 b1 = 83 := gSg.typ xq353 sh326.1 tb1 rfl
                            have t361 : tyq353 b2 = 84 := gSg.typ xq353 sh326.1 tb2 rfl
                            have t362 : tyq353 co = 112 := gSg.typ xq353 sh326.1 tco rfl
                            have hl363 : hq353.2.2.2.1 co = h326.2.2.2.1 co := gSg.len xq353 sh326.1 tco rfl
                            have t364 : tyq353 dm = 113 := gSg.typ xq353 sh326.1 tdm rfl
                            have hl365 : hq353.2.2.2.1 dm = h326.2.2.2.1 dm := gSg.len xq353 sh326.1 tdm rfl
                            have s366 := gSg.at xq353 sh326.1 tx rfl (by decide) s327
                            have s367 := gSg.at xq353 sh326.1 tx rfl (by decide) s328
                            have s368 := gSg.at xq353 sh326.1 tpic rfl (by decide) s329
                            have s369 := gSg.at xq353 sh326.1 tbn rfl (by decide) s330
                            have s370 := gSg.at xq353 sh326.1 tbn rfl (by decide) s331
                            have s371 := gSg.at xq353 sh326.1 tbn rfl (by decide) s332
                            have s372 := gSg.at xq353 sh326.1 tsrc rfl (by decide) s335
                            have s373 := gSg.at xq353 sh326.1 tb0 rfl (by decide) s339
                            have s374 := gSg.at xq353 sh326.1 tb0 rfl (by decide) s340
                            have s375 := gSg.at xq353 sh326.1 tb0 rfl (by decide) s341
                            have s376 := gSg.at xq353 sh326.1 tpic rfl (by decide) eh326
                            have s377 := gSg.at xq353 sh326.1 tb1 rfl (by decide) ez347
                            have s378 := gSg.at xq353 sh326.1 tb1 rfl (by decide) ez348
                            have s379 := gSg.at xq353 sh326.1 tb1 rfl (by decide) ez349
                            have s380 := gSg.at xq353 sh326.1 tb2 rfl (by decide) ez350
                            have s381 := gSg.at xq353 sh326.1 tb2 rfl (by decide) ez351
                            have s382 := gSg.at xq353 sh326.1 tb2 rfl (by decide) ez352
                            have uq383 := gSg.uq xq353 uq (by decide)
                            have sS384 : gSs rT 1027 tyq353 [54002, 54003, 54004, 54005, 54006, 54007, 54008, 54010, 54011, 54012, 54013, 82000, 82001, 82002, 82003, 82004, 82005, 82006, 82007, 82008, 83000, 83001, 83002, 83003, 83004, 83005, 83006, 83007, 83008, 84000, 84001, 84002, 84003, 84004, 84005, 84006, 84007, 84008, 112999, 113999] hq353 hq353 := gSs.rf xq353.1
                            refine gz_s 1 (pc' := 232) (L' := [some (.ref x), some (.int (zi m)), some (.int (zi a)), some (.int (zi n)), some (.int (zi zq1)), some (.int (zi jn14v0)), some (.int (zi zq203)), some (.int (zi zq227)), some (.int (zi 1)), some (.int (zi zq250))]) (S' := [.int (zi (-1))]) rfl ?_
                            have G385 : gSg [112, 113] [] [54002, 54003, 54004, 54005, 54006, 54007, 54008, 54010, 54011, 54012, 54013, 82000, 82001, 82002, 82003, 82004, 82005, 82006, 82007, 82008, 83000, 83001, 83002, 83003, 83004, 83005, 83006, 83007, 83008, 84000, 84001, 84002, 84003, 84004, 84005, 84006, 84007, 84008, 112999, 113999] ty h tyq353 hq353 := gSg.ss G354 sS384 (by decide)
                            exact gz_end (I := .ireturn) (len := 1) rfl (Or.inl rfl) ⟨tyq353, G385, (-1), fq353_0, xq353_0, rfl, (by omega), (by omega), efq353_0, (by omega), (by omega), (by omega), (by omega), (by dsimp only; omega), (by dsimp only; omega), (by omega), yq353_0⟩
                        · refine gy_icF rfl (by decide) (by decide) (by omega) (by omega) hc264 ?_
                          refine gy_s 9 (pc' := 179) (L' := [some (.ref x), some (.int (zi m)), some (.int (zi a)), some (.int (zi n)), some (.int (zi zq1)), some (.int (zi jn14v0)), some (.int (zi zq203)), some (.int (zi zq227)), some (.int (zi 1)), some (.int (zi zq250))]) (S' := [.int (((zi a) + (zi 8)) + ((zi 3) * (zi 1))), .int (zi 1), .ref x]) (L2 := [some (.ref x), some (.int (zi m)), some (.int (zi a)), some (.int (zi n)), some (.int (zi zq1)), some (.int (zi jn14v0)), some (.int (zi zq203)), some (.int (zi zq227)), some (.int (zi 1)), some (.int (zi zq250))]) (S2 := [.int (zi ((a + 8) + 3)), .int (zi 1), .ref x]) rfl (by simp only [zi_add, zi_sub, zi_mul, zi_neg, zi_and1, zi_and7, zi_and15, zi_and31, zi_and255, Int.reduceAdd, Int.reduceMul, Int.reduceSub]) (by simp only [zi_add, zi_sub, zi_mul, zi_neg, zi_and1, zi_and7, zi_and15, zi_and31, zi_and255, Int.reduceAdd, Int.reduceMul, Int.reduceSub]) ?_
                          refine gz_call rfl (by decide) rfl (by decide) (by decide) (gcal_of rfl rfl rfl (Nat.le_of_ble_eq_true rfl) (gJ.recv (G := gGG) sq250.1 tx rfl rfl)) (cl_readBand1 _ sq250.1 x tx 1 (by omega) ((a + 8) + 3) (by omega) src s251 tsrc pic s252 tpic bn s253 tbn b0 s254 tb0 b1 s255 tb1 sz s259 (by omega) uq) (fun q386 _ wq386 => ?_)
                          obtain ⟨pq386, oq386, hq386⟩ := q386
                          obtain ⟨xq386, zq386, fq386_0, fq386_1, fq386_2, gq386, aq386, bq386, efq386_0, afq386_0, bfq386_0, efq386_1, afq386_1, bfq386_1, efq386_2, afq386_2, bfq386_2, uq386_0⟩ := wq386
                          refine ⟨_, gq386, ?_⟩
                          show gz gPP gGG gcn _ _ 182 [some (.ref x), some (.int (zi m)), some (.int (zi a)), some (.int (zi n)), some (.int (zi zq1)), some (.int (zi jn14v0)), some (.int (zi zq203)), some (.int (zi zq227)), some (.int (zi 1)), some (.int (zi zq250))] [.int (zi zq386)] hq386 _
                          have sq386 : gSs rT 1027 ty [54002, 54003, 54004, 54005, 54006, 54007, 54008, 54010, 54011, 54012, 54013, 82000, 82001, 82002, 82003, 82004, 82005, 82006, 82007, 82008, 83000, 83001, 83002, 83003, 83004, 83005, 83006, 83007, 83008, 84000, 84001, 84002, 84003, 84004, 84005, 84006, 84007, 84008, 112999, 113999] h hq386 := gSs.tr sq250 xq386 (by decide)
                          have s387 := (xq386.2.2.2.2.2 x 0 (by rw [tx]; decide)).trans s251
                          have s388 := (xq386.2.2.2.2.2 x 1 (by rw [tx]; decide)).trans s252
                          have s389 := (xq386.2.2.2.2.2 pic 0 (by rw [tpic]; decide)).trans s253
                          have s390 := (xq386.2.2.2.2.2 bn 0 (by rw [tbn]; decide)).trans s254
                          have s391 := (xq386.2.2.2.2.2 bn 1 (by rw [tbn]; decide)).trans s255
                          have s392 := (xq386.2.2.2.2.2 bn 2 (by rw [tbn]; decide)).trans s256
                          have s393 := (xq386.2.2.2.2.2 pic 2 (by rw [tpic]; decide)).trans s257
                          have s394 := (xq386.2.2.2.2.2 pic 3 (by rw [tpic]; decide)).trans s258
                          have s395 := (xq386.2.2.2.2.2 src 1 (by rw [tsrc]; decide)).trans s259
                          have s396 := (xq386.2.2.2.2.2 pic 7 (by rw [tpic]; decide)).trans s260
                          have s397 := (xq386.2.2.2.2.2 pic 8 (by rw [tpic]; decide)).trans s261
                          have s398 := (xq386.2.2.2.2.2 pic 5 (by rw [tpic]; decide)).trans s262
                          have s399 := (xq386.2.2.2.2.2 b0 1 (by rw [tb0]; decide)).trans efq250_0
                          have s400 := (xq386.2.2.2.2.2 b0 2 (by rw [tb0]; decide)).trans efq250_1
                          have s401 := (xq386.2.2.2.2.2 b0 3 (by rw [tb0]; decide)).trans efq250_2
                          refine gz_s 3 (pc' := 187) (L' := [some (.ref x), some (.int (zi m)), some (.int (zi a)), some (.int (zi n)), some (.int (zi zq1)), some (.int (zi jn14v0)), some (.int (zi zq203)), some (.int (zi zq227)), some (.int (zi 1)), some (.int (zi zq386))]) (S' := [.int (zi (-1)), .int (zi zq386)]) rfl ?_
                          by_cases hc402 : (zq386 : Int) = (-1)
                          · refine gy_icT (pc' := 193) rfl (by decide) (by decide) (by omega) (by omega) hc402 ?_
                            refine gy_s 4 (pc' := 164) (L' := [some (.ref x), some (.int (zi m)), some (.int (zi a)), some (.int (zi n)), some (.int (zi zq1)), some (.int (zi jn14v0)), some (.int (zi zq203)), some (.int (zi zq227)), some (.int ((zi 1) + zi 1)), some (.int (zi zq386))]) (S' := [.int (zi zq1), .int ((zi 1) + zi 1)]) (L2 := [some (.ref x), some (.int (zi m)), some (.int (zi a)), some (.int (zi n)), some (.int (zi zq1)), some (.int (zi jn14v0)), some (.int (zi zq203)), some (.int (zi zq227)), some (.int (zi 2)), some (.int (zi zq386))]) (S2 := [.int (zi zq1), .int (zi 2)]) rfl (by simp only [zi_add, zi_sub, zi_mul, zi_neg, zi_and1, zi_and7, zi_and15, zi_and31, zi_and255, Int.reduceAdd, Int.reduceMul, Int.reduceSub]) (by simp only [zi_add, zi_sub, zi_mul, zi_neg, zi_and1, zi_and7, zi_and15, zi_and31, zi_and255, Int.reduceAdd, Int.reduceMul, Int.reduceSub]) ?_
                            by_cases hc403 : (zq1 : Int) ≤ 2
                            · refine gy_icT (pc' := 199) rfl (by decide) (by decide) (by omega) (by omega) hc403 ?_
                              refine gz_s 1 (pc' := 200) (L' := [some (.ref x), some (.int (zi m)), some (.int (zi a)), some (.int (zi n)), some (.int (zi zq1)), some (.int (zi jn14v0)), some (.int (zi zq203)), some (.int (zi zq227)), some (.int (zi 2)), some (.int (zi zq386))]) (S' := [.ref x]) rfl ?_
                              refine gs_gtk rfl (by decide) rfl sq386.1 tx rfl rfl s388 ?_
                              refine gz_s 2 (pc' := 207) (L' := [some (.ref x), some (.int (zi m)), some (.int (zi a)), some (.int (zi n)), some (.int (zi zq1)), some (.int (zi jn14v0)), some (.int (zi zq203)), some (.int (zi zq227)), some (.int (zi 2)), some (.int (zi zq386))]) (S' := [.int (zi 194), .int (zi m), .ref pic]) rfl ?_
                              by_cases hc404 : ¬ (m : Int) = 194
                              · refine gy_icT (pc' := 214) rfl (by decide) (by decide) (by omega) (by omega) hc404 ?_
                                refine gz_s 1 (pc' := 215) (L' := [some (.ref x), some (.int (zi m)), some (.int (zi a)), some (.int (zi n)), some (.int (zi zq1)), some (.int (zi jn14v0)), some (.int (zi zq203)), some (.int (zi zq227)), some (.int (zi 2)), some (.int (zi zq386))]) (S' := [.int (zi 0), .ref pic]) rfl ?_
                                refine gs_put rfl (by decide) rfl sq386 tpic rfl rfl rfl rfl (Or.inl rfl) (by decide) (by omega) (by omega) (fun h405 sh405 eh405 fh405 => ?_)
                                have s406 := (fh405 x 0 (fun q => absurd q.2 (by decide))).trans s387
                                have s407 := (fh405 x 1 (fun q => absurd q.2 (by decide))).trans s388
                                have s408 := (fh405 pic 0 (fun q => absurd q.2 (by decide))).trans s389
                                have s409 := (fh405 bn 0 (fun q => absurd (((tbn).symm.trans (congrArg ty q.1)).trans tpic) (by decide))).trans s390
                                have s410 := (fh405 bn 1 (fun q => absurd (((tbn).symm.trans (congrArg ty q.1)).trans tpic) (by decide))).trans s391
                                have s411 := (fh405 bn 2 (fun q => absurd (((tbn).symm.trans (congrArg ty q.1)).trans tpic) (by decide))).trans s392
                                have s412 := (fh405 pic 2 (fun q => absurd q.2 (by decide))).trans s393
                                have s413 := (fh405 pic 3 (fun q => absurd q.2 (by decide))).trans s394
                                have s414 := (fh405 src 1 (fun q => absurd q.2 (by decide))).trans s395
                                have s415 := (fh405 pic 7 (fun q => absurd q.2 (by decide))).trans s396
                                have s416 := (fh405 pic 8 (fun q => absurd q.2 (by decide))).trans s397
                                have s417 := (fh405 pic 5 (fun q => absurd q.2 (by decide))).trans s398
                                have s418 := (fh405 b0 1 (fun q => absurd q.2 (by decide))).trans s399
                                have s419 := (fh405 b0 2 (fun q => absurd q.2 (by decide))).trans s400
                                have s420 := (fh405 b0 3 (fun q => absurd q.2 (by decide))).trans s401
                                have s421 := (fh405 b1 1 (fun q => absurd q.2 (by decide))).trans efq386_0
                                have s422 := (fh405 b1 2 (fun q => absurd q.2 (by decide))).trans efq386_1
                                have s423 := (fh405 b1 3 (fun q => absurd q.2 (by decide))).trans efq386_2
                                refine gz_s 1 (pc' := 219) (L' := [some (.ref x), some (.int (zi m)), some (.int (zi a)), some (.int (zi n)), some (.int (zi zq1)), some (.int (zi jn14v0)), some (.int (zi zq203)), some (.int (zi zq227)), some (.int (zi 2)), some (.int (zi zq386))]) (S' := [.ref x]) rfl ?_
                                refine gs_gtk rfl (by decide) rfl sh405.1 tx rfl rfl s407 ?_
                                refine gz_s 3 (pc' := 228) (L' := [some (.ref x), some (.int (zi m)), some (.int (zi a)), some (.int (zi n)), some (.int (zi zq1)), some (.int (zi jn14v0)), some (.int (zi zq203)), some (.int (zi zq227)), some (.int (zi 2)), some (.int (zi zq386))]) (S' := [.int (zi zq1), .int (zi zq203), .int (zi zq227), .ref pic]) rfl ?_
                                have k424 := sh405.2.1
                                have k424b := sh405.2.2.1
                                have hl425 : h405.2.2.2.1 co = h.2.2.2.1 co := congrFun sh405.2.2.2.2.1 co
                                have hl426 : h405.2.2.2.1 dm = h.2.2.2.1 dm := congrFun sh405.2.2.2.2.1 dm
                                have hl427 : h405.2.2.2.1 co = h.2.2.2.1 co := congrFun sh405.2.2.2.2.1 co
                                have hl428 : h405.2.2.2.1 dm = h.2.2.2.1 dm := congrFun sh405.2.2.2.2.1 dm
                                obtain ⟨z429, ez429, az429, bz429⟩ := gJ.int (k := 1) (G := gGG) sh405.1 tb2 rfl rfl rfl
                                obtain ⟨z430, ez430, az430, bz430⟩ := gJ.int (k := 2) (G := gGG) sh405.1 tb2 rfl rfl rfl
                                obtain ⟨z431, ez431, az431, bz431⟩ := gJ.int (k := 3) (G := gGG) sh405.1 tb2 rfl rfl rfl
                                refine gz_call rfl (by decide) rfl (by decide) (by decide) (gcal_of rfl rfl rfl (Nat.le_of_ble_eq_true rfl) (gJ.recv (G := gGG) sh405.1 tpic rfl rfl)) (cl_Picture_begin _ sh405.1 pic tpic zq227 (by omega) zq203 (by omega) zq1 (by omega) bn s408 tbn b0 s409 tb0 b1 s410 tb1 b2 s411 tb2 co s412 tco dm s413 tdm fq250_0 s418 (by omega) fq250_1 s419 (by omega) fq250_2 s420 (by omega) fq386_0 s421 (by omega) fq386_1 s422 (by omega) fq386_2 s423 (by omega) z429 ez429 (by omega) z430 ez430 (by omega) z431 ez431 (by omega) (by omega) (by omega) (by omega) (by omega) (by omega) uq) (fun q432 _ wq432 => ?_)
                                obtain ⟨pq432, oq432, hq432⟩ := q432
                                obtain ⟨tyq432, xq432, fq432_0, xq432_0, gq432, efq432_0, afq432_0, bfq432_0, axq432_0, bxq432_0, uq432_0, uq432_1, uq432_2, uq432_3, yq432_0⟩ := wq432
                                dsimp only at uq432_1 uq432_2
                                refine ⟨_, gq432, ?_⟩
                                show gz gPP gGG gcn _ _ 231 [some (.ref x), some (.int (zi m)), some (.int (zi a)), some (.int (zi n)), some (.int (zi zq1)), some (.int (zi jn14v0)), some (.int (zi zq203)), some (.int (zi zq227)), some (.int (zi 2)), some (.int (zi zq386))] [] hq432 _
                                have G433 : gSg [112, 113] [] [54002, 54003, 54004, 54005, 54006, 54007, 54008, 54010, 54011, 54012, 54013, 82000, 82001, 82002, 82003, 82004, 82005, 82006, 82007, 82008, 83000, 83001, 83002, 83003, 83004, 83005, 83006, 83007, 83008, 84000, 84001, 84002, 84003, 84004, 84005, 84006, 84007, 84008, 112999, 113999] ty h tyq432 hq432 := gSg.tr (gSg.ss G0 sh405 (by decide)) xq432 (by decide) (by decide) (fun x hx => by cases hx)
                                have t434 : tyq432 x = 65 := gSg.typ xq432 sh405.1 tx rfl
                                have t435 : tyq432 src = 51 := gSg.typ xq432 sh405.1 tsrc rfl
                                have t436 : tyq432 pic = 54 := gSg.typ xq432 sh405.1 tpic rfl
                                have t437 : tyq432 bn = 57 := gSg.typ xq432 sh405.1 tbn rfl
                                have t438 : tyq432 b0 = 82 := gSg.typ xq432 sh405.1 tb0 rfl
                                have t439 : tyq432 b1 = 83 := gSg.typ xq432 sh405.1 tb1 rfl
                                have t440 : tyq432 b2 = 84 := gSg.typ xq432 sh405.1 tb2 rfl
                                have t441 : tyq432 co = 112 := gSg.typ xq432 sh405.1 tco rfl
                                have hl442 : hq432.2.2.2.1 co = h405.2.2.2.1 co := gSg.len xq432 sh405.1 tco rfl
                                have t443 : tyq432 dm = 113 := gSg.typ xq432 sh405.1 tdm rfl
                                have hl444 : hq432.2.2.2.1 dm = h405.2.2.2.1 dm := gSg.len xq432 sh405.1 tdm rfl
                                have s445 := gSg.at xq432 sh405.1 tx rfl (by decide) s406
                                have s446 := gSg.at xq432 sh405.1 tx rfl (by decide) s407
                                have s447 := gSg.at xq432 sh405.1 tpic rfl (by decide) s408
                                have s448 := gSg.at xq432 sh405.1 tbn rfl (by decide) s409
                                have s449 := gSg.at xq432 sh405.1 tbn rfl (by decide) s410
                                have s450 := gSg.at xq432 sh405.1 tbn rfl (by decide) s411
                                have s451 := gSg.at xq432 sh405.1 tsrc rfl (by decide) s414
                                have s452 := gSg.at xq432 sh405.1 tb0 rfl (by decide) s418
                                have s453 := gSg.at xq432 sh405.1 tb0 rfl (by decide) s419
                                have s454 := gSg.at xq432 sh405.1 tb0 rfl (by decide) s420
                                have s455 := gSg.at xq432 sh405.1 tb1 rfl (by decide) s421
                                have s456 := gSg.at xq432 sh405.1 tb1 rfl (by decide) s422
                                have s457 := gSg.at xq432 sh405.1 tb1 rfl (by decide) s423
                                have s458 := gSg.at xq432 sh405.1 tpic rfl (by decide) eh405
                                have s459 := gSg.at xq432 sh405.1 tb2 rfl (by decide) ez429
                                have s460 := gSg.at xq432 sh405.1 tb2 rfl (by decide) ez430
                                have s461 := gSg.at xq432 sh405.1 tb2 rfl (by decide) ez431
                                have uq462 := gSg.uq xq432 uq (by decide)
                                have sS463 : gSs rT 1027 tyq432 [54002, 54003, 54004, 54005, 54006, 54007, 54008, 54010, 54011, 54012, 54013, 82000, 82001, 82002, 82003, 82004, 82005, 82006, 82007, 82008, 83000, 83001, 83002, 83003, 83004, 83005, 83006, 83007, 83008, 84000, 84001, 84002, 84003, 84004, 84005, 84006, 84007, 84008, 112999, 113999] hq432 hq432 := gSs.rf xq432.1
                                refine gz_s 1 (pc' := 232) (L' := [some (.ref x), some (.int (zi m)), some (.int (zi a)), some (.int (zi n)), some (.int (zi zq1)), some (.int (zi jn14v0)), some (.int (zi zq203)), some (.int (zi zq227)), some (.int (zi 2)), some (.int (zi zq386))]) (S' := [.int (zi (-1))]) rfl ?_
                                have G464 : gSg [112, 113] [] [54002, 54003, 54004, 54005, 54006, 54007, 54008, 54010, 54011, 54012, 54013, 82000, 82001, 82002, 82003, 82004, 82005, 82006, 82007, 82008, 83000, 83001, 83002, 83003, 83004, 83005, 83006, 83007, 83008, 84000, 84001, 84002, 84003, 84004, 84005, 84006, 84007, 84008, 112999, 113999] ty h tyq432 hq432 := gSg.ss G433 sS463 (by decide)
                                exact gz_end (I := .ireturn) (len := 1) rfl (Or.inl rfl) ⟨tyq432, G464, (-1), fq432_0, xq432_0, rfl, (by omega), (by omega), efq432_0, (by omega), (by omega), (by omega), (by omega), (by dsimp only; omega), (by dsimp only; omega), (by omega), yq432_0⟩
                              · refine gy_icF rfl (by decide) (by decide) (by omega) (by omega) hc404 ?_
                                refine gz_s 2 (pc' := 215) (L' := [some (.ref x), some (.int (zi m)), some (.int (zi a)), some (.int (zi n)), some (.int (zi zq1)), some (.int (zi jn14v0)), some (.int (zi zq203)), some (.int (zi zq227)), some (.int (zi 2)), some (.int (zi zq386))]) (S' := [.int (zi 1), .ref pic]) rfl ?_
                                refine gs_put rfl (by decide) rfl sq386 tpic rfl rfl rfl rfl (Or.inl rfl) (by decide) (by omega) (by omega) (fun h465 sh465 eh465 fh465 => ?_)
                                have s466 := (fh465 x 0 (fun q => absurd q.2 (by decide))).trans s387
                                have s467 := (fh465 x 1 (fun q => absurd q.2 (by decide))).trans s388
                                have s468 := (fh465 pic 0 (fun q => absurd q.2 (by decide))).trans s389
                                have s469 := (fh465 bn 0 (fun q => absurd (((tbn).symm.trans (congrArg ty q.1)).trans tpic) (by decide))).trans s390
                                have s470 := (fh465 bn 1 (fun q => absurd (((tbn).symm.trans (congrArg ty q.1)).trans tpic) (by decide))).trans s391
                                have s471 := (fh465 bn 2 (fun q => absurd (((tbn).symm.trans (congrArg ty q.1)).trans tpic) (by decide))).trans s392
                                have s472 := (fh465 pic 2 (fun q => absurd q.2 (by decide))).trans s393
                                have s473 := (fh465 pic 3 (fun q => absurd q.2 (by decide))).trans s394
                                have s474 := (fh465 src 1 (fun q => absurd q.2 (by decide))).trans s395
                                have s475 := (fh465 pic 7 (fun q => absurd q.2 (by decide))).trans s396
                                have s476 := (fh465 pic 8 (fun q => absurd q.2 (by decide))).trans s397
                                have s477 := (fh465 pic 5 (fun q => absurd q.2 (by decide))).trans s398
                                have s478 := (fh465 b0 1 (fun q => absurd q.2 (by decide))).trans s399
                                have s479 := (fh465 b0 2 (fun q => absurd q.2 (by decide))).trans s400
                                have s480 := (fh465 b0 3 (fun q => absurd q.2 (by decide))).trans s401
                                have s481 := (fh465 b1 1 (fun q => absurd q.2 (by decide))).trans efq386_0
                                have s482 := (fh465 b1 2 (fun q => absurd q.2 (by decide))).trans efq386_1
                                have s483 := (fh465 b1 3 (fun q => absurd q.2 (by decide))).trans efq386_2
                                refine gz_s 1 (pc' := 219) (L' := [some (.ref x), some (.int (zi m)), some (.int (zi a)), some (.int (zi n)), some (.int (zi zq1)), some (.int (zi jn14v0)), some (.int (zi zq203)), some (.int (zi zq227)), some (.int (zi 2)), some (.int (zi zq386))]) (S' := [.ref x]) rfl ?_
                                refine gs_gtk rfl (by decide) rfl sh465.1 tx rfl rfl s467 ?_
                                refine gz_s 3 (pc' := 228) (L' := [some (.ref x), some (.int (zi m)), some (.int (zi a)), some (.int (zi n)), some (.int (zi zq1)), some (.int (zi jn14v0)), some (.int (zi zq203)), some (.int (zi zq227)), some (.int (zi 2)), some (.int (zi zq386))]) (S' := [.int (zi zq1), .int (zi zq203), .int (zi zq227), .ref pic]) rfl ?_
                                have k484 := sh465.2.1
                                have k484b := sh465.2.2.1
                                have hl485 : h465.2.2.2.1 co = h.2.2.2.1 co := congrFun sh465.2.2.2.2.1 co
                                have hl486 : h465.2.2.2.1 dm = h.2.2.2.1 dm := congrFun sh465.2.2.2.2.1 dm
                                have hl487 : h465.2.2.2.1 co = h.2.2.2.1 co := congrFun sh465.2.2.2.2.1 co
                                have hl488 : h465.2.2.2.1 dm = h.2.2.2.1 dm := congrFun sh465.2.2.2.2.1 dm
                                obtain ⟨z489, ez489, az489, bz489⟩ := gJ.int (k := 1) (G := gGG) sh465.1 tb2 rfl rfl rfl
                                obtain ⟨z490, ez490, az490, bz490⟩ := gJ.int (k := 2) (G := gGG) sh465.1 tb2 rfl rfl rfl
                                obtain ⟨z491, ez491, az491, bz491⟩ := gJ.int (k := 3) (G := gGG) sh465.1 tb2 rfl rfl rfl
                                refine gz_call rfl (by decide) rfl (by decide) (by decide) (gcal_of rfl rfl rfl (Nat.le_of_ble_eq_true rfl) (gJ.recv (G := gGG) sh465.1 tpic rfl rfl)) (cl_Picture_begin _ sh465.1 pic tpic zq227 (by omega) zq203 (by omega) zq1 (by omega) bn s468 tbn b0 s469 tb0 b1 s470 tb1 b2 s471 tb2 co s472 tco dm s473 tdm fq250_0 s478 (by omega) fq250_1 s479 (by omega) fq250_2 s480 (by omega) fq386_0 s481 (by omega) fq386_1 s482 (by omega) fq386_2 s483 (by omega) z489 ez489 (by omega) z490 ez490 (by omega) z491 ez491 (by omega) (by omega) (by omega) (by omega) (by omega) (by omega) uq) (fun q492 _ wq492 => ?_)
                                obtain ⟨pq492, oq492, hq492⟩ := q492
                                obtain ⟨tyq492, xq492, fq492_0, xq492_0, gq492, efq492_0, afq492_0, bfq492_0, axq492_0, bxq492_0, uq492_0, uq492_1, uq492_2, uq492_3, yq492_0⟩ := wq492
                                dsimp only at uq492_1 uq492_2
                                refine ⟨_, gq492, ?_⟩
                                show gz gPP gGG gcn _ _ 231 [some (.ref x), some (.int (zi m)), some (.int (zi a)), some (.int (zi n)), some (.int (zi zq1)), some (.int (zi jn14v0)), some (.int (zi zq203)), some (.int (zi zq227)), some (.int (zi 2)), some (.int (zi zq386))] [] hq492 _
                                have G493 : gSg [112, 113] [] [54002, 54003, 54004, 54005, 54006, 54007, 54008, 54010, 54011, 54012, 54013, 82000, 82001, 82002, 82003, 82004, 82005, 82006, 82007, 82008, 83000, 83001, 83002, 83003, 83004, 83005, 83006, 83007, 83008, 84000, 84001, 84002, 84003, 84004, 84005, 84006, 84007, 84008, 112999, 113999] ty h tyq492 hq492 := gSg.tr (gSg.ss G0 sh465 (by decide)) xq492 (by decide) (by decide) (fun x hx => by cases hx)
                                have t494 : tyq492 x = 65 := gSg.typ xq492 sh465.1 tx rfl
                                have t495 : tyq492 src = 51 := gSg.typ xq492 sh465.1 tsrc rfl
                                have t496 : tyq492 pic = 54 := gSg.typ xq492 sh465.1 tpic rfl
                                have t497 : tyq492 bn = 57 := gSg.typ xq492 sh465.1 tbn rfl
                                have t498 : tyq492 b0 = 82 := gSg.typ xq492 sh465.1 tb0 rfl
                                have t499 : tyq492 b1 = 83 := gSg.typ xq492 sh465.1 tb1 rfl
                                have t500 : tyq492 b2 = 84 := gSg.typ xq492 sh465.1 tb2 rfl
                                have t501 : tyq492 co = 112 := gSg.typ xq492 sh465.1 tco rfl
                                have hl502 : hq492.2.2.2.1 co = h465.2.2.2.1 co := gSg.len xq492 sh465.1 tco rfl
                                have t503 : tyq492 dm = 113 := gSg.typ xq492 sh465.1 tdm rfl
                                have hl504 : hq492.2.2.2.1 dm = h465.2.2.2.1 dm := gSg.len xq492 sh465.1 tdm rfl
                                have s505 := gSg.at xq492 sh465.1 tx rfl (by decide) s466
                                have s506 := gSg.at xq492 sh465.1 tx rfl (by decide) s467
                                have s507 := gSg.at xq492 sh465.1 tpic rfl (by decide) s468
                                have s508 := gSg.at xq492 sh465.1 tbn rfl (by decide) s469
                                have s509 := gSg.at xq492 sh465.1 tbn rfl (by decide) s470
                                have s510 := gSg.at xq492 sh465.1 tbn rfl (by decide) s471
                                have s511 := gSg.at xq492 sh465.1 tsrc rfl (by decide) s474
                                have s512 := gSg.at xq492 sh465.1 tb0 rfl (by decide) s478
                                have s513 := gSg.at xq492 sh465.1 tb0 rfl (by decide) s479
                                have s514 := gSg.at xq492 sh465.1 tb0 rfl (by decide) s480
                                have s515 := gSg.at xq492 sh465.1 tb1 rfl (by decide) s481
                                have s516 := gSg.at xq492 sh465.1 tb1 rfl (by decide) s482
                                have s517 := gSg.at xq492 sh465.1 tb1 rfl (by decide) s483
                                have s518 := gSg.at xq492 sh465.1 tpic rfl (by decide) eh465
                                have s519 := gSg.at xq492 sh465.1 tb2 rfl (by decide) ez489
                                have s520 := gSg.at xq492 sh465.1 tb2 rfl (by decide) ez490
                                have s521 := gSg.at xq492 sh465.1 tb2 rfl (by decide) ez491
                                have uq522 := gSg.uq xq492 uq (by decide)
                                have sS523 : gSs rT 1027 tyq492 [54002, 54003, 54004, 54005, 54006, 54007, 54008, 54010, 54011, 54012, 54013, 82000, 82001, 82002, 82003, 82004, 82005, 82006, 82007, 82008, 83000, 83001, 83002, 83003, 83004, 83005, 83006, 83007, 83008, 84000, 84001, 84002, 84003, 84004, 84005, 84006, 84007, 84008, 112999, 113999] hq492 hq492 := gSs.rf xq492.1
                                refine gz_s 1 (pc' := 232) (L' := [some (.ref x), some (.int (zi m)), some (.int (zi a)), some (.int (zi n)), some (.int (zi zq1)), some (.int (zi jn14v0)), some (.int (zi zq203)), some (.int (zi zq227)), some (.int (zi 2)), some (.int (zi zq386))]) (S' := [.int (zi (-1))]) rfl ?_
                                have G524 : gSg [112, 113] [] [54002, 54003, 54004, 54005, 54006, 54007, 54008, 54010, 54011, 54012, 54013, 82000, 82001, 82002, 82003, 82004, 82005, 82006, 82007, 82008, 83000, 83001, 83002, 83003, 83004, 83005, 83006, 83007, 83008, 84000, 84001, 84002, 84003, 84004, 84005, 84006, 84007, 84008, 112999, 113999] ty h tyq492 hq492 := gSg.ss G493 sS523 (by decide)
                                exact gz_end (I := .ireturn) (len := 1) rfl (Or.inl rfl) ⟨tyq492, G524, (-1), fq492_0, xq492_0, rfl, (by omega), (by omega), efq492_0, (by omega), (by omega), (by omega), (by omega), (by dsimp only; omega), (by dsimp only; omega), (by omega), yq492_0⟩
                            · refine gy_icF rfl (by decide) (by decide) (by omega) (by omega) hc403 ?_
                              refine gy_s 9 (pc' := 179) (L' := [some (.ref x), some (.int (zi m)), some (.int (zi a)), some (.int (zi n)), some (.int (zi zq1)), some (.int (zi jn14v0)), some (.int (zi zq203)), some (.int (zi zq227)), some (.int (zi 2)), some (.int (zi zq386))]) (S' := [.int (((zi a) + (zi 8)) + ((zi 3) * (zi 2))), .int (zi 2), .ref x]) (L2 := [some (.ref x), some (.int (zi m)), some (.int (zi a)), some (.int (zi n)), some (.int (zi zq1)), some (.int (zi jn14v0)), some (.int (zi zq203)), some (.int (zi zq227)), some (.int (zi 2)), some (.int (zi zq386))]) (S2 := [.int (zi ((a + 8) + 6)), .int (zi 2), .ref x]) rfl (by simp only [zi_add, zi_sub, zi_mul, zi_neg, zi_and1, zi_and7, zi_and15, zi_and31, zi_and255, Int.reduceAdd, Int.reduceMul, Int.reduceSub]) (by simp only [zi_add, zi_sub, zi_mul, zi_neg, zi_and1, zi_and7, zi_and15, zi_and31, zi_and255, Int.reduceAdd, Int.reduceMul, Int.reduceSub]) ?_
                              refine gz_call rfl (by decide) rfl (by decide) (by decide) (gcal_of rfl rfl rfl (Nat.le_of_ble_eq_true rfl) (gJ.recv (G := gGG) sq386.1 tx rfl rfl)) (cl_readBand2 _ sq386.1 x tx 2 (by omega) ((a + 8) + 6) (by omega) src s387 tsrc pic s388 tpic bn s389 tbn b0 s390 tb0 b1 s391 tb1 b2 s392 tb2 sz s395 (by omega) uq) (fun q525 _ wq525 => ?_)
                              obtain ⟨pq525, oq525, hq525⟩ := q525
                              obtain ⟨xq525, zq525, fq525_0, fq525_1, fq525_2, gq525, aq525, bq525, efq525_0, afq525_0, bfq525_0, efq525_1, afq525_1, bfq525_1, efq525_2, afq525_2, bfq525_2, uq525_0⟩ := wq525
                              refine ⟨_, gq525, ?_⟩
                              show gz gPP gGG gcn _ _ 182 [some (.ref x), some (.int (zi m)), some (.int (zi a)), some (.int (zi n)), some (.int (zi zq1)), some (.int (zi jn14v0)), some (.int (zi zq203)), some (.int (zi zq227)), some (.int (zi 2)), some (.int (zi zq386))] [.int (zi zq525)] hq525 _
                              have sq525 : gSs rT 1027 ty [54002, 54003, 54004, 54005, 54006, 54007, 54008, 54010, 54011, 54012, 54013, 82000, 82001, 82002, 82003, 82004, 82005, 82006, 82007, 82008, 83000, 83001, 83002, 83003, 83004, 83005, 83006, 83007, 83008, 84000, 84001, 84002, 84003, 84004, 84005, 84006, 84007, 84008, 112999, 113999] h hq525 := gSs.tr sq386 xq525 (by decide)
                              have s526 := (xq525.2.2.2.2.2 x 0 (by rw [tx]; decide)).trans s387
                              have s527 := (xq525.2.2.2.2.2 x 1 (by rw [tx]; decide)).trans s388
                              have s528 := (xq525.2.2.2.2.2 pic 0 (by rw [tpic]; decide)).trans s389
                              have s529 := (xq525.2.2.2.2.2 bn 0 (by rw [tbn]; decide)).trans s390
                              have s530 := (xq525.2.2.2.2.2 bn 1 (by rw [tbn]; decide)).trans s391
                              have s531 := (xq525.2.2.2.2.2 bn 2 (by rw [tbn]; decide)).trans s392
                              have s532 := (xq525.2.2.2.2.2 pic 2 (by rw [tpic]; decide)).trans s393
                              have s533 := (xq525.2.2.2.2.2 pic 3 (by rw [tpic]; decide)).trans s394
                              have s534 := (xq525.2.2.2.2.2 src 1 (by rw [tsrc]; decide)).trans s395
                              have s535 := (xq525.2.2.2.2.2 pic 7 (by rw [tpic]; decide)).trans s396
                              have s536 := (xq525.2.2.2.2.2 pic 8 (by rw [tpic]; decide)).trans s397
                              have s537 := (xq525.2.2.2.2.2 pic 5 (by rw [tpic]; decide)).trans s398
                              have s538 := (xq525.2.2.2.2.2 b0 1 (by rw [tb0]; decide)).trans s399
                              have s539 := (xq525.2.2.2.2.2 b0 2 (by rw [tb0]; decide)).trans s400
                              have s540 := (xq525.2.2.2.2.2 b0 3 (by rw [tb0]; decide)).trans s401
                              have s541 := (xq525.2.2.2.2.2 b1 1 (by rw [tb1]; decide)).trans efq386_0
                              have s542 := (xq525.2.2.2.2.2 b1 2 (by rw [tb1]; decide)).trans efq386_1
                              have s543 := (xq525.2.2.2.2.2 b1 3 (by rw [tb1]; decide)).trans efq386_2
                              refine gz_s 3 (pc' := 187) (L' := [some (.ref x), some (.int (zi m)), some (.int (zi a)), some (.int (zi n)), some (.int (zi zq1)), some (.int (zi jn14v0)), some (.int (zi zq203)), some (.int (zi zq227)), some (.int (zi 2)), some (.int (zi zq525))]) (S' := [.int (zi (-1)), .int (zi zq525)]) rfl ?_
                              by_cases hc544 : (zq525 : Int) = (-1)
                              · refine gy_icT (pc' := 193) rfl (by decide) (by decide) (by omega) (by omega) hc544 ?_
                                refine gy_s 4 (pc' := 164) (L' := [some (.ref x), some (.int (zi m)), some (.int (zi a)), some (.int (zi n)), some (.int (zi zq1)), some (.int (zi jn14v0)), some (.int (zi zq203)), some (.int (zi zq227)), some (.int ((zi 2) + zi 1)), some (.int (zi zq525))]) (S' := [.int (zi zq1), .int ((zi 2) + zi 1)]) (L2 := [some (.ref x), some (.int (zi m)), some (.int (zi a)), some (.int (zi n)), some (.int (zi zq1)), some (.int (zi jn14v0)), some (.int (zi zq203)), some (.int (zi zq227)), some (.int (zi 3)), some (.int (zi zq525))]) (S2 := [.int (zi zq1), .int (zi 3)]) rfl (by simp only [zi_add, zi_sub, zi_mul, zi_neg, zi_and1, zi_and7, zi_and15, zi_and31, zi_and255, Int.reduceAdd, Int.reduceMul, Int.reduceSub]) (by simp only [zi_add, zi_sub, zi_mul, zi_neg, zi_and1, zi_and7, zi_and15, zi_and31, zi_and255, Int.reduceAdd, Int.reduceMul, Int.reduceSub]) ?_
                                refine gy_icT (pc' := 199) rfl (by decide) (by decide) (by omega) (by omega) (by first | (simp [zc]; done) | (simp only [zc]; omega)) ?_
                                refine gz_s 1 (pc' := 200) (L' := [some (.ref x), some (.int (zi m)), some (.int (zi a)), some (.int (zi n)), some (.int (zi zq1)), some (.int (zi jn14v0)), some (.int (zi zq203)), some (.int (zi zq227)), some (.int (zi 3)), some (.int (zi zq525))]) (S' := [.ref x]) rfl ?_
                                refine gs_gtk rfl (by decide) rfl sq525.1 tx rfl rfl s527 ?_
                                refine gz_s 2 (pc' := 207) (L' := [some (.ref x), some (.int (zi m)), some (.int (zi a)), some (.int (zi n)), some (.int (zi zq1)), some (.int (zi jn14v0)), some (.int (zi zq203)), some (.int (zi zq227)), some (.int (zi 3)), some (.int (zi zq525))]) (S' := [.int (zi 194), .int (zi m), .ref pic]) rfl ?_
                                by_cases hc545 : ¬ (m : Int) = 194
                                · refine gy_icT (pc' := 214) rfl (by decide) (by decide) (by omega) (by omega) hc545 ?_
                                  refine gz_s 1 (pc' := 215) (L' := [some (.ref x), some (.int (zi m)), some (.int (zi a)), some (.int (zi n)), some (.int (zi zq1)), some (.int (zi jn14v0)), some (.int (zi zq203)), some (.int (zi zq227)), some (.int (zi 3)), some (.int (zi zq525))]) (S' := [.int (zi 0), .ref pic]) rfl ?_
                                  refine gs_put rfl (by decide) rfl sq525 tpic rfl rfl rfl rfl (Or.inl rfl) (by decide) (by omega) (by omega) (fun h546 sh546 eh546 fh546 => ?_)
                                  have s547 := (fh546 x 0 (fun q => absurd q.2 (by decide))).trans s526
                                  have s548 := (fh546 x 1 (fun q => absurd q.2 (by decide))).trans s527
                                  have s549 := (fh546 pic 0 (fun q => absurd q.2 (by decide))).trans s528
                                  have s550 := (fh546 bn 0 (fun q => absurd (((tbn).symm.trans (congrArg ty q.1)).trans tpic) (by decide))).trans s529
                                  have s551 := (fh546 bn 1 (fun q => absurd (((tbn).symm.trans (congrArg ty q.1)).trans tpic) (by decide))).trans s530
                                  have s552 := (fh546 bn 2 (fun q => absurd (((tbn).symm.trans (congrArg ty q.1)).trans tpic) (by decide))).trans s531
                                  have s553 := (fh546 pic 2 (fun q => absurd q.2 (by decide))).trans s532
                                  have s554 := (fh546 pic 3 (fun q => absurd q.2 (by decide))).trans s533
                                  have s555 := (fh546 src 1 (fun q => absurd q.2 (by decide))).trans s534
                                  have s556 := (fh546 pic 7 (fun q => absurd q.2 (by decide))).trans s535
                                  have s557 := (fh546 pic 8 (fun q => absurd q.2 (by decide))).trans s536
                                  have s558 := (fh546 pic 5 (fun q => absurd q.2 (by decide))).trans s537
                                  have s559 := (fh546 b0 1 (fun q => absurd q.2 (by decide))).trans s538
                                  have s560 := (fh546 b0 2 (fun q => absurd q.2 (by decide))).trans s539
                                  have s561 := (fh546 b0 3 (fun q => absurd q.2 (by decide))).trans s540
                                  have s562 := (fh546 b1 1 (fun q => absurd q.2 (by decide))).trans s541
                                  have s563 := (fh546 b1 2 (fun q => absurd q.2 (by decide))).trans s542
                                  have s564 := (fh546 b1 3 (fun q => absurd q.2 (by decide))).trans s543
                                  have s565 := (fh546 b2 1 (fun q => absurd q.2 (by decide))).trans efq525_0
                                  have s566 := (fh546 b2 2 (fun q => absurd q.2 (by decide))).trans efq525_1
                                  have s567 := (fh546 b2 3 (fun q => absurd q.2 (by decide))).trans efq525_2
                                  refine gz_s 1 (pc' := 219) (L' := [some (.ref x), some (.int (zi m)), some (.int (zi a)), some (.int (zi n)), some (.int (zi zq1)), some (.int (zi jn14v0)), some (.int (zi zq203)), some (.int (zi zq227)), some (.int (zi 3)), some (.int (zi zq525))]) (S' := [.ref x]) rfl ?_
                                  refine gs_gtk rfl (by decide) rfl sh546.1 tx rfl rfl s548 ?_
                                  refine gz_s 3 (pc' := 228) (L' := [some (.ref x), some (.int (zi m)), some (.int (zi a)), some (.int (zi n)), some (.int (zi zq1)), some (.int (zi jn14v0)), some (.int (zi zq203)), some (.int (zi zq227)), some (.int (zi 3)), some (.int (zi zq525))]) (S' := [.int (zi zq1), .int (zi zq203), .int (zi zq227), .ref pic]) rfl ?_
                                  have k568 := sh546.2.1
                                  have k568b := sh546.2.2.1
                                  have hl569 : h546.2.2.2.1 co = h.2.2.2.1 co := congrFun sh546.2.2.2.2.1 co
                                  have hl570 : h546.2.2.2.1 dm = h.2.2.2.1 dm := congrFun sh546.2.2.2.2.1 dm
                                  have hl571 : h546.2.2.2.1 co = h.2.2.2.1 co := congrFun sh546.2.2.2.2.1 co
                                  have hl572 : h546.2.2.2.1 dm = h.2.2.2.1 dm := congrFun sh546.2.2.2.2.1 dm
                                  refine gz_call rfl (by decide) rfl (by decide) (by decide) (gcal_of rfl rfl rfl (Nat.le_of_ble_eq_true rfl) (gJ.recv (G := gGG) sh546.1 tpic rfl rfl)) (cl_Picture_begin _ sh546.1 pic tpic zq227 (by omega) zq203 (by omega) zq1 (by omega) bn s549 tbn b0 s550 tb0 b1 s551 tb1 b2 s552 tb2 co s553 tco dm s554 tdm fq250_0 s559 (by omega) fq250_1 s560 (by omega) fq250_2 s561 (by omega) fq386_0 s562 (by omega) fq386_1 s563 (by omega) fq386_2 s564 (by omega) fq525_0 s565 (by omega) fq525_1 s566 (by omega) fq525_2 s567 (by omega) (by omega) (by omega) (by omega) (by omega) (by omega) uq) (fun q573 _ wq573 => ?_)
                                  obtain ⟨pq573, oq573, hq573⟩ := q573
                                  obtain ⟨tyq573, xq573, fq573_0, xq573_0, gq573, efq573_0, afq573_0, bfq573_0, axq573_0, bxq573_0, uq573_0, uq573_1, uq573_2, uq573_3, yq573_0⟩ := wq573
                                  dsimp only at uq573_1 uq573_2
                                  refine ⟨_, gq573, ?_⟩
                                  show gz gPP gGG gcn _ _ 231 [some (.ref x), some (.int (zi m)), some (.int (zi a)), some (.int (zi n)), some (.int (zi zq1)), some (.int (zi jn14v0)), some (.int (zi zq203)), some (.int (zi zq227)), some (.int (zi 3)), some (.int (zi zq525))] [] hq573 _
                                  have G574 : gSg [112, 113] [] [54002, 54003, 54004, 54005, 54006, 54007, 54008, 54010, 54011, 54012, 54013, 82000, 82001, 82002, 82003, 82004, 82005, 82006, 82007, 82008, 83000, 83001, 83002, 83003, 83004, 83005, 83006, 83007, 83008, 84000, 84001, 84002, 84003, 84004, 84005, 84006, 84007, 84008, 112999, 113999] ty h tyq573 hq573 := gSg.tr (gSg.ss G0 sh546 (by decide)) xq573 (by decide) (by decide) (fun x hx => by cases hx)
                                  have t575 : tyq573 x = 65 := gSg.typ xq573 sh546.1 tx rfl
                                  have t576 : tyq573 src = 51 := gSg.typ xq573 sh546.1 tsrc rfl
                                  have t577 : tyq573 pic = 54 := gSg.typ xq573 sh546.1 tpic rfl
                                  have t578 : tyq573 bn = 57 := gSg.typ xq573 sh546.1 tbn rfl
                                  have t579 : tyq573 b0 = 82 := gSg.typ xq573 sh546.1 tb0 rfl
                                  have t580 : tyq573 b1 = 83 := gSg.typ xq573 sh546.1 tb1 rfl
                                  have t581 : tyq573 b2 = 84 := gSg.typ xq573 sh546.1 tb2 rfl
                                  have t582 : tyq573 co = 112 := gSg.typ xq573 sh546.1 tco rfl
                                  have hl583 : hq573.2.2.2.1 co = h546.2.2.2.1 co := gSg.len xq573 sh546.1 tco rfl
                                  have t584 : tyq573 dm = 113 := gSg.typ xq573 sh546.1 tdm rfl
                                  have hl585 : hq573.2.2.2.1 dm = h546.2.2.2.1 dm := gSg.len xq573 sh546.1 tdm rfl
                                  have s586 := gSg.at xq573 sh546.1 tx rfl (by decide) s547
                                  have s587 := gSg.at xq573 sh546.1 tx rfl (by decide) s548
                                  have s588 := gSg.at xq573 sh546.1 tpic rfl (by decide) s549
                                  have s589 := gSg.at xq573 sh546.1 tbn rfl (by decide) s550
                                  have s590 := gSg.at xq573 sh546.1 tbn rfl (by decide) s551
                                  have s591 := gSg.at xq573 sh546.1 tbn rfl (by decide) s552
                                  have s592 := gSg.at xq573 sh546.1 tsrc rfl (by decide) s555
                                  have s593 := gSg.at xq573 sh546.1 tb0 rfl (by decide) s559
                                  have s594 := gSg.at xq573 sh546.1 tb0 rfl (by decide) s560
                                  have s595 := gSg.at xq573 sh546.1 tb0 rfl (by decide) s561
                                  have s596 := gSg.at xq573 sh546.1 tb1 rfl (by decide) s562
                                  have s597 := gSg.at xq573 sh546.1 tb1 rfl (by decide) s563
                                  have s598 := gSg.at xq573 sh546.1 tb1 rfl (by decide) s564
                                  have s599 := gSg.at xq573 sh546.1 tb2 rfl (by decide) s565
                                  have s600 := gSg.at xq573 sh546.1 tb2 rfl (by decide) s566
                                  have s601 := gSg.at xq573 sh546.1 tb2 rfl (by decide) s567
                                  have s602 := gSg.at xq573 sh546.1 tpic rfl (by decide) eh546
                                  have uq603 := gSg.uq xq573 uq (by decide)
                                  have sS604 : gSs rT 1027 tyq573 [54002, 54003, 54004, 54005, 54006, 54007, 54008, 54010, 54011, 54012, 54013, 82000, 82001, 82002, 82003, 82004, 82005, 82006, 82007, 82008, 83000, 83001, 83002, 83003, 83004, 83005, 83006, 83007, 83008, 84000, 84001, 84002, 84003, 84004, 84005, 84006, 84007, 84008, 112999, 113999] hq573 hq573 := gSs.rf xq573.1
                                  refine gz_s 1 (pc' := 232) (L' := [some (.ref x), some (.int (zi m)), some (.int (zi a)), some (.int (zi n)), some (.int (zi zq1)), some (.int (zi jn14v0)), some (.int (zi zq203)), some (.int (zi zq227)), some (.int (zi 3)), some (.int (zi zq525))]) (S' := [.int (zi (-1))]) rfl ?_
                                  have G605 : gSg [112, 113] [] [54002, 54003, 54004, 54005, 54006, 54007, 54008, 54010, 54011, 54012, 54013, 82000, 82001, 82002, 82003, 82004, 82005, 82006, 82007, 82008, 83000, 83001, 83002, 83003, 83004, 83005, 83006, 83007, 83008, 84000, 84001, 84002, 84003, 84004, 84005, 84006, 84007, 84008, 112999, 113999] ty h tyq573 hq573 := gSg.ss G574 sS604 (by decide)
                                  exact gz_end (I := .ireturn) (len := 1) rfl (Or.inl rfl) ⟨tyq573, G605, (-1), fq573_0, xq573_0, rfl, (by omega), (by omega), efq573_0, (by omega), (by omega), (by omega), (by omega), (by dsimp only; omega), (by dsimp only; omega), (by omega), yq573_0⟩
                                · refine gy_icF rfl (by decide) (by decide) (by omega) (by omega) hc545 ?_
                                  refine gz_s 2 (pc' := 215) (L' := [some (.ref x), some (.int (zi m)), some (.int (zi a)), some (.int (zi n)), some (.int (zi zq1)), some (.int (zi jn14v0)), some (.int (zi zq203)), some (.int (zi zq227)), some (.int (zi 3)), some (.int (zi zq525))]) (S' := [.int (zi 1), .ref pic]) rfl ?_
                                  refine gs_put rfl (by decide) rfl sq525 tpic rfl rfl rfl rfl (Or.inl rfl) (by decide) (by omega) (by omega) (fun h606 sh606 eh606 fh606 => ?_)
                                  have s607 := (fh606 x 0 (fun q => absurd q.2 (by decide))).trans s526
                                  have s608 := (fh606 x 1 (fun q => absurd q.2 (by decide))).trans s527
                                  have s609 := (fh606 pic 0 (fun q => absurd q.2 (by decide))).trans s528
                                  have s610 := (fh606 bn 0 (fun q => absurd (((tbn).symm.trans (congrArg ty q.1)).trans tpic) (by decide))).trans s529
                                  have s611 := (fh606 bn 1 (fun q => absurd (((tbn).symm.trans (congrArg ty q.1)).trans tpic) (by decide))).trans s530
                                  have s612 := (fh606 bn 2 (fun q => absurd (((tbn).symm.trans (congrArg ty q.1)).trans tpic) (by decide))).trans s531
                                  have s613 := (fh606 pic 2 (fun q => absurd q.2 (by decide))).trans s532
                                  have s614 := (fh606 pic 3 (fun q => absurd q.2 (by decide))).trans s533
                                  have s615 := (fh606 src 1 (fun q => absurd q.2 (by decide))).trans s534
                                  have s616 := (fh606 pic 7 (fun q => absurd q.2 (by decide))).trans s535
                                  have s617 := (fh606 pic 8 (fun q => absurd q.2 (by decide))).trans s536
                                  have s618 := (fh606 pic 5 (fun q => absurd q.2 (by decide))).trans s537
                                  have s619 := (fh606 b0 1 (fun q => absurd q.2 (by decide))).trans s538
                                  have s620 := (fh606 b0 2 (fun q => absurd q.2 (by decide))).trans s539
                                  have s621 := (fh606 b0 3 (fun q => absurd q.2 (by decide))).trans s540
                                  have s622 := (fh606 b1 1 (fun q => absurd q.2 (by decide))).trans s541
                                  have s623 := (fh606 b1 2 (fun q => absurd q.2 (by decide))).trans s542
                                  have s624 := (fh606 b1 3 (fun q => absurd q.2 (by decide))).trans s543
                                  have s625 := (fh606 b2 1 (fun q => absurd q.2 (by decide))).trans efq525_0
                                  have s626 := (fh606 b2 2 (fun q => absurd q.2 (by decide))).trans efq525_1
                                  have s627 := (fh606 b2 3 (fun q => absurd q.2 (by decide))).trans efq525_2
                                  refine gz_s 1 (pc' := 219) (L' := [some (.ref x), some (.int (zi m)), some (.int (zi a)), some (.int (zi n)), some (.int (zi zq1)), some (.int (zi jn14v0)), some (.int (zi zq203)), some (.int (zi zq227)), some (.int (zi 3)), some (.int (zi zq525))]) (S' := [.ref x]) rfl ?_
                                  refine gs_gtk rfl (by decide) rfl sh606.1 tx rfl rfl s608 ?_
                                  refine gz_s 3 (pc' := 228) (L' := [some (.ref x), some (.int (zi m)), some (.int (zi a)), some (.int (zi n)), some (.int (zi zq1)), some (.int (zi jn14v0)), some (.int (zi zq203)), some (.int (zi zq227)), some (.int (zi 3)), some (.int (zi zq525))]) (S' := [.int (zi zq1), .int (zi zq203), .int (zi zq227), .ref pic]) rfl ?_
                                  have k628 := sh606.2.1
                                  have k628b := sh606.2.2.1
                                  have hl629 : h606.2.2.2.1 co = h.2.2.2.1 co := congrFun sh606.2.2.2.2.1 co
                                  have hl630 : h606.2.2.2.1 dm = h.2.2.2.1 dm := congrFun sh606.2.2.2.2.1 dm
                                  have hl631 : h606.2.2.2.1 co = h.2.2.2.1 co := congrFun sh606.2.2.2.2.1 co
                                  have hl632 : h606.2.2.2.1 dm = h.2.2.2.1 dm := congrFun sh606.2.2.2.2.1 dm
                                  refine gz_call rfl (by decide) rfl (by decide) (by decide) (gcal_of rfl rfl rfl (Nat.le_of_ble_eq_true rfl) (gJ.recv (G := gGG) sh606.1 tpic rfl rfl)) (cl_Picture_begin _ sh606.1 pic tpic zq227 (by omega) zq203 (by omega) zq1 (by omega) bn s609 tbn b0 s610 tb0 b1 s611 tb1 b2 s612 tb2 co s613 tco dm s614 tdm fq250_0 s619 (by omega) fq250_1 s620 (by omega) fq250_2 s621 (by omega) fq386_0 s622 (by omega) fq386_1 s623 (by omega) fq386_2 s624 (by omega) fq525_0 s625 (by omega) fq525_1 s626 (by omega) fq525_2 s627 (by omega) (by omega) (by omega) (by omega) (by omega) (by omega) uq) (fun q633 _ wq633 => ?_)
                                  obtain ⟨pq633, oq633, hq633⟩ := q633
                                  obtain ⟨tyq633, xq633, fq633_0, xq633_0, gq633, efq633_0, afq633_0, bfq633_0, axq633_0, bxq633_0, uq633_0, uq633_1, uq633_2, uq633_3, yq633_0⟩ := wq633
                                  dsimp only at uq633_1 uq633_2
                                  refine ⟨_, gq633, ?_⟩
                                  show gz gPP gGG gcn _ _ 231 [some (.ref x), some (.int (zi m)), some (.int (zi a)), some (.int (zi n)), some (.int (zi zq1)), some (.int (zi jn14v0)), some (.int (zi zq203)), some (.int (zi zq227)), some (.int (zi 3)), some (.int (zi zq525))] [] hq633 _
                                  have G634 : gSg [112, 113] [] [54002, 54003, 54004, 54005, 54006, 54007, 54008, 54010, 54011, 54012, 54013, 82000, 82001, 82002, 82003, 82004, 82005, 82006, 82007, 82008, 83000, 83001, 83002, 83003, 83004, 83005, 83006, 83007, 83008, 84000, 84001, 84002, 84003, 84004, 84005, 84006, 84007, 84008, 112999, 113999] ty h tyq633 hq633 := gSg.tr (gSg.ss G0 sh606 (by decide)) xq633 (by decide) (by decide) (fun x hx => by cases hx)
                                  have t635 : tyq633 x = 65 := gSg.typ xq633 sh606.1 tx rfl
                                  have t636 : tyq633 src = 51 := gSg.typ xq633 sh606.1 tsrc rfl
                                  have t637 : tyq633 pic = 54 := gSg.typ xq633 sh606.1 tpic rfl
                                  have t638 : tyq633 bn = 57 := gSg.typ xq633 sh606.1 tbn rfl
                                  have t639 : tyq633 b0 = 82 := gSg.typ xq633 sh606.1 tb0 rfl
                                  have t640 : tyq633 b1 = 83 := gSg.typ xq633 sh606.1 tb1 rfl
                                  have t641 : tyq633 b2 = 84 := gSg.typ xq633 sh606.1 tb2 rfl
                                  have t642 : tyq633 co = 112 := gSg.typ xq633 sh606.1 tco rfl
                                  have hl643 : hq633.2.2.2.1 co = h606.2.2.2.1 co := gSg.len xq633 sh606.1 tco rfl
                                  have t644 : tyq633 dm = 113 := gSg.typ xq633 sh606.1 tdm rfl
                                  have hl645 : hq633.2.2.2.1 dm = h606.2.2.2.1 dm := gSg.len xq633 sh606.1 tdm rfl
                                  have s646 := gSg.at xq633 sh606.1 tx rfl (by decide) s607
                                  have s647 := gSg.at xq633 sh606.1 tx rfl (by decide) s608
                                  have s648 := gSg.at xq633 sh606.1 tpic rfl (by decide) s609
                                  have s649 := gSg.at xq633 sh606.1 tbn rfl (by decide) s610
                                  have s650 := gSg.at xq633 sh606.1 tbn rfl (by decide) s611
                                  have s651 := gSg.at xq633 sh606.1 tbn rfl (by decide) s612
                                  have s652 := gSg.at xq633 sh606.1 tsrc rfl (by decide) s615
                                  have s653 := gSg.at xq633 sh606.1 tb0 rfl (by decide) s619
                                  have s654 := gSg.at xq633 sh606.1 tb0 rfl (by decide) s620
                                  have s655 := gSg.at xq633 sh606.1 tb0 rfl (by decide) s621
                                  have s656 := gSg.at xq633 sh606.1 tb1 rfl (by decide) s622
                                  have s657 := gSg.at xq633 sh606.1 tb1 rfl (by decide) s623
                                  have s658 := gSg.at xq633 sh606.1 tb1 rfl (by decide) s624
                                  have s659 := gSg.at xq633 sh606.1 tb2 rfl (by decide) s625
                                  have s660 := gSg.at xq633 sh606.1 tb2 rfl (by decide) s626
                                  have s661 := gSg.at xq633 sh606.1 tb2 rfl (by decide) s627
                                  have s662 := gSg.at xq633 sh606.1 tpic rfl (by decide) eh606
                                  have uq663 := gSg.uq xq633 uq (by decide)
                                  have sS664 : gSs rT 1027 tyq633 [54002, 54003, 54004, 54005, 54006, 54007, 54008, 54010, 54011, 54012, 54013, 82000, 82001, 82002, 82003, 82004, 82005, 82006, 82007, 82008, 83000, 83001, 83002, 83003, 83004, 83005, 83006, 83007, 83008, 84000, 84001, 84002, 84003, 84004, 84005, 84006, 84007, 84008, 112999, 113999] hq633 hq633 := gSs.rf xq633.1
                                  refine gz_s 1 (pc' := 232) (L' := [some (.ref x), some (.int (zi m)), some (.int (zi a)), some (.int (zi n)), some (.int (zi zq1)), some (.int (zi jn14v0)), some (.int (zi zq203)), some (.int (zi zq227)), some (.int (zi 3)), some (.int (zi zq525))]) (S' := [.int (zi (-1))]) rfl ?_
                                  have G665 : gSg [112, 113] [] [54002, 54003, 54004, 54005, 54006, 54007, 54008, 54010, 54011, 54012, 54013, 82000, 82001, 82002, 82003, 82004, 82005, 82006, 82007, 82008, 83000, 83001, 83002, 83003, 83004, 83005, 83006, 83007, 83008, 84000, 84001, 84002, 84003, 84004, 84005, 84006, 84007, 84008, 112999, 113999] ty h tyq633 hq633 := gSg.ss G634 sS664 (by decide)
                                  exact gz_end (I := .ireturn) (len := 1) rfl (Or.inl rfl) ⟨tyq633, G665, (-1), fq633_0, xq633_0, rfl, (by omega), (by omega), efq633_0, (by omega), (by omega), (by omega), (by omega), (by dsimp only; omega), (by dsimp only; omega), (by omega), yq633_0⟩
                              · refine gy_icF rfl (by decide) (by decide) (by omega) (by omega) hc544 ?_
                                refine gz_s 1 (pc' := 192) (L' := [some (.ref x), some (.int (zi m)), some (.int (zi a)), some (.int (zi n)), some (.int (zi zq1)), some (.int (zi jn14v0)), some (.int (zi zq203)), some (.int (zi zq227)), some (.int (zi 2)), some (.int (zi zq525))]) (S' := [.int (zi zq525)]) rfl ?_
                                have k666 := sq525.2.1
                                have k666b := sq525.2.2.1
                                have hl667 : hq525.2.2.2.1 co = h.2.2.2.1 co := congrFun sq525.2.2.2.2.1 co
                                have hl668 : hq525.2.2.2.1 dm = h.2.2.2.1 dm := congrFun sq525.2.2.2.2.1 dm
                                have k669 := sq525.2.1
                                have k669b := sq525.2.2.1
                                have hl670 : hq525.2.2.2.1 co = h.2.2.2.1 co := congrFun sq525.2.2.2.2.1 co
                                have hl671 : hq525.2.2.2.1 dm = h.2.2.2.1 dm := congrFun sq525.2.2.2.2.1 dm
                                have hpc672 : gPC ty pic b0 b1 b2 (hq525.2.2.2.1 dm : Int) hq525 := gPC.zero sq525.1 tpic s528 tbn s529 tb0 s530 tb1 s531 tb2 s532 tco s533 tdm (by rw [(by omega : (0 : Int) = cn)]; exact s535) bl s536 (by omega) w s537 (by omega) (by omega) (by omega) (by omega) (by omega)
                                have G673 : gSg [112, 113] [] [54002, 54003, 54004, 54005, 54006, 54007, 54008, 54010, 54011, 54012, 54013, 82000, 82001, 82002, 82003, 82004, 82005, 82006, 82007, 82008, 83000, 83001, 83002, 83003, 83004, 83005, 83006, 83007, 83008, 84000, 84001, 84002, 84003, 84004, 84005, 84006, 84007, 84008, 112999, 113999] ty h ty hq525 := gSg.ss G0 sq525 (by decide)
                                exact gz_end (I := .ireturn) (len := 1) rfl (Or.inl rfl) ⟨ty, G673, zq525, cn, (hq525.2.2.2.1 dm : Int), rfl, (by omega), (by omega), s535, (by omega), (by omega), (by omega), (by omega), (by dsimp only; omega), (by dsimp only; omega), (by omega), hpc672⟩
                          · refine gy_icF rfl (by decide) (by decide) (by omega) (by omega) hc402 ?_
                            refine gz_s 1 (pc' := 192) (L' := [some (.ref x), some (.int (zi m)), some (.int (zi a)), some (.int (zi n)), some (.int (zi zq1)), some (.int (zi jn14v0)), some (.int (zi zq203)), some (.int (zi zq227)), some (.int (zi 1)), some (.int (zi zq386))]) (S' := [.int (zi zq386)]) rfl ?_
                            have k674 := sq386.2.1
                            have k674b := sq386.2.2.1
                            have hl675 : hq386.2.2.2.1 co = h.2.2.2.1 co := congrFun sq386.2.2.2.2.1 co
                            have hl676 : hq386.2.2.2.1 dm = h.2.2.2.1 dm := congrFun sq386.2.2.2.2.1 dm
                            have k677 := sq386.2.1
                            have k677b := sq386.2.2.1
                            have hl678 : hq386.2.2.2.1 co = h.2.2.2.1 co := congrFun sq386.2.2.2.2.1 co
                            have hl679 : hq386.2.2.2.1 dm = h.2.2.2.1 dm := congrFun sq386.2.2.2.2.1 dm
                            have hpc680 : gPC ty pic b0 b1 b2 (hq386.2.2.2.1 dm : Int) hq386 := gPC.zero sq386.1 tpic s389 tbn s390 tb0 s391 tb1 s392 tb2 s393 tco s394 tdm (by rw [(by omega : (0 : Int) = cn)]; exact s396) bl s397 (by omega) w s398 (by omega) (by omega) (by omega) (by omega) (by omega)
                            have G681 : gSg [112, 113] [] [54002, 54003, 54004, 54005, 54006, 54007, 54008, 54010, 54011, 54012, 54013, 82000, 82001, 82002, 82003, 82004, 82005, 82006, 82007, 82008, 83000, 83001, 83002, 83003, 83004, 83005, 83006, 83007, 83008, 84000, 84001, 84002, 84003, 84004, 84005, 84006, 84007, 84008, 112999, 113999] ty h ty hq386 := gSg.ss G0 sq386 (by decide)
                            exact gz_end (I := .ireturn) (len := 1) rfl (Or.inl rfl) ⟨ty, G681, zq386, cn, (hq386.2.2.2.1 dm : Int), rfl, (by omega), (by omega), s396, (by omega), (by omega), (by omega), (by omega), (by dsimp only; omega), (by dsimp only; omega), (by omega), hpc680⟩
                      · refine gy_icF rfl (by decide) (by decide) (by omega) (by omega) hc263 ?_
                        refine gz_s 1 (pc' := 192) (L' := [some (.ref x), some (.int (zi m)), some (.int (zi a)), some (.int (zi n)), some (.int (zi zq1)), some (.int (zi jn14v0)), some (.int (zi zq203)), some (.int (zi zq227)), some (.int (zi 0)), some (.int (zi zq250))]) (S' := [.int (zi zq250)]) rfl ?_
                        have k682 := sq250.2.1
                        have k682b := sq250.2.2.1
                        have hl683 : hq250.2.2.2.1 co = h.2.2.2.1 co := congrFun sq250.2.2.2.2.1 co
                        have hl684 : hq250.2.2.2.1 dm = h.2.2.2.1 dm := congrFun sq250.2.2.2.2.1 dm
                        have k685 := sq250.2.1
                        have k685b := sq250.2.2.1
                        have hl686 : hq250.2.2.2.1 co = h.2.2.2.1 co := congrFun sq250.2.2.2.2.1 co
                        have hl687 : hq250.2.2.2.1 dm = h.2.2.2.1 dm := congrFun sq250.2.2.2.2.1 dm
                        have hpc688 : gPC ty pic b0 b1 b2 (hq250.2.2.2.1 dm : Int) hq250 := gPC.zero sq250.1 tpic s253 tbn s254 tb0 s255 tb1 s256 tb2 s257 tco s258 tdm (by rw [(by omega : (0 : Int) = cn)]; exact s260) bl s261 (by omega) w s262 (by omega) (by omega) (by omega) (by omega) (by omega)
                        have G689 : gSg [112, 113] [] [54002, 54003, 54004, 54005, 54006, 54007, 54008, 54010, 54011, 54012, 54013, 82000, 82001, 82002, 82003, 82004, 82005, 82006, 82007, 82008, 83000, 83001, 83002, 83003, 83004, 83005, 83006, 83007, 83008, 84000, 84001, 84002, 84003, 84004, 84005, 84006, 84007, 84008, 112999, 113999] ty h ty hq250 := gSg.ss G0 sq250 (by decide)
                        exact gz_end (I := .ireturn) (len := 1) rfl (Or.inl rfl) ⟨ty, G689, zq250, cn, (hq250.2.2.2.1 dm : Int), rfl, (by omega), (by omega), s260, (by omega), (by omega), (by omega), (by omega), (by dsimp only; omega), (by dsimp only; omega), (by omega), hpc688⟩
                    · refine gy_icF rfl (by decide) (by decide) (by omega) (by omega) hc249 ?_
                      refine gy_s 3 (pc' := 146) (L' := [some (.ref x), some (.int (zi m)), some (.int (zi a)), some (.int (zi n)), some (.int (zi zq1)), some (.int (zi jn14v0)), some (.int (zi zq203)), some (.int (zi zq227)), none, none]) (S' := [.int ((zi a) + (zi 5))]) (L2 := [some (.ref x), some (.int (zi m)), some (.int (zi a)), some (.int (zi n)), some (.int (zi zq1)), some (.int (zi jn14v0)), some (.int (zi zq203)), some (.int (zi zq227)), none, none]) (S2 := [.int (zi (a + 5))]) rfl (by simp only [zi_add, zi_sub, zi_mul, zi_neg, zi_and1, zi_and7, zi_and15, zi_and31, zi_and255, Int.reduceAdd, Int.reduceMul, Int.reduceSub]) (by simp only [zi_add, zi_sub, zi_mul, zi_neg, zi_and1, zi_and7, zi_and15, zi_and31, zi_and255, Int.reduceAdd, Int.reduceMul, Int.reduceSub]) ?_
                      have k690 := sq227.2.1
                      have k690b := sq227.2.2.1
                      have hl691 : hq227.2.2.2.1 co = h.2.2.2.1 co := congrFun sq227.2.2.2.2.1 co
                      have hl692 : hq227.2.2.2.1 dm = h.2.2.2.1 dm := congrFun sq227.2.2.2.2.1 dm
                      have k693 := sq227.2.1
                      have k693b := sq227.2.2.1
                      have hl694 : hq227.2.2.2.1 co = h.2.2.2.1 co := congrFun sq227.2.2.2.2.1 co
                      have hl695 : hq227.2.2.2.1 dm = h.2.2.2.1 dm := congrFun sq227.2.2.2.2.1 dm
                      have hpc696 : gPC ty pic b0 b1 b2 (hq227.2.2.2.1 dm : Int) hq227 := gPC.zero sq227.1 tpic s230 tbn s231 tb0 s232 tb1 s233 tb2 s234 tco s235 tdm (by rw [(by omega : (0 : Int) = cn)]; exact s237) bl s238 (by omega) w s239 (by omega) (by omega) (by omega) (by omega) (by omega)
                      have G697 : gSg [112, 113] [] [54002, 54003, 54004, 54005, 54006, 54007, 54008, 54010, 54011, 54012, 54013, 82000, 82001, 82002, 82003, 82004, 82005, 82006, 82007, 82008, 83000, 83001, 83002, 83003, 83004, 83005, 83006, 83007, 83008, 84000, 84001, 84002, 84003, 84004, 84005, 84006, 84007, 84008, 112999, 113999] ty h ty hq227 := gSg.ss G0 sq227 (by decide)
                      exact gz_end (I := .ireturn) (len := 1) rfl (Or.inl rfl) ⟨ty, G697, a + 5, cn, (hq227.2.2.2.1 dm : Int), rfl, (by omega), (by omega), s237, (by omega), (by omega), (by omega), (by omega), (by dsimp only; omega), (by dsimp only; omega), (by omega), hpc696⟩
                · refine gy_icF rfl (by decide) (by decide) (by omega) (by omega) hc226 ?_
                  refine gy_s 3 (pc' := 117) (L' := [some (.ref x), some (.int (zi m)), some (.int (zi a)), some (.int (zi n)), some (.int (zi zq1)), some (.int (zi jn14v0)), some (.int (zi zq203)), none, none, none]) (S' := [.int ((zi a) + (zi 3))]) (L2 := [some (.ref x), some (.int (zi m)), some (.int (zi a)), some (.int (zi n)), some (.int (zi zq1)), some (.int (zi jn14v0)), some (.int (zi zq203)), none, none, none]) (S2 := [.int (zi (a + 3))]) rfl (by simp only [zi_add, zi_sub, zi_mul, zi_neg, zi_and1, zi_and7, zi_and15, zi_and31, zi_and255, Int.reduceAdd, Int.reduceMul, Int.reduceSub]) (by simp only [zi_add, zi_sub, zi_mul, zi_neg, zi_and1, zi_and7, zi_and15, zi_and31, zi_and255, Int.reduceAdd, Int.reduceMul, Int.reduceSub]) ?_
                  have k698 := sq203.2.1
                  have k698b := sq203.2.2.1
                  have hl699 : hq203.2.2.2.1 co = h.2.2.2.1 co := congrFun sq203.2.2.2.2.1 co
                  have hl700 : hq203.2.2.2.1 dm = h.2.2.2.1 dm := congrFun sq203.2.2.2.2.1 dm
                  have k701 := sq203.2.1
                  have k701b := sq203.2.2.1
                  have hl702 : hq203.2.2.2.1 co = h.2.2.2.1 co := congrFun sq203.2.2.2.2.1 co
                  have hl703 : hq203.2.2.2.1 dm = h.2.2.2.1 dm := congrFun sq203.2.2.2.2.1 dm
                  have hpc704 : gPC ty pic b0 b1 b2 (hq203.2.2.2.1 dm : Int) hq203 := gPC.zero sq203.1 tpic s206 tbn s207 tb0 s208 tb1 s209 tb2 s210 tco s211 tdm (by rw [(by omega : (0 : Int) = cn)]; exact s213) bl s214 (by omega) w s215 (by omega) (by omega) (by omega) (by omega) (by omega)
                  have G705 : gSg [112, 113] [] [54002, 54003, 54004, 54005, 54006, 54007, 54008, 54010, 54011, 54012, 54013, 82000, 82001, 82002, 82003, 82004, 82005, 82006, 82007, 82008, 83000, 83001, 83002, 83003, 83004, 83005, 83006, 83007, 83008, 84000, 84001, 84002, 84003, 84004, 84005, 84006, 84007, 84008, 112999, 113999] ty h ty hq203 := gSg.ss G0 sq203 (by decide)
                  exact gz_end (I := .ireturn) (len := 1) rfl (Or.inl rfl) ⟨ty, G705, a + 3, cn, (hq203.2.2.2.1 dm : Int), rfl, (by omega), (by omega), s213, (by omega), (by omega), (by omega), (by omega), (by dsimp only; omega), (by dsimp only; omega), (by omega), hpc704⟩
            · refine gy_ifF rfl (by decide) (by decide) (by omega) hc216 ?_
              refine gy_s 4 (pc' := 96) (L' := [some (.ref x), some (.int (zi m)), some (.int (zi a)), some (.int (zi n)), some (.int (zi zq1)), some (.int (zi jn14v0)), some (.int (zi zq203)), none, none, none]) (S' := [.int ((zi a) + (zi 5)), .ref x]) (L2 := [some (.ref x), some (.int (zi m)), some (.int (zi a)), some (.int (zi n)), some (.int (zi zq1)), some (.int (zi jn14v0)), some (.int (zi zq203)), none, none, none]) (S2 := [.int (zi (a + 5)), .ref x]) rfl (by simp only [zi_add, zi_sub, zi_mul, zi_neg, zi_and1, zi_and7, zi_and15, zi_and31, zi_and255, Int.reduceAdd, Int.reduceMul, Int.reduceSub]) (by simp only [zi_add, zi_sub, zi_mul, zi_neg, zi_and1, zi_and7, zi_and15, zi_and31, zi_and255, Int.reduceAdd, Int.reduceMul, Int.reduceSub]) ?_
              refine gz_call rfl (by decide) rfl (by decide) (by decide) (gcal_of rfl rfl rfl (Nat.le_of_ble_eq_true rfl) (gJ.recv (G := gGG) sq203.1 tx rfl rfl)) (cl_Reader_heightBehind _ sq203.1 x tx (a + 5) (by omega) src s204 tsrc sz s212 (by omega) uq) (fun q706 _ wq706 => ?_)
              obtain ⟨pq706, oq706, hq706⟩ := q706
              obtain ⟨xq706, zq706, gq706, aq706, bq706⟩ := wq706
              refine ⟨_, gq706, ?_⟩
              show gz gPP gGG gcn _ _ 99 [some (.ref x), some (.int (zi m)), some (.int (zi a)), some (.int (zi n)), some (.int (zi zq1)), some (.int (zi jn14v0)), some (.int (zi zq203)), none, none, none] [.int (zi zq706)] hq706 _
              have sq706 : gSs rT 1027 ty [54002, 54003, 54004, 54005, 54006, 54007, 54008, 54010, 54011, 54012, 54013, 82000, 82001, 82002, 82003, 82004, 82005, 82006, 82007, 82008, 83000, 83001, 83002, 83003, 83004, 83005, 83006, 83007, 83008, 84000, 84001, 84002, 84003, 84004, 84005, 84006, 84007, 84008, 112999, 113999] h hq706 := gSs.tr sq203 xq706 (by decide)
              have s707 := (xq706.2.2.2.2.2 x 0 (by rw [tx]; decide)).trans s204
              have s708 := (xq706.2.2.2.2.2 x 1 (by rw [tx]; decide)).trans s205
              have s709 := (xq706.2.2.2.2.2 pic 0 (by rw [tpic]; decide)).trans s206
              have s710 := (xq706.2.2.2.2.2 bn 0 (by rw [tbn]; decide)).trans s207
              have s711 := (xq706.2.2.2.2.2 bn 1 (by rw [tbn]; decide)).trans s208
              have s712 := (xq706.2.2.2.2.2 bn 2 (by rw [tbn]; decide)).trans s209
              have s713 := (xq706.2.2.2.2.2 pic 2 (by rw [tpic]; decide)).trans s210
              have s714 := (xq706.2.2.2.2.2 pic 3 (by rw [tpic]; decide)).trans s211
              have s715 := (xq706.2.2.2.2.2 src 1 (by rw [tsrc]; decide)).trans s212
              have s716 := (xq706.2.2.2.2.2 pic 7 (by rw [tpic]; decide)).trans s213
              have s717 := (xq706.2.2.2.2.2 pic 8 (by rw [tpic]; decide)).trans s214
              have s718 := (xq706.2.2.2.2.2 pic 5 (by rw [tpic]; decide)).trans s215
              refine gz_s 3 (pc' := 104) (L' := [some (.ref x), some (.int (zi m)), some (.int (zi a)), some (.int (zi n)), some (.int (zi zq1)), some (.int (zi jn14v0)), some (.int (zi zq706)), none, none, none]) (S' := [.int (zi 1), .int (zi zq706)]) rfl ?_
              by_cases hc719 : (zq706 : Int) < 1
              · refine gy_icT (pc' := 114) rfl (by decide) (by decide) (by omega) (by omega) hc719 ?_
                refine gy_s 3 (pc' := 117) (L' := [some (.ref x), some (.int (zi m)), some (.int (zi a)), some (.int (zi n)), some (.int (zi zq1)), some (.int (zi jn14v0)), some (.int (zi zq706)), none, none, none]) (S' := [.int ((zi a) + (zi 3))]) (L2 := [some (.ref x), some (.int (zi m)), some (.int (zi a)), some (.int (zi n)), some (.int (zi zq1)), some (.int (zi jn14v0)), some (.int (zi zq706)), none, none, none]) (S2 := [.int (zi (a + 3))]) rfl (by simp only [zi_add, zi_sub, zi_mul, zi_neg, zi_and1, zi_and7, zi_and15, zi_and31, zi_and255, Int.reduceAdd, Int.reduceMul, Int.reduceSub]) (by simp only [zi_add, zi_sub, zi_mul, zi_neg, zi_and1, zi_and7, zi_and15, zi_and31, zi_and255, Int.reduceAdd, Int.reduceMul, Int.reduceSub]) ?_
                have k720 := sq706.2.1
                have k720b := sq706.2.2.1
                have hl721 : hq706.2.2.2.1 co = h.2.2.2.1 co := congrFun sq706.2.2.2.2.1 co
                have hl722 : hq706.2.2.2.1 dm = h.2.2.2.1 dm := congrFun sq706.2.2.2.2.1 dm
                have k723 := sq706.2.1
                have k723b := sq706.2.2.1
                have hl724 : hq706.2.2.2.1 co = h.2.2.2.1 co := congrFun sq706.2.2.2.2.1 co
                have hl725 : hq706.2.2.2.1 dm = h.2.2.2.1 dm := congrFun sq706.2.2.2.2.1 dm
                have hpc726 : gPC ty pic b0 b1 b2 (hq706.2.2.2.1 dm : Int) hq706 := gPC.zero sq706.1 tpic s709 tbn s710 tb0 s711 tb1 s712 tb2 s713 tco s714 tdm (by rw [(by omega : (0 : Int) = cn)]; exact s716) bl s717 (by omega) w s718 (by omega) (by omega) (by omega) (by omega) (by omega)
                have G727 : gSg [112, 113] [] [54002, 54003, 54004, 54005, 54006, 54007, 54008, 54010, 54011, 54012, 54013, 82000, 82001, 82002, 82003, 82004, 82005, 82006, 82007, 82008, 83000, 83001, 83002, 83003, 83004, 83005, 83006, 83007, 83008, 84000, 84001, 84002, 84003, 84004, 84005, 84006, 84007, 84008, 112999, 113999] ty h ty hq706 := gSg.ss G0 sq706 (by decide)
                exact gz_end (I := .ireturn) (len := 1) rfl (Or.inl rfl) ⟨ty, G727, a + 3, cn, (hq706.2.2.2.1 dm : Int), rfl, (by omega), (by omega), s716, (by omega), (by omega), (by omega), (by omega), (by dsimp only; omega), (by dsimp only; omega), (by omega), hpc726⟩
              · refine gy_icF rfl (by decide) (by decide) (by omega) (by omega) hc719 ?_
                refine gz_s 2 (pc' := 111) (L' := [some (.ref x), some (.int (zi m)), some (.int (zi a)), some (.int (zi n)), some (.int (zi zq1)), some (.int (zi jn14v0)), some (.int (zi zq706)), none, none, none]) (S' := [.int (zi 64), .int (zi zq706)]) rfl ?_
                by_cases hc728 : (zq706 : Int) ≤ 64
                · refine gy_icT (pc' := 118) rfl (by decide) (by decide) (by omega) (by omega) hc728 ?_
                  refine gz_s 1 (pc' := 119) (L' := [some (.ref x), some (.int (zi m)), some (.int (zi a)), some (.int (zi n)), some (.int (zi zq1)), some (.int (zi jn14v0)), some (.int (zi zq706)), none, none, none]) (S' := [.ref x]) rfl ?_
                  refine gs_gtk rfl (by decide) rfl sq706.1 tx rfl rfl s707 ?_
                  refine gy_s 3 (pc' := 125) (L' := [some (.ref x), some (.int (zi m)), some (.int (zi a)), some (.int (zi n)), some (.int (zi zq1)), some (.int (zi jn14v0)), some (.int (zi zq706)), none, none, none]) (S' := [.int ((zi a) + (zi 5)), .ref src]) (L2 := [some (.ref x), some (.int (zi m)), some (.int (zi a)), some (.int (zi n)), some (.int (zi zq1)), some (.int (zi jn14v0)), some (.int (zi zq706)), none, none, none]) (S2 := [.int (zi (a + 5)), .ref src]) rfl (by simp only [zi_add, zi_sub, zi_mul, zi_neg, zi_and1, zi_and7, zi_and15, zi_and31, zi_and255, Int.reduceAdd, Int.reduceMul, Int.reduceSub]) (by simp only [zi_add, zi_sub, zi_mul, zi_neg, zi_and1, zi_and7, zi_and15, zi_and31, zi_and255, Int.reduceAdd, Int.reduceMul, Int.reduceSub]) ?_
                  refine gz_call rfl (by decide) rfl (by decide) (by decide) (gcal_of rfl rfl rfl (Nat.le_of_ble_eq_true rfl) (gJ.recv (G := gGG) sq706.1 tsrc rfl rfl)) (cl_Collected_twoAt _ sq706.1 src tsrc (a + 5) (by omega) sz s715 (by omega) uq) (fun q729 _ wq729 => ?_)
                  obtain ⟨pq729, oq729, hq729⟩ := q729
                  obtain ⟨xq729, zq729, gq729, aq729, bq729, uq729_0⟩ := wq729
                  refine ⟨_, gq729, ?_⟩
                  show gz gPP gGG gcn _ _ 128 [some (.ref x), some (.int (zi m)), some (.int (zi a)), some (.int (zi n)), some (.int (zi zq1)), some (.int (zi jn14v0)), some (.int (zi zq706)), none, none, none] [.int (zi zq729)] hq729 _
                  have sq729 : gSs rT 1027 ty [54002, 54003, 54004, 54005, 54006, 54007, 54008, 54010, 54011, 54012, 54013, 82000, 82001, 82002, 82003, 82004, 82005, 82006, 82007, 82008, 83000, 83001, 83002, 83003, 83004, 83005, 83006, 83007, 83008, 84000, 84001, 84002, 84003, 84004, 84005, 84006, 84007, 84008, 112999, 113999] h hq729 := gSs.tr sq706 xq729 (by decide)
                  have s730 := (xq729.2.2.2.2.2 x 0 (by rw [tx]; decide)).trans s707
                  have s731 := (xq729.2.2.2.2.2 x 1 (by rw [tx]; decide)).trans s708
                  have s732 := (xq729.2.2.2.2.2 pic 0 (by rw [tpic]; decide)).trans s709
                  have s733 := (xq729.2.2.2.2.2 bn 0 (by rw [tbn]; decide)).trans s710
                  have s734 := (xq729.2.2.2.2.2 bn 1 (by rw [tbn]; decide)).trans s711
                  have s735 := (xq729.2.2.2.2.2 bn 2 (by rw [tbn]; decide)).trans s712
                  have s736 := (xq729.2.2.2.2.2 pic 2 (by rw [tpic]; decide)).trans s713
                  have s737 := (xq729.2.2.2.2.2 pic 3 (by rw [tpic]; decide)).trans s714
                  have s738 := (xq729.2.2.2.2.2 src 1 (by rw [tsrc]; decide)).trans s715
                  have s739 := (xq729.2.2.2.2.2 pic 7 (by rw [tpic]; decide)).trans s716
                  have s740 := (xq729.2.2.2.2.2 pic 8 (by rw [tpic]; decide)).trans s717
                  have s741 := (xq729.2.2.2.2.2 pic 5 (by rw [tpic]; decide)).trans s718
                  refine gz_s 3 (pc' := 133) (L' := [some (.ref x), some (.int (zi m)), some (.int (zi a)), some (.int (zi n)), some (.int (zi zq1)), some (.int (zi jn14v0)), some (.int (zi zq706)), some (.int (zi zq729)), none, none]) (S' := [.int (zi 1), .int (zi zq729)]) rfl ?_
                  by_cases hc742 : (zq729 : Int) < 1
                  · refine gy_icT (pc' := 143) rfl (by decide) (by decide) (by omega) (by omega) hc742 ?_
                    refine gy_s 3 (pc' := 146) (L' := [some (.ref x), some (.int (zi m)), some (.int (zi a)), some (.int (zi n)), some (.int (zi zq1)), some (.int (zi jn14v0)), some (.int (zi zq706)), some (.int (zi zq729)), none, none]) (S' := [.int ((zi a) + (zi 5))]) (L2 := [some (.ref x), some (.int (zi m)), some (.int (zi a)), some (.int (zi n)), some (.int (zi zq1)), some (.int (zi jn14v0)), some (.int (zi zq706)), some (.int (zi zq729)), none, none]) (S2 := [.int (zi (a + 5))]) rfl (by simp only [zi_add, zi_sub, zi_mul, zi_neg, zi_and1, zi_and7, zi_and15, zi_and31, zi_and255, Int.reduceAdd, Int.reduceMul, Int.reduceSub]) (by simp only [zi_add, zi_sub, zi_mul, zi_neg, zi_and1, zi_and7, zi_and15, zi_and31, zi_and255, Int.reduceAdd, Int.reduceMul, Int.reduceSub]) ?_
                    have k743 := sq729.2.1
                    have k743b := sq729.2.2.1
                    have hl744 : hq729.2.2.2.1 co = h.2.2.2.1 co := congrFun sq729.2.2.2.2.1 co
                    have hl745 : hq729.2.2.2.1 dm = h.2.2.2.1 dm := congrFun sq729.2.2.2.2.1 dm
                    have k746 := sq729.2.1
                    have k746b := sq729.2.2.1
                    have hl747 : hq729.2.2.2.1 co = h.2.2.2.1 co := congrFun sq729.2.2.2.2.1 co
                    have hl748 : hq729.2.2.2.1 dm = h.2.2.2.1 dm := congrFun sq729.2.2.2.2.1 dm
                    have hpc749 : gPC ty pic b0 b1 b2 (hq729.2.2.2.1 dm : Int) hq729 := gPC.zero sq729.1 tpic s732 tbn s733 tb0 s734 tb1 s735 tb2 s736 tco s737 tdm (by rw [(by omega : (0 : Int) = cn)]; exact s739) bl s740 (by omega) w s741 (by omega) (by omega) (by omega) (by omega) (by omega)
                    have G750 : gSg [112, 113] [] [54002, 54003, 54004, 54005, 54006, 54007, 54008, 54010, 54011, 54012, 54013, 82000, 82001, 82002, 82003, 82004, 82005, 82006, 82007, 82008, 83000, 83001, 83002, 83003, 83004, 83005, 83006, 83007, 83008, 84000, 84001, 84002, 84003, 84004, 84005, 84006, 84007, 84008, 112999, 113999] ty h ty hq729 := gSg.ss G0 sq729 (by decide)
                    exact gz_end (I := .ireturn) (len := 1) rfl (Or.inl rfl) ⟨ty, G750, a + 5, cn, (hq729.2.2.2.1 dm : Int), rfl, (by omega), (by omega), s739, (by omega), (by omega), (by omega), (by omega), (by dsimp only; omega), (by dsimp only; omega), (by omega), hpc749⟩
                  · refine gy_icF rfl (by decide) (by decide) (by omega) (by omega) hc742 ?_
                    refine gz_s 2 (pc' := 140) (L' := [some (.ref x), some (.int (zi m)), some (.int (zi a)), some (.int (zi n)), some (.int (zi zq1)), some (.int (zi jn14v0)), some (.int (zi zq706)), some (.int (zi zq729)), none, none]) (S' := [.int (zi 64), .int (zi zq729)]) rfl ?_
                    by_cases hc751 : (zq729 : Int) ≤ 64
                    · refine gy_icT (pc' := 147) rfl (by decide) (by decide) (by omega) (by omega) hc751 ?_
                      refine gz_s 1 (pc' := 149) (L' := [some (.ref x), some (.int (zi m)), some (.int (zi a)), some (.int (zi n)), some (.int (zi zq1)), some (.int (zi jn14v0)), some (.int (zi zq706)), some (.int (zi zq729)), none, none]) (S' := [.int (zi jn14v0)]) rfl ?_
                      refine gy_ifT (pc' := 157) rfl (by decide) (by decide) (by omega) (by first | (simp [zc]; done) | (simp only [zc]; omega)) ?_
                      refine gz_s 4 (pc' := 164) (L' := [some (.ref x), some (.int (zi m)), some (.int (zi a)), some (.int (zi n)), some (.int (zi zq1)), some (.int (zi jn14v0)), some (.int (zi zq706)), some (.int (zi zq729)), some (.int (zi 0)), none]) (S' := [.int (zi zq1), .int (zi 0)]) rfl ?_
                      refine gy_icF rfl (by decide) (by decide) (by omega) (by omega) (by first | (simp [zc]; done) | (simp only [zc]; omega)) ?_
                      refine gy_s 9 (pc' := 179) (L' := [some (.ref x), some (.int (zi m)), some (.int (zi a)), some (.int (zi n)), some (.int (zi zq1)), some (.int (zi jn14v0)), some (.int (zi zq706)), some (.int (zi zq729)), some (.int (zi 0)), none]) (S' := [.int (((zi a) + (zi 8)) + ((zi 3) * (zi 0))), .int (zi 0), .ref x]) (L2 := [some (.ref x), some (.int (zi m)), some (.int (zi a)), some (.int (zi n)), some (.int (zi zq1)), some (.int (zi jn14v0)), some (.int (zi zq706)), some (.int (zi zq729)), some (.int (zi 0)), none]) (S2 := [.int (zi ((a + 8) + 0)), .int (zi 0), .ref x]) rfl (by simp only [zi_add, zi_sub, zi_mul, zi_neg, zi_and1, zi_and7, zi_and15, zi_and31, zi_and255, Int.reduceAdd, Int.reduceMul, Int.reduceSub]) (by simp only [zi_add, zi_sub, zi_mul, zi_neg, zi_and1, zi_and7, zi_and15, zi_and31, zi_and255, Int.reduceAdd, Int.reduceMul, Int.reduceSub]) ?_
                      refine gz_call rfl (by decide) rfl (by decide) (by decide) (gcal_of rfl rfl rfl (Nat.le_of_ble_eq_true rfl) (gJ.recv (G := gGG) sq729.1 tx rfl rfl)) (cl_readBand0 _ sq729.1 x tx 0 (by omega) ((a + 8) + 0) (by omega) src s730 tsrc pic s731 tpic bn s732 tbn b0 s733 tb0 sz s738 (by omega) uq) (fun q752 _ wq752 => ?_)
                      obtain ⟨pq752, oq752, hq752⟩ := q752
                      obtain ⟨xq752, zq752, fq752_0, fq752_1, fq752_2, gq752, aq752, bq752, efq752_0, afq752_0, bfq752_0, efq752_1, afq752_1, bfq752_1, efq752_2, afq752_2, bfq752_2, uq752_0⟩ := wq752
                      refine ⟨_, gq752, ?_⟩
                      show gz gPP gGG gcn _ _ 182 [some (.ref x), some (.int (zi m)), some (.int (zi a)), some (.int (zi n)), some (.int (zi zq1)), some (.int (zi jn14v0)), some (.int (zi zq706)), some (.int (zi zq729)), some (.int (zi 0)), none] [.int (zi zq752)] hq752 _
                      have sq752 : gSs rT 1027 ty [54002, 54003, 54004, 54005, 54006, 54007, 54008, 54010, 54011, 54012, 54013, 82000, 82001, 82002, 82003, 82004, 82005, 82006, 82007, 82008, 83000, 83001, 83002, 83003, 83004, 83005, 83006, 83007, 83008, 84000, 84001, 84002, 84003, 84004, 84005, 84006, 84007, 84008, 112999, 113999] h hq752 := gSs.tr sq729 xq752 (by decide)
                      have s753 := (xq752.2.2.2.2.2 x 0 (by rw [tx]; decide)).trans s730
                      have s754 := (xq752.2.2.2.2.2 x 1 (by rw [tx]; decide)).trans s731
                      have s755 := (xq752.2.2.2.2.2 pic 0 (by rw [tpic]; decide)).trans s732
                      have s756 := (xq752.2.2.2.2.2 bn 0 (by rw [tbn]; decide)).trans s733
                      have s757 := (xq752.2.2.2.2.2 bn 1 (by rw [tbn]; decide)).trans s734
                      have s758 := (xq752.2.2.2.2.2 bn 2 (by rw [tbn]; decide)).trans s735
                      have s759 := (xq752.2.2.2.2.2 pic 2 (by rw [tpic]; decide)).trans s736
                      have s760 := (xq752.2.2.2.2.2 pic 3 (by rw [tpic]; decide)).trans s737
                      have s761 := (xq752.2.2.2.2.2 src 1 (by rw [tsrc]; decide)).trans s738
                      have s762 := (xq752.2.2.2.2.2 pic 7 (by rw [tpic]; decide)).trans s739
                      have s763 := (xq752.2.2.2.2.2 pic 8 (by rw [tpic]; decide)).trans s740
                      have s764 := (xq752.2.2.2.2.2 pic 5 (by rw [tpic]; decide)).trans s741
                      refine gz_s 3 (pc' := 187) (L' := [some (.ref x), some (.int (zi m)), some (.int (zi a)), some (.int (zi n)), some (.int (zi zq1)), some (.int (zi jn14v0)), some (.int (zi zq706)), some (.int (zi zq729)), some (.int (zi 0)), some (.int (zi zq752))]) (S' := [.int (zi (-1)), .int (zi zq752)]) rfl ?_
                      by_cases hc765 : (zq752 : Int) = (-1)
                      · refine gy_icT (pc' := 193) rfl (by decide) (by decide) (by omega) (by omega) hc765 ?_
                        refine gy_s 4 (pc' := 164) (L' := [some (.ref x), some (.int (zi m)), some (.int (zi a)), some (.int (zi n)), some (.int (zi zq1)), some (.int (zi jn14v0)), some (.int (zi zq706)), some (.int (zi zq729)), some (.int ((zi 0) + zi 1)), some (.int (zi zq752))]) (S' := [.int (zi zq1), .int ((zi 0) + zi 1)]) (L2 := [some (.ref x), some (.int (zi m)), some (.int (zi a)), some (.int (zi n)), some (.int (zi zq1)), some (.int (zi jn14v0)), some (.int (zi zq706)), some (.int (zi zq729)), some (.int (zi 1)), some (.int (zi zq752))]) (S2 := [.int (zi zq1), .int (zi 1)]) rfl (by simp only [zi_add, zi_sub, zi_mul, zi_neg, zi_and1, zi_and7, zi_and15, zi_and31, zi_and255, Int.reduceAdd, Int.reduceMul, Int.reduceSub]) (by simp only [zi_add, zi_sub, zi_mul, zi_neg, zi_and1, zi_and7, zi_and15, zi_and31, zi_and255, Int.reduceAdd, Int.reduceMul, Int.reduceSub]) ?_
                        by_cases hc766 : (zq1 : Int) ≤ 1
                        · refine gy_icT (pc' := 199) rfl (by decide) (by decide) (by omega) (by omega) hc766 ?_
                          refine gz_s 1 (pc' := 200) (L' := [some (.ref x), some (.int (zi m)), some (.int (zi a)), some (.int (zi n)), some (.int (zi zq1)), some (.int (zi jn14v0)), some (.int (zi zq706)), some (.int (zi zq729)), some (.int (zi 1)), some (.int (zi zq752))]) (S' := [.ref x]) rfl ?_
                          refine gs_gtk rfl (by decide) rfl sq752.1 tx rfl rfl s754 ?_
                          refine gz_s 2 (pc' := 207) (L' := [some (.ref x), some (.int (zi m)), some (.int (zi a)), some (.int (zi n)), some (.int (zi zq1)), some (.int (zi jn14v0)), some (.int (zi zq706)), some (.int (zi zq729)), some (.int (zi 1)), some (.int (zi zq752))]) (S' := [.int (zi 194), .int (zi m), .ref pic]) rfl ?_
                          by_cases hc767 : ¬ (m : Int) = 194
                          · refine gy_icT (pc' := 214) rfl (by decide) (by decide) (by omega) (by omega) hc767 ?_
                            refine gz_s 1 (pc' := 215) (L' := [some (.ref x), some (.int (zi m)), some (.int (zi a)), some (.int (zi n)), some (.int (zi zq1)), some (.int (zi jn14v0)), some (.int (zi zq706)), some (.int (zi zq729)), some (.int (zi 1)), some (.int (zi zq752))]) (S' := [.int (zi 0), .ref pic]) rfl ?_
                            refine gs_put rfl (by decide) rfl sq752 tpic rfl rfl rfl rfl (Or.inl rfl) (by decide) (by omega) (by omega) (fun h768 sh768 eh768 fh768 => ?_)
                            have s769 := (fh768 x 0 (fun q => absurd q.2 (by decide))).trans s753
                            have s770 := (fh768 x 1 (fun q => absurd q.2 (by decide))).trans s754
                            have s771 := (fh768 pic 0 (fun q => absurd q.2 (by decide))).trans s755
                            have s772 := (fh768 bn 0 (fun q => absurd (((tbn).symm.trans (congrArg ty q.1)).trans tpic) (by decide))).trans s756
                            have s773 := (fh768 bn 1 (fun q => absurd (((tbn).symm.trans (congrArg ty q.1)).trans tpic) (by decide))).trans s757
                            have s774 := (fh768 bn 2 (fun q => absurd (((tbn).symm.trans (congrArg ty q.1)).trans tpic) (by decide))).trans s758
                            have s775 := (fh768 pic 2 (fun q => absurd q.2 (by decide))).trans s759
                            have s776 := (fh768 pic 3 (fun q => absurd q.2 (by decide))).trans s760
                            have s777 := (fh768 src 1 (fun q => absurd q.2 (by decide))).trans s761
                            have s778 := (fh768 pic 7 (fun q => absurd q.2 (by decide))).trans s762
                            have s779 := (fh768 pic 8 (fun q => absurd q.2 (by decide))).trans s763
                            have s780 := (fh768 pic 5 (fun q => absurd q.2 (by decide))).trans s764
                            have s781 := (fh768 b0 1 (fun q => absurd q.2 (by decide))).trans efq752_0
                            have s782 := (fh768 b0 2 (fun q => absurd q.2 (by decide))).trans efq752_1
                            have s783 := (fh768 b0 3 (fun q => absurd q.2 (by decide))).trans efq752_2
                            refine gz_s 1 (pc' := 219) (L' := [some (.ref x), some (.int (zi m)), some (.int (zi a)), some (.int (zi n)), some (.int (zi zq1)), some (.int (zi jn14v0)), some (.int (zi zq706)), some (.int (zi zq729)), some (.int (zi 1)), some (.int (zi zq752))]) (S' := [.ref x]) rfl ?_
                            refine gs_gtk rfl (by decide) rfl sh768.1 tx rfl rfl s770 ?_
                            refine gz_s 3 (pc' := 228) (L' := [some (.ref x), some (.int (zi m)), some (.int (zi a)), some (.int (zi n)), some (.int (zi zq1)), some (.int (zi jn14v0)), some (.int (zi zq706)), some (.int (zi zq729)), some (.int (zi 1)), some (.int (zi zq752))]) (S' := [.int (zi zq1), .int (zi zq706), .int (zi zq729), .ref pic]) rfl ?_
                            have k784 := sh768.2.1
                            have k784b := sh768.2.2.1
                            have hl785 : h768.2.2.2.1 co = h.2.2.2.1 co := congrFun sh768.2.2.2.2.1 co
                            have hl786 : h768.2.2.2.1 dm = h.2.2.2.1 dm := congrFun sh768.2.2.2.2.1 dm
                            have hl787 : h768.2.2.2.1 co = h.2.2.2.1 co := congrFun sh768.2.2.2.2.1 co
                            have hl788 : h768.2.2.2.1 dm = h.2.2.2.1 dm := congrFun sh768.2.2.2.2.1 dm
                            obtain ⟨z789, ez789, az789, bz789⟩ := gJ.int (k := 1) (G := gGG) sh768.1 tb1 rfl rfl rfl
                            obtain ⟨z790, ez790, az790, bz790⟩ := gJ.int (k := 2) (G := gGG) sh768.1 tb1 rfl rfl rfl
                            obtain ⟨z791, ez791, az791, bz791⟩ := gJ.int (k := 3) (G := gGG) sh768.1 tb1 rfl rfl rfl
                            obtain ⟨z792, ez792, az792, bz792⟩ := gJ.int (k := 1) (G := gGG) sh768.1 tb2 rfl rfl rfl
                            obtain ⟨z793, ez793, az793, bz793⟩ := gJ.int (k := 2) (G := gGG) sh768.1 tb2 rfl rfl rfl
                            obtain ⟨z794, ez794, az794, bz794⟩ := gJ.int (k := 3) (G := gGG) sh768.1 tb2 rfl rfl rfl
                            refine gz_call rfl (by decide) rfl (by decide) (by decide) (gcal_of rfl rfl rfl (Nat.le_of_ble_eq_true rfl) (gJ.recv (G := gGG) sh768.1 tpic rfl rfl)) (cl_Picture_begin _ sh768.1 pic tpic zq729 (by omega) zq706 (by omega) zq1 (by omega) bn s771 tbn b0 s772 tb0 b1 s773 tb1 b2 s774 tb2 co s775 tco dm s776 tdm fq752_0 s781 (by omega) fq752_1 s782 (by omega) fq752_2 s783 (by omega) z789 ez789 (by omega) z790 ez790 (by omega) z791 ez791 (by omega) z792 ez792 (by omega) z793 ez793 (by omega) z794 ez794 (by omega) (by omega) (by omega) (by omega) (by omega) (by omega) uq) (fun q795 _ wq795 => ?_)
                            obtain ⟨pq795, oq795, hq795⟩ := q795
                            obtain ⟨tyq795, xq795, fq795_0, xq795_0, gq795, efq795_0, afq795_0, bfq795_0, axq795_0, bxq795_0, uq795_0, uq795_1, uq795_2, uq795_3, yq795_0⟩ := wq795
                            dsimp only at uq795_1 uq795_2
                            refine ⟨_, gq795, ?_⟩
                            show gz gPP gGG gcn _ _ 231 [some (.ref x), some (.int (zi m)), some (.int (zi a)), some (.int (zi n)), some (.int (zi zq1)), some (.int (zi jn14v0)), some (.int (zi zq706)), some (.int (zi zq729)), some (.int (zi 1)), some (.int (zi zq752))] [] hq795 _
                            have G796 : gSg [112, 113] [] [54002, 54003, 54004, 54005, 54006, 54007, 54008, 54010, 54011, 54012, 54013, 82000, 82001, 82002, 82003, 82004, 82005, 82006, 82007, 82008, 83000, 83001, 83002, 83003, 83004, 83005, 83006, 83007, 83008, 84000, 84001, 84002, 84003, 84004, 84005, 84006, 84007, 84008, 112999, 113999] ty h tyq795 hq795 := gSg.tr (gSg.ss G0 sh768 (by decide)) xq795 (by decide) (by decide) (fun x hx => by cases hx)
                            have t797 : tyq795 x = 65 := gSg.typ xq795 sh768.1 tx rfl
                            have t798 : tyq795 src = 51 := gSg.typ xq795 sh768.1 tsrc rfl
                            have t799 : tyq795 pic = 54 := gSg.typ xq795 sh768.1 tpic rfl
                            have t800 : tyq795 bn = 57 := gSg.typ xq795 sh768.1 tbn rfl
                            have t801 : tyq795 b0 = 82 := gSg.typ xq795 sh768.1 tb0 rfl
                            have t802 : tyq795 b1 = 83 := gSg.typ xq795 sh768.1 tb1 rfl
                            have t803 : tyq795 b2 = 84 := gSg.typ xq795 sh768.1 tb2 rfl
                            have t804 : tyq795 co = 112 := gSg.typ xq795 sh768.1 tco rfl
                            have hl805 : hq795.2.2.2.1 co = h768.2.2.2.1 co := gSg.len xq795 sh768.1 tco rfl
                            have t806 : tyq795 dm = 113 := gSg.typ xq795 sh768.1 tdm rfl
                            have hl807 : hq795.2.2.2.1 dm = h768.2.2.2.1 dm := gSg.len xq795 sh768.1 tdm rfl
                            have s808 := gSg.at xq795 sh768.1 tx rfl (by decide) s769
                            have s809 := gSg.at xq795 sh768.1 tx rfl (by decide) s770
                            have s810 := gSg.at xq795 sh768.1 tpic rfl (by decide) s771
                            have s811 := gSg.at xq795 sh768.1 tbn rfl (by decide) s772
                            have s812 := gSg.at xq795 sh768.1 tbn rfl (by decide) s773
                            have s813 := gSg.at xq795 sh768.1 tbn rfl (by decide) s774
                            have s814 := gSg.at xq795 sh768.1 tsrc rfl (by decide) s777
                            have s815 := gSg.at xq795 sh768.1 tb0 rfl (by decide) s781
                            have s816 := gSg.at xq795 sh768.1 tb0 rfl (by decide) s782
                            have s817 := gSg.at xq795 sh768.1 tb0 rfl (by decide) s783
                            have s818 := gSg.at xq795 sh768.1 tpic rfl (by decide) eh768
                            have s819 := gSg.at xq795 sh768.1 tb1 rfl (by decide) ez789
                            have s820 := gSg.at xq795 sh768.1 tb1 rfl (by decide) ez790
                            have s821 := gSg.at xq795 sh768.1 tb1 rfl (by decide) ez791
                            have s822 := gSg.at xq795 sh768.1 tb2 rfl (by decide) ez792
                            have s823 := gSg.at xq795 sh768.1 tb2 rfl (by decide) ez793
                            have s824 := gSg.at xq795 sh768.1 tb2 rfl (by decide) ez794
                            have uq825 := gSg.uq xq795 uq (by decide)
                            have sS826 : gSs rT 1027 tyq795 [54002, 54003, 54004, 54005, 54006, 54007, 54008, 54010, 54011, 54012, 54013, 82000, 82001, 82002, 82003, 82004, 82005, 82006, 82007, 82008, 83000, 83001, 83002, 83003, 83004, 83005, 83006, 83007, 83008, 84000, 84001, 84002, 84003, 84004, 84005, 84006, 84007, 84008, 112999, 113999] hq795 hq795 := gSs.rf xq795.1
                            refine gz_s 1 (pc' := 232) (L' := [some (.ref x), some (.int (zi m)), some (.int (zi a)), some (.int (zi n)), some (.int (zi zq1)), some (.int (zi jn14v0)), some (.int (zi zq706)), some (.int (zi zq729)), some (.int (zi 1)), some (.int (zi zq752))]) (S' := [.int (zi (-1))]) rfl ?_
                            have G827 : gSg [112, 113] [] [54002, 54003, 54004, 54005, 54006, 54007, 54008, 54010, 54011, 54012, 54013, 82000, 82001, 82002, 82003, 82004, 82005, 82006, 82007, 82008, 83000, 83001, 83002, 83003, 83004, 83005, 83006, 83007, 83008, 84000, 84001, 84002, 84003, 84004, 84005, 84006, 84007, 84008, 112999, 113999] ty h tyq795 hq795 := gSg.ss G796 sS826 (by decide)
                            exact gz_end (I := .ireturn) (len := 1) rfl (Or.inl rfl) ⟨tyq795, G827, (-1), fq795_0, xq795_0, rfl, (by omega), (by omega), efq795_0, (by omega), (by omega), (by omega), (by omega), (by dsimp only; omega), (by dsimp only; omega), (by omega), yq795_0⟩
                          · refine gy_icF rfl (by decide) (by decide) (by omega) (by omega) hc767 ?_
                            refine gz_s 2 (pc' := 215) (L' := [some (.ref x), some (.int (zi m)), some (.int (zi a)), some (.int (zi n)), some (.int (zi zq1)), some (.int (zi jn14v0)), some (.int (zi zq706)), some (.int (zi zq729)), some (.int (zi 1)), some (.int (zi zq752))]) (S' := [.int (zi 1), .ref pic]) rfl ?_
                            refine gs_put rfl (by decide) rfl sq752 tpic rfl rfl rfl rfl (Or.inl rfl) (by decide) (by omega) (by omega) (fun h828 sh828 eh828 fh828 => ?_)
                            have s829 := (fh828 x 0 (fun q => absurd q.2 (by decide))).trans s753
                            have s830 := (fh828 x 1 (fun q => absurd q.2 (by decide))).trans s754
                            have s831 := (fh828 pic 0 (fun q => absurd q.2 (by decide))).trans s755
                            have s832 := (fh828 bn 0 (fun q => absurd (((tbn).symm.trans (congrArg ty q.1)).trans tpic) (by decide))).trans s756
                            have s833 := (fh828 bn 1 (fun q => absurd (((tbn).symm.trans (congrArg ty q.1)).trans tpic) (by decide))).trans s757
                            have s834 := (fh828 bn 2 (fun q => absurd (((tbn).symm.trans (congrArg ty q.1)).trans tpic) (by decide))).trans s758
                            have s835 := (fh828 pic 2 (fun q => absurd q.2 (by decide))).trans s759
                            have s836 := (fh828 pic 3 (fun q => absurd q.2 (by decide))).trans s760
                            have s837 := (fh828 src 1 (fun q => absurd q.2 (by decide))).trans s761
                            have s838 := (fh828 pic 7 (fun q => absurd q.2 (by decide))).trans s762
                            have s839 := (fh828 pic 8 (fun q => absurd q.2 (by decide))).trans s763
                            have s840 := (fh828 pic 5 (fun q => absurd q.2 (by decide))).trans s764
                            have s841 := (fh828 b0 1 (fun q => absurd q.2 (by decide))).trans efq752_0
                            have s842 := (fh828 b0 2 (fun q => absurd q.2 (by decide))).trans efq752_1
                            have s843 := (fh828 b0 3 (fun q => absurd q.2 (by decide))).trans efq752_2
                            refine gz_s 1 (pc' := 219) (L' := [some (.ref x), some (.int (zi m)), some (.int (zi a)), some (.int (zi n)), some (.int (zi zq1)), some (.int (zi jn14v0)), some (.int (zi zq706)), some (.int (zi zq729)), some (.int (zi 1)), some (.int (zi zq752))]) (S' := [.ref x]) rfl ?_
                            refine gs_gtk rfl (by decide) rfl sh828.1 tx rfl rfl s830 ?_
                            refine gz_s 3 (pc' := 228) (L' := [some (.ref x), some (.int (zi m)), some (.int (zi a)), some (.int (zi n)), some (.int (zi zq1)), some (.int (zi jn14v0)), some (.int (zi zq706)), some (.int (zi zq729)), some (.int (zi 1)), some (.int (zi zq752))]) (S' := [.int (zi zq1), .int (zi zq706), .int (zi zq729), .ref pic]) rfl ?_
                            have k844 := sh828.2.1
                            have k844b := sh828.2.2.1
                            have hl845 : h828.2.2.2.1 co = h.2.2.2.1 co := congrFun sh828.2.2.2.2.1 co
                            have hl846 : h828.2.2.2.1 dm = h.2.2.2.1 dm := congrFun sh828.2.2.2.2.1 dm
                            have hl847 : h828.2.2.2.1 co = h.2.2.2.1 co := congrFun sh828.2.2.2.2.1 co
                            have hl848 : h828.2.2.2.1 dm = h.2.2.2.1 dm := congrFun sh828.2.2.2.2.1 dm
                            obtain ⟨z849, ez849, az849, bz849⟩ := gJ.int (k := 1) (G := gGG) sh828.1 tb1 rfl rfl rfl
                            obtain ⟨z850, ez850, az850, bz850⟩ := gJ.int (k := 2) (G := gGG) sh828.1 tb1 rfl rfl rfl
                            obtain ⟨z851, ez851, az851, bz851⟩ := gJ.int (k := 3) (G := gGG) sh828.1 tb1 rfl rfl rfl
                            obtain ⟨z852, ez852, az852, bz852⟩ := gJ.int (k := 1) (G := gGG) sh828.1 tb2 rfl rfl rfl
                            obtain ⟨z853, ez853, az853, bz853⟩ := gJ.int (k := 2) (G := gGG) sh828.1 tb2 rfl rfl rfl
                            obtain ⟨z854, ez854, az854, bz854⟩ := gJ.int (k := 3) (G := gGG) sh828.1 tb2 rfl rfl rfl
                            refine gz_call rfl (by decide) rfl (by decide) (by decide) (gcal_of rfl rfl rfl (Nat.le_of_ble_eq_true rfl) (gJ.recv (G := gGG) sh828.1 tpic rfl rfl)) (cl_Picture_begin _ sh828.1 pic tpic zq729 (by omega) zq706 (by omega) zq1 (by omega) bn s831 tbn b0 s832 tb0 b1 s833 tb1 b2 s834 tb2 co s835 tco dm s836 tdm fq752_0 s841 (by omega) fq752_1 s842 (by omega) fq752_2 s843 (by omega) z849 ez849 (by omega) z850 ez850 (by omega) z851 ez851 (by omega) z852 ez852 (by omega) z853 ez853 (by omega) z854 ez854 (by omega) (by omega) (by omega) (by omega) (by omega) (by omega) uq) (fun q855 _ wq855 => ?_)
                            obtain ⟨pq855, oq855, hq855⟩ := q855
                            obtain ⟨tyq855, xq855, fq855_0, xq855_0, gq855, efq855_0, afq855_0, bfq855_0, axq855_0, bxq855_0, uq855_0, uq855_1, uq855_2, uq855_3, yq855_0⟩ := wq855
                            dsimp only at uq855_1 uq855_2
                            refine ⟨_, gq855, ?_⟩
                            show gz gPP gGG gcn _ _ 231 [some (.ref x), some (.int (zi m)), some (.int (zi a)), some (.int (zi n)), some (.int (zi zq1)), some (.int (zi jn14v0)), some (.int (zi zq706)), some (.int (zi zq729)), some (.int (zi 1)), some (.int (zi zq752))] [] hq855 _
                            have G856 : gSg [112, 113] [] [54002, 54003, 54004, 54005, 54006, 54007, 54008, 54010, 54011, 54012, 54013, 82000, 82001, 82002, 82003, 82004, 82005, 82006, 82007, 82008, 83000, 83001, 83002, 83003, 83004, 83005, 83006, 83007, 83008, 84000, 84001, 84002, 84003, 84004, 84005, 84006, 84007, 84008, 112999, 113999] ty h tyq855 hq855 := gSg.tr (gSg.ss G0 sh828 (by decide)) xq855 (by decide) (by decide) (fun x hx => by cases hx)
                            have t857 : tyq855 x = 65 := gSg.typ xq855 sh828.1 tx rfl
                            have t858 : tyq855 src = 51 := gSg.typ xq855 sh828.1 tsrc rfl
                            have t859 : tyq855 pic = 54 := gSg.typ xq855 sh828.1 tpic rfl
                            have t860 : tyq855 bn = 57 := gSg.typ xq855 sh828.1 tbn rfl
                            have t861 : tyq855 b0 = 82 := gSg.typ xq855 sh828.1 tb0 rfl
                            have t862 : tyq855 b1 = 83 := gSg.typ xq855 sh828.1 tb1 rfl
                            have t863 : tyq855 b2 = 84 := gSg.typ xq855 sh828.1 tb2 rfl
                            have t864 : tyq855 co = 112 := gSg.typ xq855 sh828.1 tco rfl
                            have hl865 : hq855.2.2.2.1 co = h828.2.2.2.1 co := gSg.len xq855 sh828.1 tco rfl
                            have t866 : tyq855 dm = 113 := gSg.typ xq855 sh828.1 tdm rfl
                            have hl867 : hq855.2.2.2.1 dm = h828.2.2.2.1 dm := gSg.len xq855 sh828.1 tdm rfl
                            have s868 := gSg.at xq855 sh828.1 tx rfl (by decide) s829
                            have s869 := gSg.at xq855 sh828.1 tx rfl (by decide) s830
                            have s870 := gSg.at xq855 sh828.1 tpic rfl (by decide) s831
                            have s871 := gSg.at xq855 sh828.1 tbn rfl (by decide) s832
                            have s872 := gSg.at xq855 sh828.1 tbn rfl (by decide) s833
                            have s873 := gSg.at xq855 sh828.1 tbn rfl (by decide) s834
                            have s874 := gSg.at xq855 sh828.1 tsrc rfl (by decide) s837
                            have s875 := gSg.at xq855 sh828.1 tb0 rfl (by decide) s841
                            have s876 := gSg.at xq855 sh828.1 tb0 rfl (by decide) s842
                            have s877 := gSg.at xq855 sh828.1 tb0 rfl (by decide) s843
                            have s878 := gSg.at xq855 sh828.1 tpic rfl (by decide) eh828
                            have s879 := gSg.at xq855 sh828.1 tb1 rfl (by decide) ez849
                            have s880 := gSg.at xq855 sh828.1 tb1 rfl (by decide) ez850
                            have s881 := gSg.at xq855 sh828.1 tb1 rfl (by decide) ez851
                            have s882 := gSg.at xq855 sh828.1 tb2 rfl (by decide) ez852
                            have s883 := gSg.at xq855 sh828.1 tb2 rfl (by decide) ez853
                            have s884 := gSg.at xq855 sh828.1 tb2 rfl (by decide) ez854
                            have uq885 := gSg.uq xq855 uq (by decide)
                            have sS886 : gSs rT 1027 tyq855 [54002, 54003, 54004, 54005, 54006, 54007, 54008, 54010, 54011, 54012, 54013, 82000, 82001, 82002, 82003, 82004, 82005, 82006, 82007, 82008, 83000, 83001, 83002, 83003, 83004, 83005, 83006, 83007, 83008, 84000, 84001, 84002, 84003, 84004, 84005, 84006, 84007, 84008, 112999, 113999] hq855 hq855 := gSs.rf xq855.1
                            refine gz_s 1 (pc' := 232) (L' := [some (.ref x), some (.int (zi m)), some (.int (zi a)), some (.int (zi n)), some (.int (zi zq1)), some (.int (zi jn14v0)), some (.int (zi zq706)), some (.int (zi zq729)), some (.int (zi 1)), some (.int (zi zq752))]) (S' := [.int (zi (-1))]) rfl ?_
                            have G887 : gSg [112, 113] [] [54002, 54003, 54004, 54005, 54006, 54007, 54008, 54010, 54011, 54012, 54013, 82000, 82001, 82002, 82003, 82004, 82005, 82006, 82007, 82008, 83000, 83001, 83002, 83003, 83004, 83005, 83006, 83007, 83008, 84000, 84001, 84002, 84003, 84004, 84005, 84006, 84007, 84008, 112999, 113999] ty h tyq855 hq855 := gSg.ss G856 sS886 (by decide)
                            exact gz_end (I := .ireturn) (len := 1) rfl (Or.inl rfl) ⟨tyq855, G887, (-1), fq855_0, xq855_0, rfl, (by omega), (by omega), efq855_0, (by omega), (by omega), (by omega), (by omega), (by dsimp only; omega), (by dsimp only; omega), (by omega), yq855_0⟩
                        · refine gy_icF rfl (by decide) (by decide) (by omega) (by omega) hc766 ?_
                          refine gy_s 9 (pc' := 179) (L' := [some (.ref x), some (.int (zi m)), some (.int (zi a)), some (.int (zi n)), some (.int (zi zq1)), some (.int (zi jn14v0)), some (.int (zi zq706)), some (.int (zi zq729)), some (.int (zi 1)), some (.int (zi zq752))]) (S' := [.int (((zi a) + (zi 8)) + ((zi 3) * (zi 1))), .int (zi 1), .ref x]) (L2 := [some (.ref x), some (.int (zi m)), some (.int (zi a)), some (.int (zi n)), some (.int (zi zq1)), some (.int (zi jn14v0)), some (.int (zi zq706)), some (.int (zi zq729)), some (.int (zi 1)), some (.int (zi zq752))]) (S2 := [.int (zi ((a + 8) + 3)), .int (zi 1), .ref x]) rfl (by simp only [zi_add, zi_sub, zi_mul, zi_neg, zi_and1, zi_and7, zi_and15, zi_and31, zi_and255, Int.reduceAdd, Int.reduceMul, Int.reduceSub]) (by simp only [zi_add, zi_sub, zi_mul, zi_neg, zi_and1, zi_and7, zi_and15, zi_and31, zi_and255, Int.reduceAdd, Int.reduceMul, Int.reduceSub]) ?_
                          refine gz_call rfl (by decide) rfl (by decide) (by decide) (gcal_of rfl rfl rfl (Nat.le_of_ble_eq_true rfl) (gJ.recv (G := gGG) sq752.1 tx rfl rfl)) (cl_readBand1 _ sq752.1 x tx 1 (by omega) ((a + 8) + 3) (by omega) src s753 tsrc pic s754 tpic bn s755 tbn b0 s756 tb0 b1 s757 tb1 sz s761 (by omega) uq) (fun q888 _ wq888 => ?_)
                          obtain ⟨pq888, oq888, hq888⟩ := q888
                          obtain ⟨xq888, zq888, fq888_0, fq888_1, fq888_2, gq888, aq888, bq888, efq888_0, afq888_0, bfq888_0, efq888_1, afq888_1, bfq888_1, efq888_2, afq888_2, bfq888_2, uq888_0⟩ := wq888
                          refine ⟨_, gq888, ?_⟩
                          show gz gPP gGG gcn _ _ 182 [some (.ref x), some (.int (zi m)), some (.int (zi a)), some (.int (zi n)), some (.int (zi zq1)), some (.int (zi jn14v0)), some (.int (zi zq706)), some (.int (zi zq729)), some (.int (zi 1)), some (.int (zi zq752))] [.int (zi zq888)] hq888 _
                          have sq888 : gSs rT 1027 ty [54002, 54003, 54004, 54005, 54006, 54007, 54008, 54010, 54011, 54012, 54013, 82000, 82001, 82002, 82003, 82004, 82005, 82006, 82007, 82008, 83000, 83001, 83002, 83003, 83004, 83005, 83006, 83007, 83008, 84000, 84001, 84002, 84003, 84004, 84005, 84006, 84007, 84008, 112999, 113999] h hq888 := gSs.tr sq752 xq888 (by decide)
                          have s889 := (xq888.2.2.2.2.2 x 0 (by rw [tx]; decide)).trans s753
                          have s890 := (xq888.2.2.2.2.2 x 1 (by rw [tx]; decide)).trans s754
                          have s891 := (xq888.2.2.2.2.2 pic 0 (by rw [tpic]; decide)).trans s755
                          have s892 := (xq888.2.2.2.2.2 bn 0 (by rw [tbn]; decide)).trans s756
                          have s893 := (xq888.2.2.2.2.2 bn 1 (by rw [tbn]; decide)).trans s757
                          have s894 := (xq888.2.2.2.2.2 bn 2 (by rw [tbn]; decide)).trans s758
                          have s895 := (xq888.2.2.2.2.2 pic 2 (by rw [tpic]; decide)).trans s759
                          have s896 := (xq888.2.2.2.2.2 pic 3 (by rw [tpic]; decide)).trans s760
                          have s897 := (xq888.2.2.2.2.2 src 1 (by rw [tsrc]; decide)).trans s761
                          have s898 := (xq888.2.2.2.2.2 pic 7 (by rw [tpic]; decide)).trans s762
                          have s899 := (xq888.2.2.2.2.2 pic 8 (by rw [tpic]; decide)).trans s763
                          have s900 := (xq888.2.2.2.2.2 pic 5 (by rw [tpic]; decide)).trans s764
                          have s901 := (xq888.2.2.2.2.2 b0 1 (by rw [tb0]; decide)).trans efq752_0
                          have s902 := (xq888.2.2.2.2.2 b0 2 (by rw [tb0]; decide)).trans efq752_1
                          have s903 := (xq888.2.2.2.2.2 b0 3 (by rw [tb0]; decide)).trans efq752_2
                          refine gz_s 3 (pc' := 187) (L' := [some (.ref x), some (.int (zi m)), some (.int (zi a)), some (.int (zi n)), some (.int (zi zq1)), some (.int (zi jn14v0)), some (.int (zi zq706)), some (.int (zi zq729)), some (.int (zi 1)), some (.int (zi zq888))]) (S' := [.int (zi (-1)), .int (zi zq888)]) rfl ?_
                          by_cases hc904 : (zq888 : Int) = (-1)
                          · refine gy_icT (pc' := 193) rfl (by decide) (by decide) (by omega) (by omega) hc904 ?_
                            refine gy_s 4 (pc' := 164) (L' := [some (.ref x), some (.int (zi m)), some (.int (zi a)), some (.int (zi n)), some (.int (zi zq1)), some (.int (zi jn14v0)), some (.int (zi zq706)), some (.int (zi zq729)), some (.int ((zi 1) + zi 1)), some (.int (zi zq888))]) (S' := [.int (zi zq1), .int ((zi 1) + zi 1)]) (L2 := [some (.ref x), some (.int (zi m)), some (.int (zi a)), some (.int (zi n)), some (.int (zi zq1)), some (.int (zi jn14v0)), some (.int (zi zq706)), some (.int (zi zq729)), some (.int (zi 2)), some (.int (zi zq888))]) (S2 := [.int (zi zq1), .int (zi 2)]) rfl (by simp only [zi_add, zi_sub, zi_mul, zi_neg, zi_and1, zi_and7, zi_and15, zi_and31, zi_and255, Int.reduceAdd, Int.reduceMul, Int.reduceSub]) (by simp only [zi_add, zi_sub, zi_mul, zi_neg, zi_and1, zi_and7, zi_and15, zi_and31, zi_and255, Int.reduceAdd, Int.reduceMul, Int.reduceSub]) ?_
                            by_cases hc905 : (zq1 : Int) ≤ 2
                            · refine gy_icT (pc' := 199) rfl (by decide) (by decide) (by omega) (by omega) hc905 ?_
                              refine gz_s 1 (pc' := 200) (L' := [some (.ref x), some (.int (zi m)), some (.int (zi a)), some (.int (zi n)), some (.int (zi zq1)), some (.int (zi jn14v0)), some (.int (zi zq706)), some (.int (zi zq729)), some (.int (zi 2)), some (.int (zi zq888))]) (S' := [.ref x]) rfl ?_
                              refine gs_gtk rfl (by decide) rfl sq888.1 tx rfl rfl s890 ?_
                              refine gz_s 2 (pc' := 207) (L' := [some (.ref x), some (.int (zi m)), some (.int (zi a)), some (.int (zi n)), some (.int (zi zq1)), some (.int (zi jn14v0)), some (.int (zi zq706)), some (.int (zi zq729)), some (.int (zi 2)), some (.int (zi zq888))]) (S' := [.int (zi 194), .int (zi m), .ref pic]) rfl ?_
                              by_cases hc906 : ¬ (m : Int) = 194
                              · refine gy_icT (pc' := 214) rfl (by decide) (by decide) (by omega) (by omega) hc906 ?_
                                refine gz_s 1 (pc' := 215) (L' := [some (.ref x), some (.int (zi m)), some (.int (zi a)), some (.int (zi n)), some (.int (zi zq1)), some (.int (zi jn14v0)), some (.int (zi zq706)), some (.int (zi zq729)), some (.int (zi 2)), some (.int (zi zq888))]) (S' := [.int (zi 0), .ref pic]) rfl ?_
                                refine gs_put rfl (by decide) rfl sq888 tpic rfl rfl rfl rfl (Or.inl rfl) (by decide) (by omega) (by omega) (fun h907 sh907 eh907 fh907 => ?_)
                                have s908 := (fh907 x 0 (fun q => absurd q.2 (by decide))).trans s889
                                have s909 := (fh907 x 1 (fun q => absurd q.2 (by decide))).trans s890
                                have s910 := (fh907 pic 0 (fun q => absurd q.2 (by decide))).trans s891
                                have s911 := (fh907 bn 0 (fun q => absurd (((tbn).symm.trans (congrArg ty q.1)).trans tpic) (by decide))).trans s892
                                have s912 := (fh907 bn 1 (fun q => absurd (((tbn).symm.trans (congrArg ty q.1)).trans tpic) (by decide))).trans s893
                                have s913 := (fh907 bn 2 (fun q => absurd (((tbn).symm.trans (congrArg ty q.1)).trans tpic) (by decide))).trans s894
                                have s914 := (fh907 pic 2 (fun q => absurd q.2 (by decide))).trans s895
                                have s915 := (fh907 pic 3 (fun q => absurd q.2 (by decide))).trans s896
                                have s916 := (fh907 src 1 (fun q => absurd q.2 (by decide))).trans s897
                                have s917 := (fh907 pic 7 (fun q => absurd q.2 (by decide))).trans s898
                                have s918 := (fh907 pic 8 (fun q => absurd q.2 (by decide))).trans s899
                                have s919 := (fh907 pic 5 (fun q => absurd q.2 (by decide))).trans s900
                                have s920 := (fh907 b0 1 (fun q => absurd q.2 (by decide))).trans s901
                                have s921 := (fh907 b0 2 (fun q => absurd q.2 (by decide))).trans s902
                                have s922 := (fh907 b0 3 (fun q => absurd q.2 (by decide))).trans s903
                                have s923 := (fh907 b1 1 (fun q => absurd q.2 (by decide))).trans efq888_0
                                have s924 := (fh907 b1 2 (fun q => absurd q.2 (by decide))).trans efq888_1
                                have s925 := (fh907 b1 3 (fun q => absurd q.2 (by decide))).trans efq888_2
                                refine gz_s 1 (pc' := 219) (L' := [some (.ref x), some (.int (zi m)), some (.int (zi a)), some (.int (zi n)), some (.int (zi zq1)), some (.int (zi jn14v0)), some (.int (zi zq706)), some (.int (zi zq729)), some (.int (zi 2)), some (.int (zi zq888))]) (S' := [.ref x]) rfl ?_
                                refine gs_gtk rfl (by decide) rfl sh907.1 tx rfl rfl s909 ?_
                                refine gz_s 3 (pc' := 228) (L' := [some (.ref x), some (.int (zi m)), some (.int (zi a)), some (.int (zi n)), some (.int (zi zq1)), some (.int (zi jn14v0)), some (.int (zi zq706)), some (.int (zi zq729)), some (.int (zi 2)), some (.int (zi zq888))]) (S' := [.int (zi zq1), .int (zi zq706), .int (zi zq729), .ref pic]) rfl ?_
                                have k926 := sh907.2.1
                                have k926b := sh907.2.2.1
                                have hl927 : h907.2.2.2.1 co = h.2.2.2.1 co := congrFun sh907.2.2.2.2.1 co
                                have hl928 : h907.2.2.2.1 dm = h.2.2.2.1 dm := congrFun sh907.2.2.2.2.1 dm
                                have hl929 : h907.2.2.2.1 co = h.2.2.2.1 co := congrFun sh907.2.2.2.2.1 co
                                have hl930 : h907.2.2.2.1 dm = h.2.2.2.1 dm := congrFun sh907.2.2.2.2.1 dm
                                obtain ⟨z931, ez931, az931, bz931⟩ := gJ.int (k := 1) (G := gGG) sh907.1 tb2 rfl rfl rfl
                                obtain ⟨z932, ez932, az932, bz932⟩ := gJ.int (k := 2) (G := gGG) sh907.1 tb2 rfl rfl rfl
                                obtain ⟨z933, ez933, az933, bz933⟩ := gJ.int (k := 3) (G := gGG) sh907.1 tb2 rfl rfl rfl
                                refine gz_call rfl (by decide) rfl (by decide) (by decide) (gcal_of rfl rfl rfl (Nat.le_of_ble_eq_true rfl) (gJ.recv (G := gGG) sh907.1 tpic rfl rfl)) (cl_Picture_begin _ sh907.1 pic tpic zq729 (by omega) zq706 (by omega) zq1 (by omega) bn s910 tbn b0 s911 tb0 b1 s912 tb1 b2 s913 tb2 co s914 tco dm s915 tdm fq752_0 s920 (by omega) fq752_1 s921 (by omega) fq752_2 s922 (by omega) fq888_0 s923 (by omega) fq888_1 s924 (by omega) fq888_2 s925 (by omega) z931 ez931 (by omega) z932 ez932 (by omega) z933 ez933 (by omega) (by omega) (by omega) (by omega) (by omega) (by omega) uq) (fun q934 _ wq934 => ?_)
                                obtain ⟨pq934, oq934, hq934⟩ := q934
                                obtain ⟨tyq934, xq934, fq934_0, xq934_0, gq934, efq934_0, afq934_0, bfq934_0, axq934_0, bxq934_0, uq934_0, uq934_1, uq934_2, uq934_3, yq934_0⟩ := wq934
                                dsimp only at uq934_1 uq934_2
                                refine ⟨_, gq934, ?_⟩
                                show gz gPP gGG gcn _ _ 231 [some (.ref x), some (.int (zi m)), some (.int (zi a)), some (.int (zi n)), some (.int (zi zq1)), some (.int (zi jn14v0)), some (.int (zi zq706)), some (.int (zi zq729)), some (.int (zi 2)), some (.int (zi zq888))] [] hq934 _
                                have G935 : gSg [112, 113] [] [54002, 54003, 54004, 54005, 54006, 54007, 54008, 54010, 54011, 54012, 54013, 82000, 82001, 82002, 82003, 82004, 82005, 82006, 82007, 82008, 83000, 83001, 83002, 83003, 83004, 83005, 83006, 83007, 83008, 84000, 84001, 84002, 84003, 84004, 84005, 84006, 84007, 84008, 112999, 113999] ty h tyq934 hq934 := gSg.tr (gSg.ss G0 sh907 (by decide)) xq934 (by decide) (by decide) (fun x hx => by cases hx)
                                have t936 : tyq934 x = 65 := gSg.typ xq934 sh907.1 tx rfl
                                have t937 : tyq934 src = 51 := gSg.typ xq934 sh907.1 tsrc rfl
                                have t938 : tyq934 pic = 54 := gSg.typ xq934 sh907.1 tpic rfl
                                have t939 : tyq934 bn = 57 := gSg.typ xq934 sh907.1 tbn rfl
                                have t940 : tyq934 b0 = 82 := gSg.typ xq934 sh907.1 tb0 rfl
                                have t941 : tyq934 b1 = 83 := gSg.typ xq934 sh907.1 tb1 rfl
                                have t942 : tyq934 b2 = 84 := gSg.typ xq934 sh907.1 tb2 rfl
                                have t943 : tyq934 co = 112 := gSg.typ xq934 sh907.1 tco rfl
                                have hl944 : hq934.2.2.2.1 co = h907.2.2.2.1 co := gSg.len xq934 sh907.1 tco rfl
                                have t945 : tyq934 dm = 113 := gSg.typ xq934 sh907.1 tdm rfl
                                have hl946 : hq934.2.2.2.1 dm = h907.2.2.2.1 dm := gSg.len xq934 sh907.1 tdm rfl
                                have s947 := gSg.at xq934 sh907.1 tx rfl (by decide) s908
                                have s948 := gSg.at xq934 sh907.1 tx rfl (by decide) s909
                                have s949 := gSg.at xq934 sh907.1 tpic rfl (by decide) s910
                                have s950 := gSg.at xq934 sh907.1 tbn rfl (by decide) s911
                                have s951 := gSg.at xq934 sh907.1 tbn rfl (by decide) s912
                                have s952 := gSg.at xq934 sh907.1 tbn rfl (by decide) s913
                                have s953 := gSg.at xq934 sh907.1 tsrc rfl (by decide) s916
                                have s954 := gSg.at xq934 sh907.1 tb0 rfl (by decide) s920
                                have s955 := gSg.at xq934 sh907.1 tb0 rfl (by decide) s921
                                have s956 := gSg.at xq934 sh907.1 tb0 rfl (by decide) s922
                                have s957 := gSg.at xq934 sh907.1 tb1 rfl (by decide) s923
                                have s958 := gSg.at xq934 sh907.1 tb1 rfl (by decide) s924
                                have s959 := gSg.at xq934 sh907.1 tb1 rfl (by decide) s925
                                have s960 := gSg.at xq934 sh907.1 tpic rfl (by decide) eh907
                                have s961 := gSg.at xq934 sh907.1 tb2 rfl (by decide) ez931
                                have s962 := gSg.at xq934 sh907.1 tb2 rfl (by decide) ez932
                                have s963 := gSg.at xq934 sh907.1 tb2 rfl (by decide) ez933
                                have uq964 := gSg.uq xq934 uq (by decide)
                                have sS965 : gSs rT 1027 tyq934 [54002, 54003, 54004, 54005, 54006, 54007, 54008, 54010, 54011, 54012, 54013, 82000, 82001, 82002, 82003, 82004, 82005, 82006, 82007, 82008, 83000, 83001, 83002, 83003, 83004, 83005, 83006, 83007, 83008, 84000, 84001, 84002, 84003, 84004, 84005, 84006, 84007, 84008, 112999, 113999] hq934 hq934 := gSs.rf xq934.1
                                refine gz_s 1 (pc' := 232) (L' := [some (.ref x), some (.int (zi m)), some (.int (zi a)), some (.int (zi n)), some (.int (zi zq1)), some (.int (zi jn14v0)), some (.int (zi zq706)), some (.int (zi zq729)), some (.int (zi 2)), some (.int (zi zq888))]) (S' := [.int (zi (-1))]) rfl ?_
                                have G966 : gSg [112, 113] [] [54002, 54003, 54004, 54005, 54006, 54007, 54008, 54010, 54011, 54012, 54013, 82000, 82001, 82002, 82003, 82004, 82005, 82006, 82007, 82008, 83000, 83001, 83002, 83003, 83004, 83005, 83006, 83007, 83008, 84000, 84001, 84002, 84003, 84004, 84005, 84006, 84007, 84008, 112999, 113999] ty h tyq934 hq934 := gSg.ss G935 sS965 (by decide)
                                exact gz_end (I := .ireturn) (len := 1) rfl (Or.inl rfl) ⟨tyq934, G966, (-1), fq934_0, xq934_0, rfl, (by omega), (by omega), efq934_0, (by omega), (by omega), (by omega), (by omega), (by dsimp only; omega), (by dsimp only; omega), (by omega), yq934_0⟩
                              · refine gy_icF rfl (by decide) (by decide) (by omega) (by omega) hc906 ?_
                                refine gz_s 2 (pc' := 215) (L' := [some (.ref x), some (.int (zi m)), some (.int (zi a)), some (.int (zi n)), some (.int (zi zq1)), some (.int (zi jn14v0)), some (.int (zi zq706)), some (.int (zi zq729)), some (.int (zi 2)), some (.int (zi zq888))]) (S' := [.int (zi 1), .ref pic]) rfl ?_
                                refine gs_put rfl (by decide) rfl sq888 tpic rfl rfl rfl rfl (Or.inl rfl) (by decide) (by omega) (by omega) (fun h967 sh967 eh967 fh967 => ?_)
                                have s968 := (fh967 x 0 (fun q => absurd q.2 (by decide))).trans s889
                                have s969 := (fh967 x 1 (fun q => absurd q.2 (by decide))).trans s890
                                have s970 := (fh967 pic 0 (fun q => absurd q.2 (by decide))).trans s891
                                have s971 := (fh967 bn 0 (fun q => absurd (((tbn).symm.trans (congrArg ty q.1)).trans tpic) (by decide))).trans s892
                                have s972 := (fh967 bn 1 (fun q => absurd (((tbn).symm.trans (congrArg ty q.1)).trans tpic) (by decide))).trans s893
                                have s973 := (fh967 bn 2 (fun q => absurd (((tbn).symm.trans (congrArg ty q.1)).trans tpic) (by decide))).trans s894
                                have s974 := (fh967 pic 2 (fun q => absurd q.2 (by decide))).trans s895
                                have s975 := (fh967 pic 3 (fun q => absurd q.2 (by decide))).trans s896
                                have s976 := (fh967 src 1 (fun q => absurd q.2 (by decide))).trans s897
                                have s977 := (fh967 pic 7 (fun q => absurd q.2 (by decide))).trans s898
                                have s978 := (fh967 pic 8 (fun q => absurd q.2 (by decide))).trans s899
                                have s979 := (fh967 pic 5 (fun q => absurd q.2 (by decide))).trans s900
                                have s980 := (fh967 b0 1 (fun q => absurd q.2 (by decide))).trans s901
                                have s981 := (fh967 b0 2 (fun q => absurd q.2 (by decide))).trans s902
                                have s982 := (fh967 b0 3 (fun q => absurd q.2 (by decide))).trans s903
                                have s983 := (fh967 b1 1 (fun q => absurd q.2 (by decide))).trans efq888_0
                                have s984 := (fh967 b1 2 (fun q => absurd q.2 (by decide))).trans efq888_1
                                have s985 := (fh967 b1 3 (fun q => absurd q.2 (by decide))).trans efq888_2
                                refine gz_s 1 (pc' := 219) (L' := [some (.ref x), some (.int (zi m)), some (.int (zi a)), some (.int (zi n)), some (.int (zi zq1)), some (.int (zi jn14v0)), some (.int (zi zq706)), some (.int (zi zq729)), some (.int (zi 2)), some (.int (zi zq888))]) (S' := [.ref x]) rfl ?_
                                refine gs_gtk rfl (by decide) rfl sh967.1 tx rfl rfl s969 ?_
                                refine gz_s 3 (pc' := 228) (L' := [some (.ref x), some (.int (zi m)), some (.int (zi a)), some (.int (zi n)), some (.int (zi zq1)), some (.int (zi jn14v0)), some (.int (zi zq706)), some (.int (zi zq729)), some (.int (zi 2)), some (.int (zi zq888))]) (S' := [.int (zi zq1), .int (zi zq706), .int (zi zq729), .ref pic]) rfl ?_
                                have k986 := sh967.2.1
                                have k986b := sh967.2.2.1
                                have hl987 : h967.2.2.2.1 co = h.2.2.2.1 co := congrFun sh967.2.2.2.2.1 co
                                have hl988 : h967.2.2.2.1 dm = h.2.2.2.1 dm := congrFun sh967.2.2.2.2.1 dm
                                have hl989 : h967.2.2.2.1 co = h.2.2.2.1 co := congrFun sh967.2.2.2.2.1 co
                                have hl990 : h967.2.2.2.1 dm = h.2.2.2.1 dm := congrFun sh967.2.2.2.2.1 dm
                                obtain ⟨z991, ez991, az991, bz991⟩ := gJ.int (k := 1) (G := gGG) sh967.1 tb2 rfl rfl rfl
                                obtain ⟨z992, ez992, az992, bz992⟩ := gJ.int (k := 2) (G := gGG) sh967.1 tb2 rfl rfl rfl
                                obtain ⟨z993, ez993, az993, bz993⟩ := gJ.int (k := 3) (G := gGG) sh967.1 tb2 rfl rfl rfl
                                refine gz_call rfl (by decide) rfl (by decide) (by decide) (gcal_of rfl rfl rfl (Nat.le_of_ble_eq_true rfl) (gJ.recv (G := gGG) sh967.1 tpic rfl rfl)) (cl_Picture_begin _ sh967.1 pic tpic zq729 (by omega) zq706 (by omega) zq1 (by omega) bn s970 tbn b0 s971 tb0 b1 s972 tb1 b2 s973 tb2 co s974 tco dm s975 tdm fq752_0 s980 (by omega) fq752_1 s981 (by omega) fq752_2 s982 (by omega) fq888_0 s983 (by omega) fq888_1 s984 (by omega) fq888_2 s985 (by omega) z991 ez991 (by omega) z992 ez992 (by omega) z993 ez993 (by omega) (by omega) (by omega) (by omega) (by omega) (by omega) uq) (fun q994 _ wq994 => ?_)
                                obtain ⟨pq994, oq994, hq994⟩ := q994
                                obtain ⟨tyq994, xq994, fq994_0, xq994_0, gq994, efq994_0, afq994_0, bfq994_0, axq994_0, bxq994_0, uq994_0, uq994_1, uq994_2, uq994_3, yq994_0⟩ := wq994
                                dsimp only at uq994_1 uq994_2
                                refine ⟨_, gq994, ?_⟩
                                show gz gPP gGG gcn _ _ 231 [some (.ref x), some (.int (zi m)), some (.int (zi a)), some (.int (zi n)), some (.int (zi zq1)), some (.int (zi jn14v0)), some (.int (zi zq706)), some (.int (zi zq729)), some (.int (zi 2)), some (.int (zi zq888))] [] hq994 _
                                have G995 : gSg [112, 113] [] [54002, 54003, 54004, 54005, 54006, 54007, 54008, 54010, 54011, 54012, 54013, 82000, 82001, 82002, 82003, 82004, 82005, 82006, 82007, 82008, 83000, 83001, 83002, 83003, 83004, 83005, 83006, 83007, 83008, 84000, 84001, 84002, 84003, 84004, 84005, 84006, 84007, 84008, 112999, 113999] ty h tyq994 hq994 := gSg.tr (gSg.ss G0 sh967 (by decide)) xq994 (by decide) (by decide) (fun x hx => by cases hx)
                                have t996 : tyq994 x = 65 := gSg.typ xq994 sh967.1 tx rfl
                                have t997 : tyq994 src = 51 := gSg.typ xq994 sh967.1 tsrc rfl
                                have t998 : tyq994 pic = 54 := gSg.typ xq994 sh967.1 tpic rfl
                                have t999 : tyq994 bn = 57 := gSg.typ xq994 sh967.1 tbn rfl
                                have t1000 : tyq994 b0 = 82 := gSg.typ xq994 sh967.1 tb0 rfl
                                have t1001 : tyq994 b1 = 83 := gSg.typ xq994 sh967.1 tb1 rfl
                                have t1002 : tyq994 b2 = 84 := gSg.typ xq994 sh967.1 tb2 rfl
                                have t1003 : tyq994 co = 112 := gSg.typ xq994 sh967.1 tco rfl
                                have hl1004 : hq994.2.2.2.1 co = h967.2.2.2.1 co := gSg.len xq994 sh967.1 tco rfl
                                have t1005 : tyq994 dm = 113 := gSg.typ xq994 sh967.1 tdm rfl
                                have hl1006 : hq994.2.2.2.1 dm = h967.2.2.2.1 dm := gSg.len xq994 sh967.1 tdm rfl
                                have s1007 := gSg.at xq994 sh967.1 tx rfl (by decide) s968
                                have s1008 := gSg.at xq994 sh967.1 tx rfl (by decide) s969
                                have s1009 := gSg.at xq994 sh967.1 tpic rfl (by decide) s970
                                have s1010 := gSg.at xq994 sh967.1 tbn rfl (by decide) s971
                                have s1011 := gSg.at xq994 sh967.1 tbn rfl (by decide) s972
                                have s1012 := gSg.at xq994 sh967.1 tbn rfl (by decide) s973
                                have s1013 := gSg.at xq994 sh967.1 tsrc rfl (by decide) s976
                                have s1014 := gSg.at xq994 sh967.1 tb0 rfl (by decide) s980
                                have s1015 := gSg.at xq994 sh967.1 tb0 rfl (by decide) s981
                                have s1016 := gSg.at xq994 sh967.1 tb0 rfl (by decide) s982
                                have s1017 := gSg.at xq994 sh967.1 tb1 rfl (by decide) s983
                                have s1018 := gSg.at xq994 sh967.1 tb1 rfl (by decide) s984
                                have s1019 := gSg.at xq994 sh967.1 tb1 rfl (by decide) s985
                                have s1020 := gSg.at xq994 sh967.1 tpic rfl (by decide) eh967
                                have s1021 := gSg.at xq994 sh967.1 tb2 rfl (by decide) ez991
                                have s1022 := gSg.at xq994 sh967.1 tb2 rfl (by decide) ez992
                                have s1023 := gSg.at xq994 sh967.1 tb2 rfl (by decide) ez993
                                have uq1024 := gSg.uq xq994 uq (by decide)
                                have sS1025 : gSs rT 1027 tyq994 [54002, 54003, 54004, 54005, 54006, 54007, 54008, 54010, 54011, 54012, 54013, 82000, 82001, 82002, 82003, 82004, 82005, 82006, 82007, 82008, 83000, 83001, 83002, 83003, 83004, 83005, 83006, 83007, 83008, 84000, 84001, 84002, 84003, 84004, 84005, 84006, 84007, 84008, 112999, 113999] hq994 hq994 := gSs.rf xq994.1
                                refine gz_s 1 (pc' := 232) (L' := [some (.ref x), some (.int (zi m)), some (.int (zi a)), some (.int (zi n)), some (.int (zi zq1)), some (.int (zi jn14v0)), some (.int (zi zq706)), some (.int (zi zq729)), some (.int (zi 2)), some (.int (zi zq888))]) (S' := [.int (zi (-1))]) rfl ?_
                                have G1026 : gSg [112, 113] [] [54002, 54003, 54004, 54005, 54006, 54007, 54008, 54010, 54011, 54012, 54013, 82000, 82001, 82002, 82003, 82004, 82005, 82006, 82007, 82008, 83000, 83001, 83002, 83003, 83004, 83005, 83006, 83007, 83008, 84000, 84001, 84002, 84003, 84004, 84005, 84006, 84007, 84008, 112999, 113999] ty h tyq994 hq994 := gSg.ss G995 sS1025 (by decide)
                                exact gz_end (I := .ireturn) (len := 1) rfl (Or.inl rfl) ⟨tyq994, G1026, (-1), fq994_0, xq994_0, rfl, (by omega), (by omega), efq994_0, (by omega), (by omega), (by omega), (by omega), (by dsimp only; omega), (by dsimp only; omega), (by omega), yq994_0⟩
                            · refine gy_icF rfl (by decide) (by decide) (by omega) (by omega) hc905 ?_
                              refine gy_s 9 (pc' := 179) (L' := [some (.ref x), some (.int (zi m)), some (.int (zi a)), some (.int (zi n)), some (.int (zi zq1)), some (.int (zi jn14v0)), some (.int (zi zq706)), some (.int (zi zq729)), some (.int (zi 2)), some (.int (zi zq888))]) (S' := [.int (((zi a) + (zi 8)) + ((zi 3) * (zi 2))), .int (zi 2), .ref x]) (L2 := [some (.ref x), some (.int (zi m)), some (.int (zi a)), some (.int (zi n)), some (.int (zi zq1)), some (.int (zi jn14v0)), some (.int (zi zq706)), some (.int (zi zq729)), some (.int (zi 2)), some (.int (zi zq888))]) (S2 := [.int (zi ((a + 8) + 6)), .int (zi 2), .ref x]) rfl (by simp only [zi_add, zi_sub, zi_mul, zi_neg, zi_and1, zi_and7, zi_and15, zi_and31, zi_and255, Int.reduceAdd, Int.reduceMul, Int.reduceSub]) (by simp only [zi_add, zi_sub, zi_mul, zi_neg, zi_and1, zi_and7, zi_and15, zi_and31, zi_and255, Int.reduceAdd, Int.reduceMul, Int.reduceSub]) ?_
                              refine gz_call rfl (by decide) rfl (by decide) (by decide) (gcal_of rfl rfl rfl (Nat.le_of_ble_eq_true rfl) (gJ.recv (G := gGG) sq888.1 tx rfl rfl)) (cl_readBand2 _ sq888.1 x tx 2 (by omega) ((a + 8) + 6) (by omega) src s889 tsrc pic s890 tpic bn s891 tbn b0 s892 tb0 b1 s893 tb1 b2 s894 tb2 sz s897 (by omega) uq) (fun q1027 _ wq1027 => ?_)
                              obtain ⟨pq1027, oq1027, hq1027⟩ := q1027
                              obtain ⟨xq1027, zq1027, fq1027_0, fq1027_1, fq1027_2, gq1027, aq1027, bq1027, efq1027_0, afq1027_0, bfq1027_0, efq1027_1, afq1027_1, bfq1027_1, efq1027_2, afq1027_2, bfq1027_2, uq1027_0⟩ := wq1027
                              refine ⟨_, gq1027, ?_⟩
                              show gz gPP gGG gcn _ _ 182 [some (.ref x), some (.int (zi m)), some (.int (zi a)), some (.int (zi n)), some (.int (zi zq1)), some (.int (zi jn14v0)), some (.int (zi zq706)), some (.int (zi zq729)), some (.int (zi 2)), some (.int (zi zq888))] [.int (zi zq1027)] hq1027 _
                              have sq1027 : gSs rT 1027 ty [54002, 54003, 54004, 54005, 54006, 54007, 54008, 54010, 54011, 54012, 54013, 82000, 82001, 82002, 82003, 82004, 82005, 82006, 82007, 82008, 83000, 83001, 83002, 83003, 83004, 83005, 83006, 83007, 83008, 84000, 84001, 84002, 84003, 84004, 84005, 84006, 84007, 84008, 112999, 113999] h hq1027 := gSs.tr sq888 xq1027 (by decide)
                              have s1028 := (xq1027.2.2.2.2.2 x 0 (by rw [tx]; decide)).trans s889
                              have s1029 := (xq1027.2.2.2.2.2 x 1 (by rw [tx]; decide)).trans s890
                              have s1030 := (xq1027.2.2.2.2.2 pic 0 (by rw [tpic]; decide)).trans s891
                              have s1031 := (xq1027.2.2.2.2.2 bn 0 (by rw [tbn]; decide)).trans s892
                              have s1032 := (xq1027.2.2.2.2.2 bn 1 (by rw [tbn]; decide)).trans s893
                              have s1033 := (xq1027.2.2.2.2.2 bn 2 (by rw [tbn]; decide)).trans s894
                              have s1034 := (xq1027.2.2.2.2.2 pic 2 (by rw [tpic]; decide)).trans s895
                              have s1035 := (xq1027.2.2.2.2.2 pic 3 (by rw [tpic]; decide)).trans s896
                              have s1036 := (xq1027.2.2.2.2.2 src 1 (by rw [tsrc]; decide)).trans s897
                              have s1037 := (xq1027.2.2.2.2.2 pic 7 (by rw [tpic]; decide)).trans s898
                              have s1038 := (xq1027.2.2.2.2.2 pic 8 (by rw [tpic]; decide)).trans s899
                              have s1039 := (xq1027.2.2.2.2.2 pic 5 (by rw [tpic]; decide)).trans s900
                              have s1040 := (xq1027.2.2.2.2.2 b0 1 (by rw [tb0]; decide)).trans s901
                              have s1041 := (xq1027.2.2.2.2.2 b0 2 (by rw [tb0]; decide)).trans s902
                              have s1042 := (xq1027.2.2.2.2.2 b0 3 (by rw [tb0]; decide)).trans s903
                              have s1043 := (xq1027.2.2.2.2.2 b1 1 (by rw [tb1]; decide)).trans efq888_0
                              have s1044 := (xq1027.2.2.2.2.2 b1 2 (by rw [tb1]; decide)).trans efq888_1
                              have s1045 := (xq1027.2.2.2.2.2 b1 3 (by rw [tb1]; decide)).trans efq888_2
                              refine gz_s 3 (pc' := 187) (L' := [some (.ref x), some (.int (zi m)), some (.int (zi a)), some (.int (zi n)), some (.int (zi zq1)), some (.int (zi jn14v0)), some (.int (zi zq706)), some (.int (zi zq729)), some (.int (zi 2)), some (.int (zi zq1027))]) (S' := [.int (zi (-1)), .int (zi zq1027)]) rfl ?_
                              by_cases hc1046 : (zq1027 : Int) = (-1)
                              · refine gy_icT (pc' := 193) rfl (by decide) (by decide) (by omega) (by omega) hc1046 ?_
                                refine gy_s 4 (pc' := 164) (L' := [some (.ref x), some (.int (zi m)), some (.int (zi a)), some (.int (zi n)), some (.int (zi zq1)), some (.int (zi jn14v0)), some (.int (zi zq706)), some (.int (zi zq729)), some (.int ((zi 2) + zi 1)), some (.int (zi zq1027))]) (S' := [.int (zi zq1), .int ((zi 2) + zi 1)]) (L2 := [some (.ref x), some (.int (zi m)), some (.int (zi a)), some (.int (zi n)), some (.int (zi zq1)), some (.int (zi jn14v0)), some (.int (zi zq706)), some (.int (zi zq729)), some (.int (zi 3)), some (.int (zi zq1027))]) (S2 := [.int (zi zq1), .int (zi 3)]) rfl (by simp only [zi_add, zi_sub, zi_mul, zi_neg, zi_and1, zi_and7, zi_and15, zi_and31, zi_and255, Int.reduceAdd, Int.reduceMul, Int.reduceSub]) (by simp only [zi_add, zi_sub, zi_mul, zi_neg, zi_and1, zi_and7, zi_and15, zi_and31, zi_and255, Int.reduceAdd, Int.reduceMul, Int.reduceSub]) ?_
                                refine gy_icT (pc' := 199) rfl (by decide) (by decide) (by omega) (by omega) (by first | (simp [zc]; done) | (simp only [zc]; omega)) ?_
                                refine gz_s 1 (pc' := 200) (L' := [some (.ref x), some (.int (zi m)), some (.int (zi a)), some (.int (zi n)), some (.int (zi zq1)), some (.int (zi jn14v0)), some (.int (zi zq706)), some (.int (zi zq729)), some (.int (zi 3)), some (.int (zi zq1027))]) (S' := [.ref x]) rfl ?_
                                refine gs_gtk rfl (by decide) rfl sq1027.1 tx rfl rfl s1029 ?_
                                refine gz_s 2 (pc' := 207) (L' := [some (.ref x), some (.int (zi m)), some (.int (zi a)), some (.int (zi n)), some (.int (zi zq1)), some (.int (zi jn14v0)), some (.int (zi zq706)), some (.int (zi zq729)), some (.int (zi 3)), some (.int (zi zq1027))]) (S' := [.int (zi 194), .int (zi m), .ref pic]) rfl ?_
                                by_cases hc1047 : ¬ (m : Int) = 194
                                · refine gy_icT (pc' := 214) rfl (by decide) (by decide) (by omega) (by omega) hc1047 ?_
                                  refine gz_s 1 (pc' := 215) (L' := [some (.ref x), some (.int (zi m)), some (.int (zi a)), some (.int (zi n)), some (.int (zi zq1)), some (.int (zi jn14v0)), some (.int (zi zq706)), some (.int (zi zq729)), some (.int (zi 3)), some (.int (zi zq1027))]) (S' := [.int (zi 0), .ref pic]) rfl ?_
                                  refine gs_put rfl (by decide) rfl sq1027 tpic rfl rfl rfl rfl (Or.inl rfl) (by decide) (by omega) (by omega) (fun h1048 sh1048 eh1048 fh1048 => ?_)
                                  have s1049 := (fh1048 x 0 (fun q => absurd q.2 (by decide))).trans s1028
                                  have s1050 := (fh1048 x 1 (fun q => absurd q.2 (by decide))).trans s1029
                                  have s1051 := (fh1048 pic 0 (fun q => absurd q.2 (by decide))).trans s1030
                                  have s1052 := (fh1048 bn 0 (fun q => absurd (((tbn).symm.trans (congrArg ty q.1)).trans tpic) (by decide))).trans s1031
                                  have s1053 := (fh1048 bn 1 (fun q => absurd (((tbn).symm.trans (congrArg ty q.1)).trans tpic) (by decide))).trans s1032
                                  have s1054 := (fh1048 bn 2 (fun q => absurd (((tbn).symm.trans (congrArg ty q.1)).trans tpic) (by decide))).trans s1033
                                  have s1055 := (fh1048 pic 2 (fun q => absurd q.2 (by decide))).trans s1034
                                  have s1056 := (fh1048 pic 3 (fun q => absurd q.2 (by decide))).trans s1035
                                  have s1057 := (fh1048 src 1 (fun q => absurd q.2 (by decide))).trans s1036
                                  have s1058 := (fh1048 pic 7 (fun q => absurd q.2 (by decide))).trans s1037
                                  have s1059 := (fh1048 pic 8 (fun q => absurd q.2 (by decide))).trans s1038
                                  have s1060 := (fh1048 pic 5 (fun q => absurd q.2 (by decide))).trans s1039
                                  have s1061 := (fh1048 b0 1 (fun q => absurd q.2 (by decide))).trans s1040
                                  have s1062 := (fh1048 b0 2 (fun q => absurd q.2 (by decide))).trans s1041
                                  have s1063 := (fh1048 b0 3 (fun q => absurd q.2 (by decide))).trans s1042
                                  have s1064 := (fh1048 b1 1 (fun q => absurd q.2 (by decide))).trans s1043
                                  have s1065 := (fh1048 b1 2 (fun q => absurd q.2 (by decide))).trans s1044
                                  have s1066 := (fh1048 b1 3 (fun q => absurd q.2 (by decide))).trans s1045
                                  have s1067 := (fh1048 b2 1 (fun q => absurd q.2 (by decide))).trans efq1027_0
                                  have s1068 := (fh1048 b2 2 (fun q => absurd q.2 (by decide))).trans efq1027_1
                                  have s1069 := (fh1048 b2 3 (fun q => absurd q.2 (by decide))).trans efq1027_2
                                  refine gz_s 1 (pc' := 219) (L' := [some (.ref x), some (.int (zi m)), some (.int (zi a)), some (.int (zi n)), some (.int (zi zq1)), some (.int (zi jn14v0)), some (.int (zi zq706)), some (.int (zi zq729)), some (.int (zi 3)), some (.int (zi zq1027))]) (S' := [.ref x]) rfl ?_
                                  refine gs_gtk rfl (by decide) rfl sh1048.1 tx rfl rfl s1050 ?_
                                  refine gz_s 3 (pc' := 228) (L' := [some (.ref x), some (.int (zi m)), some (.int (zi a)), some (.int (zi n)), some (.int (zi zq1)), some (.int (zi jn14v0)), some (.int (zi zq706)), some (.int (zi zq729)), some (.int (zi 3)), some (.int (zi zq1027))]) (S' := [.int (zi zq1), .int (zi zq706), .int (zi zq729), .ref pic]) rfl ?_
                                  have k1070 := sh1048.2.1
                                  have k1070b := sh1048.2.2.1
                                  have hl1071 : h1048.2.2.2.1 co = h.2.2.2.1 co := congrFun sh1048.2.2.2.2.1 co
                                  have hl1072 : h1048.2.2.2.1 dm = h.2.2.2.1 dm := congrFun sh1048.2.2.2.2.1 dm
                                  have hl1073 : h1048.2.2.2.1 co = h.2.2.2.1 co := congrFun sh1048.2.2.2.2.1 co
                                  have hl1074 : h1048.2.2.2.1 dm = h.2.2.2.1 dm := congrFun sh1048.2.2.2.2.1 dm
                                  refine gz_call rfl (by decide) rfl (by decide) (by decide) (gcal_of rfl rfl rfl (Nat.le_of_ble_eq_true rfl) (gJ.recv (G := gGG) sh1048.1 tpic rfl rfl)) (cl_Picture_begin _ sh1048.1 pic tpic zq729 (by omega) zq706 (by omega) zq1 (by omega) bn s1051 tbn b0 s1052 tb0 b1 s1053 tb1 b2 s1054 tb2 co s1055 tco dm s1056 tdm fq752_0 s1061 (by omega) fq752_1 s1062 (by omega) fq752_2 s1063 (by omega) fq888_0 s1064 (by omega) fq888_1 s1065 (by omega) fq888_2 s1066 (by omega) fq1027_0 s1067 (by omega) fq1027_1 s1068 (by omega) fq1027_2 s1069 (by omega) (by omega) (by omega) (by omega) (by omega) (by omega) uq) (fun q1075 _ wq1075 => ?_)
                                  obtain ⟨pq1075, oq1075, hq1075⟩ := q1075
                                  obtain ⟨tyq1075, xq1075, fq1075_0, xq1075_0, gq1075, efq1075_0, afq1075_0, bfq1075_0, axq1075_0, bxq1075_0, uq1075_0, uq1075_1, uq1075_2, uq1075_3, yq1075_0⟩ := wq1075
                                  dsimp only at uq1075_1 uq1075_2
                                  refine ⟨_, gq1075, ?_⟩
                                  show gz gPP gGG gcn _ _ 231 [some (.ref x), some (.int (zi m)), some (.int (zi a)), some (.int (zi n)), some (.int (zi zq1)), some (.int (zi jn14v0)), some (.int (zi zq706)), some (.int (zi zq729)), some (.int (zi 3)), some (.int (zi zq1027))] [] hq1075 _
                                  have G1076 : gSg [112, 113] [] [54002, 54003, 54004, 54005, 54006, 54007, 54008, 54010, 54011, 54012, 54013, 82000, 82001, 82002, 82003, 82004, 82005, 82006, 82007, 82008, 83000, 83001, 83002, 83003, 83004, 83005, 83006, 83007, 83008, 84000, 84001, 84002, 84003, 84004, 84005, 84006, 84007, 84008, 112999, 113999] ty h tyq1075 hq1075 := gSg.tr (gSg.ss G0 sh1048 (by decide)) xq1075 (by decide) (by decide) (fun x hx => by cases hx)
                                  have t1077 : tyq1075 x = 65 := gSg.typ xq1075 sh1048.1 tx rfl
                                  have t1078 : tyq1075 src = 51 := gSg.typ xq1075 sh1048.1 tsrc rfl
                                  have t1079 : tyq1075 pic = 54 := gSg.typ xq1075 sh1048.1 tpic rfl
                                  have t1080 : tyq1075 bn = 57 := gSg.typ xq1075 sh1048.1 tbn rfl
                                  have t1081 : tyq1075 b0 = 82 := gSg.typ xq1075 sh1048.1 tb0 rfl
                                  have t1082 : tyq1075 b1 = 83 := gSg.typ xq1075 sh1048.1 tb1 rfl
                                  have t1083 : tyq1075 b2 = 84 := gSg.typ xq1075 sh1048.1 tb2 rfl
                                  have t1084 : tyq1075 co = 112 := gSg.typ xq1075 sh1048.1 tco rfl
                                  have hl1085 : hq1075.2.2.2.1 co = h1048.2.2.2.1 co := gSg.len xq1075 sh1048.1 tco rfl
                                  have t1086 : tyq1075 dm = 113 := gSg.typ xq1075 sh1048.1 tdm rfl
                                  have hl1087 : hq1075.2.2.2.1 dm = h1048.2.2.2.1 dm := gSg.len xq1075 sh1048.1 tdm rfl
                                  have s1088 := gSg.at xq1075 sh1048.1 tx rfl (by decide) s1049
                                  have s1089 := gSg.at xq1075 sh1048.1 tx rfl (by decide) s1050
                                  have s1090 := gSg.at xq1075 sh1048.1 tpic rfl (by decide) s1051
                                  have s1091 := gSg.at xq1075 sh1048.1 tbn rfl (by decide) s1052
                                  have s1092 := gSg.at xq1075 sh1048.1 tbn rfl (by decide) s1053
                                  have s1093 := gSg.at xq1075 sh1048.1 tbn rfl (by decide) s1054
                                  have s1094 := gSg.at xq1075 sh1048.1 tsrc rfl (by decide) s1057
                                  have s1095 := gSg.at xq1075 sh1048.1 tb0 rfl (by decide) s1061
                                  have s1096 := gSg.at xq1075 sh1048.1 tb0 rfl (by decide) s1062
                                  have s1097 := gSg.at xq1075 sh1048.1 tb0 rfl (by decide) s1063
                                  have s1098 := gSg.at xq1075 sh1048.1 tb1 rfl (by decide) s1064
                                  have s1099 := gSg.at xq1075 sh1048.1 tb1 rfl (by decide) s1065
                                  have s1100 := gSg.at xq1075 sh1048.1 tb1 rfl (by decide) s1066
                                  have s1101 := gSg.at xq1075 sh1048.1 tb2 rfl (by decide) s1067
                                  have s1102 := gSg.at xq1075 sh1048.1 tb2 rfl (by decide) s1068
                                  have s1103 := gSg.at xq1075 sh1048.1 tb2 rfl (by decide) s1069
                                  have s1104 := gSg.at xq1075 sh1048.1 tpic rfl (by decide) eh1048
                                  have uq1105 := gSg.uq xq1075 uq (by decide)
                                  have sS1106 : gSs rT 1027 tyq1075 [54002, 54003, 54004, 54005, 54006, 54007, 54008, 54010, 54011, 54012, 54013, 82000, 82001, 82002, 82003, 82004, 82005, 82006, 82007, 82008, 83000, 83001, 83002, 83003, 83004, 83005, 83006, 83007, 83008, 84000, 84001, 84002, 84003, 84004, 84005, 84006, 84007, 84008, 112999, 113999] hq1075 hq1075 := gSs.rf xq1075.1
                                  refine gz_s 1 (pc' := 232) (L' := [some (.ref x), some (.int (zi m)), some (.int (zi a)), some (.int (zi n)), some (.int (zi zq1)), some (.int (zi jn14v0)), some (.int (zi zq706)), some (.int (zi zq729)), some (.int (zi 3)), some (.int (zi zq1027))]) (S' := [.int (zi (-1))]) rfl ?_
                                  have G1107 : gSg [112, 113] [] [54002, 54003, 54004, 54005, 54006, 54007, 54008, 54010, 54011, 54012, 54013, 82000, 82001, 82002, 82003, 82004, 82005, 82006, 82007, 82008, 83000, 83001, 83002, 83003, 83004, 83005, 83006, 83007, 83008, 84000, 84001, 84002, 84003, 84004, 84005, 84006, 84007, 84008, 112999, 113999] ty h tyq1075 hq1075 := gSg.ss G1076 sS1106 (by decide)
                                  exact gz_end (I := .ireturn) (len := 1) rfl (Or.inl rfl) ⟨tyq1075, G1107, (-1), fq1075_0, xq1075_0, rfl, (by omega), (by omega), efq1075_0, (by omega), (by omega), (by omega), (by omega), (by dsimp only; omega), (by dsimp only; omega), (by omega), yq1075_0⟩
                                · refine gy_icF rfl (by decide) (by decide) (by omega) (by omega) hc1047 ?_
                                  refine gz_s 2 (pc' := 215) (L' := [some (.ref x), some (.int (zi m)), some (.int (zi a)), some (.int (zi n)), some (.int (zi zq1)), some (.int (zi jn14v0)), some (.int (zi zq706)), some (.int (zi zq729)), some (.int (zi 3)), some (.int (zi zq1027))]) (S' := [.int (zi 1), .ref pic]) rfl ?_
                                  refine gs_put rfl (by decide) rfl sq1027 tpic rfl rfl rfl rfl (Or.inl rfl) (by decide) (by omega) (by omega) (fun h1108 sh1108 eh1108 fh1108 => ?_)
                                  have s1109 := (fh1108 x 0 (fun q => absurd q.2 (by decide))).trans s1028
                                  have s1110 := (fh1108 x 1 (fun q => absurd q.2 (by decide))).trans s1029
                                  have s1111 := (fh1108 pic 0 (fun q => absurd q.2 (by decide))).trans s1030
                                  have s1112 := (fh1108 bn 0 (fun q => absurd (((tbn).symm.trans (congrArg ty q.1)).trans tpic) (by decide))).trans s1031
                                  have s1113 := (fh1108 bn 1 (fun q => absurd (((tbn).symm.trans (congrArg ty q.1)).trans tpic) (by decide))).trans s1032
                                  have s1114 := (fh1108 bn 2 (fun q => absurd (((tbn).symm.trans (congrArg ty q.1)).trans tpic) (by decide))).trans s1033
                                  have s1115 := (fh1108 pic 2 (fun q => absurd q.2 (by decide))).trans s1034
                                  have s1116 := (fh1108 pic 3 (fun q => absurd q.2 (by decide))).trans s1035
                                  have s1117 := (fh1108 src 1 (fun q => absurd q.2 (by decide))).trans s1036
                                  have s1118 := (fh1108 pic 7 (fun q => absurd q.2 (by decide))).trans s1037
                                  have s1119 := (fh1108 pic 8 (fun q => absurd q.2 (by decide))).trans s1038
                                  have s1120 := (fh1108 pic 5 (fun q => absurd q.2 (by decide))).trans s1039
                                  have s1121 := (fh1108 b0 1 (fun q => absurd q.2 (by decide))).trans s1040
                                  have s1122 := (fh1108 b0 2 (fun q => absurd q.2 (by decide))).trans s1041
                                  have s1123 := (fh1108 b0 3 (fun q => absurd q.2 (by decide))).trans s1042
                                  have s1124 := (fh1108 b1 1 (fun q => absurd q.2 (by decide))).trans s1043
                                  have s1125 := (fh1108 b1 2 (fun q => absurd q.2 (by decide))).trans s1044
                                  have s1126 := (fh1108 b1 3 (fun q => absurd q.2 (by decide))).trans s1045
                                  have s1127 := (fh1108 b2 1 (fun q => absurd q.2 (by decide))).trans efq1027_0
                                  have s1128 := (fh1108 b2 2 (fun q => absurd q.2 (by decide))).trans efq1027_1
                                  have s1129 := (fh1108 b2 3 (fun q => absurd q.2 (by decide))).trans efq1027_2
                                  refine gz_s 1 (pc' := 219) (L' := [some (.ref x), some (.int (zi m)), some (.int (zi a)), some (.int (zi n)), some (.int (zi zq1)), some (.int (zi jn14v0)), some (.int (zi zq706)), some (.int (zi zq729)), some (.int (zi 3)), some (.int (zi zq1027))]) (S' := [.ref x]) rfl ?_
                                  refine gs_gtk rfl (by decide) rfl sh1108.1 tx rfl rfl s1110 ?_
                                  refine gz_s 3 (pc' := 228) (L' := [some (.ref x), some (.int (zi m)), some (.int (zi a)), some (.int (zi n)), some (.int (zi zq1)), some (.int (zi jn14v0)), some (.int (zi zq706)), some (.int (zi zq729)), some (.int (zi 3)), some (.int (zi zq1027))]) (S' := [.int (zi zq1), .int (zi zq706), .int (zi zq729), .ref pic]) rfl ?_
                                  have k1130 := sh1108.2.1
                                  have k1130b := sh1108.2.2.1
                                  have hl1131 : h1108.2.2.2.1 co = h.2.2.2.1 co := congrFun sh1108.2.2.2.2.1 co
                                  have hl1132 : h1108.2.2.2.1 dm = h.2.2.2.1 dm := congrFun sh1108.2.2.2.2.1 dm
                                  have hl1133 : h1108.2.2.2.1 co = h.2.2.2.1 co := congrFun sh1108.2.2.2.2.1 co
                                  have hl1134 : h1108.2.2.2.1 dm = h.2.2.2.1 dm := congrFun sh1108.2.2.2.2.1 dm
                                  refine gz_call rfl (by decide) rfl (by decide) (by decide) (gcal_of rfl rfl rfl (Nat.le_of_ble_eq_true rfl) (gJ.recv (G := gGG) sh1108.1 tpic rfl rfl)) (cl_Picture_begin _ sh1108.1 pic tpic zq729 (by omega) zq706 (by omega) zq1 (by omega) bn s1111 tbn b0 s1112 tb0 b1 s1113 tb1 b2 s1114 tb2 co s1115 tco dm s1116 tdm fq752_0 s1121 (by omega) fq752_1 s1122 (by omega) fq752_2 s1123 (by omega) fq888_0 s1124 (by omega) fq888_1 s1125 (by omega) fq888_2 s1126 (by omega) fq1027_0 s1127 (by omega) fq1027_1 s1128 (by omega) fq1027_2 s1129 (by omega) (by omega) (by omega) (by omega) (by omega) (by omega) uq) (fun q1135 _ wq1135 => ?_)
                                  obtain ⟨pq1135, oq1135, hq1135⟩ := q1135
                                  obtain ⟨tyq1135, xq1135, fq1135_0, xq1135_0, gq1135, efq1135_0, afq1135_0, bfq1135_0, axq1135_0, bxq1135_0, uq1135_0, uq1135_1, uq1135_2, uq1135_3, yq1135_0⟩ := wq1135
                                  dsimp only at uq1135_1 uq1135_2
                                  refine ⟨_, gq1135, ?_⟩
                                  show gz gPP gGG gcn _ _ 231 [some (.ref x), some (.int (zi m)), some (.int (zi a)), some (.int (zi n)), some (.int (zi zq1)), some (.int (zi jn14v0)), some (.int (zi zq706)), some (.int (zi zq729)), some (.int (zi 3)), some (.int (zi zq1027))] [] hq1135 _
                                  have G1136 : gSg [112, 113] [] [54002, 54003, 54004, 54005, 54006, 54007, 54008, 54010, 54011, 54012, 54013, 82000, 82001, 82002, 82003, 82004, 82005, 82006, 82007, 82008, 83000, 83001, 83002, 83003, 83004, 83005, 83006, 83007, 83008, 84000, 84001, 84002, 84003, 84004, 84005, 84006, 84007, 84008, 112999, 113999] ty h tyq1135 hq1135 := gSg.tr (gSg.ss G0 sh1108 (by decide)) xq1135 (by decide) (by decide) (fun x hx => by cases hx)
                                  have t1137 : tyq1135 x = 65 := gSg.typ xq1135 sh1108.1 tx rfl
                                  have t1138 : tyq1135 src = 51 := gSg.typ xq1135 sh1108.1 tsrc rfl
                                  have t1139 : tyq1135 pic = 54 := gSg.typ xq1135 sh1108.1 tpic rfl
                                  have t1140 : tyq1135 bn = 57 := gSg.typ xq1135 sh1108.1 tbn rfl
                                  have t1141 : tyq1135 b0 = 82 := gSg.typ xq1135 sh1108.1 tb0 rfl
                                  have t1142 : tyq1135 b1 = 83 := gSg.typ xq1135 sh1108.1 tb1 rfl
                                  have t1143 : tyq1135 b2 = 84 := gSg.typ xq1135 sh1108.1 tb2 rfl
                                  have t1144 : tyq1135 co = 112 := gSg.typ xq1135 sh1108.1 tco rfl
                                  have hl1145 : hq1135.2.2.2.1 co = h1108.2.2.2.1 co := gSg.len xq1135 sh1108.1 tco rfl
                                  have t1146 : tyq1135 dm = 113 := gSg.typ xq1135 sh1108.1 tdm rfl
                                  have hl1147 : hq1135.2.2.2.1 dm = h1108.2.2.2.1 dm := gSg.len xq1135 sh1108.1 tdm rfl
                                  have s1148 := gSg.at xq1135 sh1108.1 tx rfl (by decide) s1109
                                  have s1149 := gSg.at xq1135 sh1108.1 tx rfl (by decide) s1110
                                  have s1150 := gSg.at xq1135 sh1108.1 tpic rfl (by decide) s1111
                                  have s1151 := gSg.at xq1135 sh1108.1 tbn rfl (by decide) s1112
                                  have s1152 := gSg.at xq1135 sh1108.1 tbn rfl (by decide) s1113
                                  have s1153 := gSg.at xq1135 sh1108.1 tbn rfl (by decide) s1114
                                  have s1154 := gSg.at xq1135 sh1108.1 tsrc rfl (by decide) s1117
                                  have s1155 := gSg.at xq1135 sh1108.1 tb0 rfl (by decide) s1121
                                  have s1156 := gSg.at xq1135 sh1108.1 tb0 rfl (by decide) s1122
                                  have s1157 := gSg.at xq1135 sh1108.1 tb0 rfl (by decide) s1123
                                  have s1158 := gSg.at xq1135 sh1108.1 tb1 rfl (by decide) s1124
                                  have s1159 := gSg.at xq1135 sh1108.1 tb1 rfl (by decide) s1125
                                  have s1160 := gSg.at xq1135 sh1108.1 tb1 rfl (by decide) s1126
                                  have s1161 := gSg.at xq1135 sh1108.1 tb2 rfl (by decide) s1127
                                  have s1162 := gSg.at xq1135 sh1108.1 tb2 rfl (by decide) s1128
                                  have s1163 := gSg.at xq1135 sh1108.1 tb2 rfl (by decide) s1129
                                  have s1164 := gSg.at xq1135 sh1108.1 tpic rfl (by decide) eh1108
                                  have uq1165 := gSg.uq xq1135 uq (by decide)
                                  have sS1166 : gSs rT 1027 tyq1135 [54002, 54003, 54004, 54005, 54006, 54007, 54008, 54010, 54011, 54012, 54013, 82000, 82001, 82002, 82003, 82004, 82005, 82006, 82007, 82008, 83000, 83001, 83002, 83003, 83004, 83005, 83006, 83007, 83008, 84000, 84001, 84002, 84003, 84004, 84005, 84006, 84007, 84008, 112999, 113999] hq1135 hq1135 := gSs.rf xq1135.1
                                  refine gz_s 1 (pc' := 232) (L' := [some (.ref x), some (.int (zi m)), some (.int (zi a)), some (.int (zi n)), some (.int (zi zq1)), some (.int (zi jn14v0)), some (.int (zi zq706)), some (.int (zi zq729)), some (.int (zi 3)), some (.int (zi zq1027))]) (S' := [.int (zi (-1))]) rfl ?_
                                  have G1167 : gSg [112, 113] [] [54002, 54003, 54004, 54005, 54006, 54007, 54008, 54010, 54011, 54012, 54013, 82000, 82001, 82002, 82003, 82004, 82005, 82006, 82007, 82008, 83000, 83001, 83002, 83003, 83004, 83005, 83006, 83007, 83008, 84000, 84001, 84002, 84003, 84004, 84005, 84006, 84007, 84008, 112999, 113999] ty h tyq1135 hq1135 := gSg.ss G1136 sS1166 (by decide)
                                  exact gz_end (I := .ireturn) (len := 1) rfl (Or.inl rfl) ⟨tyq1135, G1167, (-1), fq1135_0, xq1135_0, rfl, (by omega), (by omega), efq1135_0, (by omega), (by omega), (by omega), (by omega), (by dsimp only; omega), (by dsimp only; omega), (by omega), yq1135_0⟩
                              · refine gy_icF rfl (by decide) (by decide) (by omega) (by omega) hc1046 ?_
                                refine gz_s 1 (pc' := 192) (L' := [some (.ref x), some (.int (zi m)), some (.int (zi a)), some (.int (zi n)), some (.int (zi zq1)), some (.int (zi jn14v0)), some (.int (zi zq706)), some (.int (zi zq729)), some (.int (zi 2)), some (.int (zi zq1027))]) (S' := [.int (zi zq1027)]) rfl ?_
                                have k1168 := sq1027.2.1
                                have k1168b := sq1027.2.2.1
                                have hl1169 : hq1027.2.2.2.1 co = h.2.2.2.1 co := congrFun sq1027.2.2.2.2.1 co
                                have hl1170 : hq1027.2.2.2.1 dm = h.2.2.2.1 dm := congrFun sq1027.2.2.2.2.1 dm
                                have k1171 := sq1027.2.1
                                have k1171b := sq1027.2.2.1
                                have hl1172 : hq1027.2.2.2.1 co = h.2.2.2.1 co := congrFun sq1027.2.2.2.2.1 co
                                have hl1173 : hq1027.2.2.2.1 dm = h.2.2.2.1 dm := congrFun sq1027.2.2.2.2.1 dm
                                have hpc1174 : gPC ty pic b0 b1 b2 (hq1027.2.2.2.1 dm : Int) hq1027 := gPC.zero sq1027.1 tpic s1030 tbn s1031 tb0 s1032 tb1 s1033 tb2 s1034 tco s1035 tdm (by rw [(by omega : (0 : Int) = cn)]; exact s1037) bl s1038 (by omega) w s1039 (by omega) (by omega) (by omega) (by omega) (by omega)
                                have G1175 : gSg [112, 113] [] [54002, 54003, 54004, 54005, 54006, 54007, 54008, 54010, 54011, 54012, 54013, 82000, 82001, 82002, 82003, 82004, 82005, 82006, 82007, 82008, 83000, 83001, 83002, 83003, 83004, 83005, 83006, 83007, 83008, 84000, 84001, 84002, 84003, 84004, 84005, 84006, 84007, 84008, 112999, 113999] ty h ty hq1027 := gSg.ss G0 sq1027 (by decide)
                                exact gz_end (I := .ireturn) (len := 1) rfl (Or.inl rfl) ⟨ty, G1175, zq1027, cn, (hq1027.2.2.2.1 dm : Int), rfl, (by omega), (by omega), s1037, (by omega), (by omega), (by omega), (by omega), (by dsimp only; omega), (by dsimp only; omega), (by omega), hpc1174⟩
                          · refine gy_icF rfl (by decide) (by decide) (by omega) (by omega) hc904 ?_
                            refine gz_s 1 (pc' := 192) (L' := [some (.ref x), some (.int (zi m)), some (.int (zi a)), some (.int (zi n)), some (.int (zi zq1)), some (.int (zi jn14v0)), some (.int (zi zq706)), some (.int (zi zq729)), some (.int (zi 1)), some (.int (zi zq888))]) (S' := [.int (zi zq888)]) rfl ?_
                            have k1176 := sq888.2.1
                            have k1176b := sq888.2.2.1
                            have hl1177 : hq888.2.2.2.1 co = h.2.2.2.1 co := congrFun sq888.2.2.2.2.1 co
                            have hl1178 : hq888.2.2.2.1 dm = h.2.2.2.1 dm := congrFun sq888.2.2.2.2.1 dm
                            have k1179 := sq888.2.1
                            have k1179b := sq888.2.2.1
                            have hl1180 : hq888.2.2.2.1 co = h.2.2.2.1 co := congrFun sq888.2.2.2.2.1 co
                            have hl1181 : hq888.2.2.2.1 dm = h.2.2.2.1 dm := congrFun sq888.2.2.2.2.1 dm
                            have hpc1182 : gPC ty pic b0 b1 b2 (hq888.2.2.2.1 dm : Int) hq888 := gPC.zero sq888.1 tpic s891 tbn s892 tb0 s893 tb1 s894 tb2 s895 tco s896 tdm (by rw [(by omega : (0 : Int) = cn)]; exact s898) bl s899 (by omega) w s900 (by omega) (by omega) (by omega) (by omega) (by omega)
                            have G1183 : gSg [112, 113] [] [54002, 54003, 54004, 54005, 54006, 54007, 54008, 54010, 54011, 54012, 54013, 82000, 82001, 82002, 82003, 82004, 82005, 82006, 82007, 82008, 83000, 83001, 83002, 83003, 83004, 83005, 83006, 83007, 83008, 84000, 84001, 84002, 84003, 84004, 84005, 84006, 84007, 84008, 112999, 113999] ty h ty hq888 := gSg.ss G0 sq888 (by decide)
                            exact gz_end (I := .ireturn) (len := 1) rfl (Or.inl rfl) ⟨ty, G1183, zq888, cn, (hq888.2.2.2.1 dm : Int), rfl, (by omega), (by omega), s898, (by omega), (by omega), (by omega), (by omega), (by dsimp only; omega), (by dsimp only; omega), (by omega), hpc1182⟩
                      · refine gy_icF rfl (by decide) (by decide) (by omega) (by omega) hc765 ?_
                        refine gz_s 1 (pc' := 192) (L' := [some (.ref x), some (.int (zi m)), some (.int (zi a)), some (.int (zi n)), some (.int (zi zq1)), some (.int (zi jn14v0)), some (.int (zi zq706)), some (.int (zi zq729)), some (.int (zi 0)), some (.int (zi zq752))]) (S' := [.int (zi zq752)]) rfl ?_
                        have k1184 := sq752.2.1
                        have k1184b := sq752.2.2.1
                        have hl1185 : hq752.2.2.2.1 co = h.2.2.2.1 co := congrFun sq752.2.2.2.2.1 co
                        have hl1186 : hq752.2.2.2.1 dm = h.2.2.2.1 dm := congrFun sq752.2.2.2.2.1 dm
                        have k1187 := sq752.2.1
                        have k1187b := sq752.2.2.1
                        have hl1188 : hq752.2.2.2.1 co = h.2.2.2.1 co := congrFun sq752.2.2.2.2.1 co
                        have hl1189 : hq752.2.2.2.1 dm = h.2.2.2.1 dm := congrFun sq752.2.2.2.2.1 dm
                        have hpc1190 : gPC ty pic b0 b1 b2 (hq752.2.2.2.1 dm : Int) hq752 := gPC.zero sq752.1 tpic s755 tbn s756 tb0 s757 tb1 s758 tb2 s759 tco s760 tdm (by rw [(by omega : (0 : Int) = cn)]; exact s762) bl s763 (by omega) w s764 (by omega) (by omega) (by omega) (by omega) (by omega)
                        have G1191 : gSg [112, 113] [] [54002, 54003, 54004, 54005, 54006, 54007, 54008, 54010, 54011, 54012, 54013, 82000, 82001, 82002, 82003, 82004, 82005, 82006, 82007, 82008, 83000, 83001, 83002, 83003, 83004, 83005, 83006, 83007, 83008, 84000, 84001, 84002, 84003, 84004, 84005, 84006, 84007, 84008, 112999, 113999] ty h ty hq752 := gSg.ss G0 sq752 (by decide)
                        exact gz_end (I := .ireturn) (len := 1) rfl (Or.inl rfl) ⟨ty, G1191, zq752, cn, (hq752.2.2.2.1 dm : Int), rfl, (by omega), (by omega), s762, (by omega), (by omega), (by omega), (by omega), (by dsimp only; omega), (by dsimp only; omega), (by omega), hpc1190⟩
                    · refine gy_icF rfl (by decide) (by decide) (by omega) (by omega) hc751 ?_
                      refine gy_s 3 (pc' := 146) (L' := [some (.ref x), some (.int (zi m)), some (.int (zi a)), some (.int (zi n)), some (.int (zi zq1)), some (.int (zi jn14v0)), some (.int (zi zq706)), some (.int (zi zq729)), none, none]) (S' := [.int ((zi a) + (zi 5))]) (L2 := [some (.ref x), some (.int (zi m)), some (.int (zi a)), some (.int (zi n)), some (.int (zi zq1)), some (.int (zi jn14v0)), some (.int (zi zq706)), some (.int (zi zq729)), none, none]) (S2 := [.int (zi (a + 5))]) rfl (by simp only [zi_add, zi_sub, zi_mul, zi_neg, zi_and1, zi_and7, zi_and15, zi_and31, zi_and255, Int.reduceAdd, Int.reduceMul, Int.reduceSub]) (by simp only [zi_add, zi_sub, zi_mul, zi_neg, zi_and1, zi_and7, zi_and15, zi_and31, zi_and255, Int.reduceAdd, Int.reduceMul, Int.reduceSub]) ?_
                      have k1192 := sq729.2.1
                      have k1192b := sq729.2.2.1
                      have hl1193 : hq729.2.2.2.1 co = h.2.2.2.1 co := congrFun sq729.2.2.2.2.1 co
                      have hl1194 : hq729.2.2.2.1 dm = h.2.2.2.1 dm := congrFun sq729.2.2.2.2.1 dm
                      have k1195 := sq729.2.1
                      have k1195b := sq729.2.2.1
                      have hl1196 : hq729.2.2.2.1 co = h.2.2.2.1 co := congrFun sq729.2.2.2.2.1 co
                      have hl1197 : hq729.2.2.2.1 dm = h.2.2.2.1 dm := congrFun sq729.2.2.2.2.1 dm
                      have hpc1198 : gPC ty pic b0 b1 b2 (hq729.2.2.2.1 dm : Int) hq729 := gPC.zero sq729.1 tpic s732 tbn s733 tb0 s734 tb1 s735 tb2 s736 tco s737 tdm (by rw [(by omega : (0 : Int) = cn)]; exact s739) bl s740 (by omega) w s741 (by omega) (by omega) (by omega) (by omega) (by omega)
                      have G1199 : gSg [112, 113] [] [54002, 54003, 54004, 54005, 54006, 54007, 54008, 54010, 54011, 54012, 54013, 82000, 82001, 82002, 82003, 82004, 82005, 82006, 82007, 82008, 83000, 83001, 83002, 83003, 83004, 83005, 83006, 83007, 83008, 84000, 84001, 84002, 84003, 84004, 84005, 84006, 84007, 84008, 112999, 113999] ty h ty hq729 := gSg.ss G0 sq729 (by decide)
                      exact gz_end (I := .ireturn) (len := 1) rfl (Or.inl rfl) ⟨ty, G1199, a + 5, cn, (hq729.2.2.2.1 dm : Int), rfl, (by omega), (by omega), s739, (by omega), (by omega), (by omega), (by omega), (by dsimp only; omega), (by dsimp only; omega), (by omega), hpc1198⟩
                · refine gy_icF rfl (by decide) (by decide) (by omega) (by omega) hc728 ?_
                  refine gy_s 3 (pc' := 117) (L' := [some (.ref x), some (.int (zi m)), some (.int (zi a)), some (.int (zi n)), some (.int (zi zq1)), some (.int (zi jn14v0)), some (.int (zi zq706)), none, none, none]) (S' := [.int ((zi a) + (zi 3))]) (L2 := [some (.ref x), some (.int (zi m)), some (.int (zi a)), some (.int (zi n)), some (.int (zi zq1)), some (.int (zi jn14v0)), some (.int (zi zq706)), none, none, none]) (S2 := [.int (zi (a + 3))]) rfl (by simp only [zi_add, zi_sub, zi_mul, zi_neg, zi_and1, zi_and7, zi_and15, zi_and31, zi_and255, Int.reduceAdd, Int.reduceMul, Int.reduceSub]) (by simp only [zi_add, zi_sub, zi_mul, zi_neg, zi_and1, zi_and7, zi_and15, zi_and31, zi_and255, Int.reduceAdd, Int.reduceMul, Int.reduceSub]) ?_
                  have k1200 := sq706.2.1
                  have k1200b := sq706.2.2.1
                  have hl1201 : hq706.2.2.2.1 co = h.2.2.2.1 co := congrFun sq706.2.2.2.2.1 co
                  have hl1202 : hq706.2.2.2.1 dm = h.2.2.2.1 dm := congrFun sq706.2.2.2.2.1 dm
                  have k1203 := sq706.2.1
                  have k1203b := sq706.2.2.1
                  have hl1204 : hq706.2.2.2.1 co = h.2.2.2.1 co := congrFun sq706.2.2.2.2.1 co
                  have hl1205 : hq706.2.2.2.1 dm = h.2.2.2.1 dm := congrFun sq706.2.2.2.2.1 dm
                  have hpc1206 : gPC ty pic b0 b1 b2 (hq706.2.2.2.1 dm : Int) hq706 := gPC.zero sq706.1 tpic s709 tbn s710 tb0 s711 tb1 s712 tb2 s713 tco s714 tdm (by rw [(by omega : (0 : Int) = cn)]; exact s716) bl s717 (by omega) w s718 (by omega) (by omega) (by omega) (by omega) (by omega)
                  have G1207 : gSg [112, 113] [] [54002, 54003, 54004, 54005, 54006, 54007, 54008, 54010, 54011, 54012, 54013, 82000, 82001, 82002, 82003, 82004, 82005, 82006, 82007, 82008, 83000, 83001, 83002, 83003, 83004, 83005, 83006, 83007, 83008, 84000, 84001, 84002, 84003, 84004, 84005, 84006, 84007, 84008, 112999, 113999] ty h ty hq706 := gSg.ss G0 sq706 (by decide)
                  exact gz_end (I := .ireturn) (len := 1) rfl (Or.inl rfl) ⟨ty, G1207, a + 3, cn, (hq706.2.2.2.1 dm : Int), rfl, (by omega), (by omega), s716, (by omega), (by omega), (by omega), (by omega), (by dsimp only; omega), (by dsimp only; omega), (by omega), hpc1206⟩
          · refine gy_icF rfl (by decide) (by decide) (by omega) (by omega) hc202 ?_
            refine gy_s 3 (pc' := 74) (L' := [some (.ref x), some (.int (zi m)), some (.int (zi a)), some (.int (zi n)), some (.int (zi zq1)), some (.int (zi jn14v0)), none, none, none, none]) (S' := [.int ((zi a) + (zi 2))]) (L2 := [some (.ref x), some (.int (zi m)), some (.int (zi a)), some (.int (zi n)), some (.int (zi zq1)), some (.int (zi jn14v0)), none, none, none, none]) (S2 := [.int (zi (a + 2))]) rfl (by simp only [zi_add, zi_sub, zi_mul, zi_neg, zi_and1, zi_and7, zi_and15, zi_and31, zi_and255, Int.reduceAdd, Int.reduceMul, Int.reduceSub]) (by simp only [zi_add, zi_sub, zi_mul, zi_neg, zi_and1, zi_and7, zi_and15, zi_and31, zi_and255, Int.reduceAdd, Int.reduceMul, Int.reduceSub]) ?_
            have k1208 := sq189.2.1
            have k1208b := sq189.2.2.1
            have hl1209 : hq189.2.2.2.1 co = h.2.2.2.1 co := congrFun sq189.2.2.2.2.1 co
            have hl1210 : hq189.2.2.2.1 dm = h.2.2.2.1 dm := congrFun sq189.2.2.2.2.1 dm
            have k1211 := sq189.2.1
            have k1211b := sq189.2.2.1
            have hl1212 : hq189.2.2.2.1 co = h.2.2.2.1 co := congrFun sq189.2.2.2.2.1 co
            have hl1213 : hq189.2.2.2.1 dm = h.2.2.2.1 dm := congrFun sq189.2.2.2.2.1 dm
            have hpc1214 : gPC ty pic b0 b1 b2 (hq189.2.2.2.1 dm : Int) hq189 := gPC.zero sq189.1 tpic s192 tbn s193 tb0 s194 tb1 s195 tb2 s196 tco s197 tdm (by rw [(by omega : (0 : Int) = cn)]; exact s199) bl s200 (by omega) w s201 (by omega) (by omega) (by omega) (by omega) (by omega)
            have G1215 : gSg [112, 113] [] [54002, 54003, 54004, 54005, 54006, 54007, 54008, 54010, 54011, 54012, 54013, 82000, 82001, 82002, 82003, 82004, 82005, 82006, 82007, 82008, 83000, 83001, 83002, 83003, 83004, 83005, 83006, 83007, 83008, 84000, 84001, 84002, 84003, 84004, 84005, 84006, 84007, 84008, 112999, 113999] ty h ty hq189 := gSg.ss G0 sq189 (by decide)
            exact gz_end (I := .ireturn) (len := 1) rfl (Or.inl rfl) ⟨ty, G1215, a + 2, cn, (hq189.2.2.2.1 dm : Int), rfl, (by omega), (by omega), s199, (by omega), (by omega), (by omega), (by omega), (by dsimp only; omega), (by dsimp only; omega), (by omega), hpc1214⟩
        · refine gy_icF rfl (by decide) (by decide) (by omega) (by omega) hc188 ?_
          refine gz_s 1 (pc' := 55) (L' := [some (.ref x), some (.int (zi m)), some (.int (zi a)), some (.int (zi n)), some (.int (zi zq1)), some (.int (zi jn14v0)), none, none, none, none]) (S' := [.int (zi a)]) rfl ?_
          have k1216 := sq1.2.1
          have k1216b := sq1.2.2.1
          have hl1217 : hq1.2.2.2.1 co = h.2.2.2.1 co := congrFun sq1.2.2.2.2.1 co
          have hl1218 : hq1.2.2.2.1 dm = h.2.2.2.1 dm := congrFun sq1.2.2.2.2.1 dm
          have k1219 := sq1.2.1
          have k1219b := sq1.2.2.1
          have hl1220 : hq1.2.2.2.1 co = h.2.2.2.1 co := congrFun sq1.2.2.2.2.1 co
          have hl1221 : hq1.2.2.2.1 dm = h.2.2.2.1 dm := congrFun sq1.2.2.2.2.1 dm
          have hpc1222 : gPC ty pic b0 b1 b2 (hq1.2.2.2.1 dm : Int) hq1 := gPC.zero sq1.1 tpic s4 tbn s5 tb0 s6 tb1 s7 tb2 s8 tco s9 tdm (by rw [(by omega : (0 : Int) = cn)]; exact s11) bl s12 (by omega) w s13 (by omega) (by omega) (by omega) (by omega) (by omega)
          have G1223 : gSg [112, 113] [] [54002, 54003, 54004, 54005, 54006, 54007, 54008, 54010, 54011, 54012, 54013, 82000, 82001, 82002, 82003, 82004, 82005, 82006, 82007, 82008, 83000, 83001, 83002, 83003, 83004, 83005, 83006, 83007, 83008, 84000, 84001, 84002, 84003, 84004, 84005, 84006, 84007, 84008, 112999, 113999] ty h ty hq1 := gSg.ss G0 sq1 (by decide)
          exact gz_end (I := .ireturn) (len := 1) rfl (Or.inl rfl) ⟨ty, G1223, a, cn, (hq1.2.2.2.1 dm : Int), rfl, (by omega), (by omega), s11, (by omega), (by omega), (by omega), (by omega), (by dsimp only; omega), (by dsimp only; omega), (by omega), hpc1222⟩
  by_cases hc1224 : (zq1 : Int) = 1
  · refine gy_icT (pc' := 25) rfl (by decide) (by decide) (by omega) (by omega) hc1224 ?_
    refine gz_s 2 (pc' := 30) (L' := [some (.ref x), some (.int (zi m)), some (.int (zi a)), some (.int (zi n)), some (.int (zi zq1)), none, none, none, none, none]) (S' := [.int (zi 1)]) rfl ?_
    exact jn14 1 (by omega)
  · refine gy_icF rfl (by decide) (by decide) (by omega) (by omega) hc1224 ?_
    refine gz_s 2 (pc' := 22) (L' := [some (.ref x), some (.int (zi m)), some (.int (zi a)), some (.int (zi n)), some (.int (zi zq1)), none, none, none, none, none]) (S' := [.int (zi 3), .int (zi zq1)]) rfl ?_
    by_cases hc1225 : ¬ (zq1 : Int) = 3
    · refine gy_icT (pc' := 29) rfl (by decide) (by decide) (by omega) (by omega) hc1225 ?_
      refine gz_s 1 (pc' := 30) (L' := [some (.ref x), some (.int (zi m)), some (.int (zi a)), some (.int (zi n)), some (.int (zi zq1)), none, none, none, none, none]) (S' := [.int (zi 0)]) rfl ?_
      exact jn14 0 (by omega)
    · refine gy_icF rfl (by decide) (by decide) (by omega) (by omega) hc1225 ?_
      refine gz_s 2 (pc' := 30) (L' := [some (.ref x), some (.int (zi m)), some (.int (zi a)), some (.int (zi n)), some (.int (zi zq1)), none, none, none, none, none]) (S' := [.int (zi 1)]) rfl ?_
      exact jn14 1 (by omega)
