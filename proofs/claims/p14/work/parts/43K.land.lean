/-! ===== methods of the landed text (by program) ===== -/
set_option maxRecDepth 20000 in
set_option maxHeartbeats 4000000 in
theorem cl_Reader_readSegment (d : Nat) {ty : Nat → Nat} {h : gH} (hJ : gJ rT 1027 ty h) (x : Nat) (tx : ty x = 65) (m : Int) (rm : 0 ≤ m ∧ m ≤ 255) (a : Int) (ra : 0 ≤ a ∧ a ≤ 2001) (src : Nat) (esrc : h.2.2.2.2 x 0 = .ref src) (tsrc : ty src = 51) (pic : Nat) (epic : h.2.2.2.2 x 1 = .ref pic) (tpic : ty pic = 54) (bn : Nat) (ebn : h.2.2.2.2 pic 0 = .ref bn) (tbn : ty bn = 57) (b0 : Nat) (eb0 : h.2.2.2.2 bn 0 = .ref b0) (tb0 : ty b0 = 82) (b1 : Nat) (eb1 : h.2.2.2.2 bn 1 = .ref b1) (tb1 : ty b1 = 83) (b2 : Nat) (eb2 : h.2.2.2.2 bn 2 = .ref b2) (tb2 : ty b2 = 84) (sc : Nat) (esc : h.2.2.2.2 x 2 = .ref sc) (tsc : ty sc = 66) (sz : Int) (esz : h.2.2.2.2 src 1 = .int (zi sz)) (rsz : 0 ≤ sz ∧ sz ≤ 2000) (cn : Int) (ecn : h.2.2.2.2 pic 7 = .int (zi cn)) (rcn : 0 ≤ cn ∧ cn ≤ 3) (p0 : Int) (ep0 : h.2.2.2.2 x 3 = .int (zi p0)) (rp0 : 0 ≤ p0 ∧ p0 ≤ 2002) (ld : Int) (rld : 0 ≤ ld ∧ ld ≤ 192) (pp0 : m = 218 → 1 ≤ cn) (pp1 : (m = 192 ∨ m = 194) → cn = 0) (uq : gUq ty) (hypc : gPC ty pic b0 b1 b2 ld h) : gz gPP gGG gcn (d + 4) gt22 0 (gent [.ref x, .int (zi m), .int (zi a)] 4) [] h (fun q _ => ∃ ty9 : Nat → Nat, gSg [112, 113] [] [54002, 54003, 54004, 54005, 54006, 54007, 54008, 54009, 54010, 54011, 54012, 54013, 58999, 65003, 66001, 66002, 66003, 66004, 66005, 66011, 66012, 82000, 82001, 82002, 82003, 82004, 82005, 82006, 82007, 82008, 82009, 82010, 83000, 83001, 83002, 83003, 83004, 83005, 83006, 83007, 83008, 83009, 83010, 84000, 84001, 84002, 84003, 84004, 84005, 84006, 84007, 84008, 84009, 84010, 102999, 103999, 112999, 113999] ty h ty9 q.2.2 ∧ ∃ z cn1 sg sb fr tt pl1 ld1 : Int, gfin gt22 q.1 q.2.1 = some (some (.int (zi z))) ∧ (-3) ≤ z ∧ z ≤ 4400 ∧ q.2.2.2.2.2.2 pic 7 = .int (zi cn1) ∧ 0 ≤ cn1 ∧ cn1 ≤ 3 ∧ q.2.2.2.2.2.2 sc 11 = .int (zi sg) ∧ 0 ≤ sg ∧ sg ≤ 1 ∧ q.2.2.2.2.2.2 sc 12 = .int (zi sb) ∧ 0 ≤ sb ∧ sb ≤ 2 ∧ q.2.2.2.2.2.2 sc 2 = .int (zi fr) ∧ (-1) ≤ fr ∧ fr ≤ 255 ∧ q.2.2.2.2.2.2 sc 3 = .int (zi tt) ∧ (-1) ≤ tt ∧ tt ≤ 255 ∧ q.2.2.2.2.2.2 x 3 = .int (zi pl1) ∧ 0 ≤ pl1 ∧ pl1 ≤ 2002 ∧ 0 ≤ ld1 ∧ ld1 ≤ 192 ∧ (z = -3 → (sb < cn1 ∧ 1 ≤ cn1 ∧ 0 ≤ fr ∧ fr ≤ tt ∧ tt ≤ 63)) ∧ (((q.2.2.1 : Int) - h.1) ≤ 2 * (ld1 - ld)) ∧ (((q.2.2.2.1 : Int) - h.2.1) ≤ 12480 * (ld1 - ld)) ∧ (ld ≤ ld1) ∧ (gPC ty9 pic b0 b1 b2 ld1 q.2.2)) := by
  have hS : gSs rT 1027 ty [54002, 54003, 54004, 54005, 54006, 54007, 54008, 54009, 54010, 54011, 54012, 54013, 58999, 65003, 66001, 66002, 66003, 66004, 66005, 66011, 66012, 82000, 82001, 82002, 82003, 82004, 82005, 82006, 82007, 82008, 82009, 82010, 83000, 83001, 83002, 83003, 83004, 83005, 83006, 83007, 83008, 83009, 83010, 84000, 84001, 84002, 84003, 84004, 84005, 84006, 84007, 84008, 84009, 84010, 102999, 103999, 112999, 113999] h h := gSs.rf hJ
  have G0 : gSg [112, 113] [] [54002, 54003, 54004, 54005, 54006, 54007, 54008, 54009, 54010, 54011, 54012, 54013, 58999, 65003, 66001, 66002, 66003, 66004, 66005, 66011, 66012, 82000, 82001, 82002, 82003, 82004, 82005, 82006, 82007, 82008, 82009, 82010, 83000, 83001, 83002, 83003, 83004, 83005, 83006, 83007, 83008, 83009, 83010, 84000, 84001, 84002, 84003, 84004, 84005, 84006, 84007, 84008, 84009, 84010, 102999, 103999, 112999, 113999] ty h ty h := gSg.rf hJ (fun x hx => by cases hx)
  refine gz_s 1 (pc' := 1) (L' := [some (.ref x), some (.int (zi m)), some (.int (zi a)), none]) (S' := [.ref x]) rfl ?_
  refine gs_gtk rfl (by decide) rfl hS.1 tx rfl rfl esrc ?_
  refine gz_s 1 (pc' := 5) (L' := [some (.ref x), some (.int (zi m)), some (.int (zi a)), none]) (S' := [.int (zi a), .ref src]) rfl ?_
  refine gz_call rfl (by decide) rfl (by decide) (by decide) (gcal_of rfl rfl rfl (Nat.le_of_ble_eq_true rfl) (gJ.recv (G := gGG) hS.1 tsrc rfl rfl)) (cl_Collected_twoAt _ hS.1 src tsrc a (by omega) sz esz (by omega) uq) (fun q1 _ wq1 => ?_)
  obtain ⟨pq1, oq1, hq1⟩ := q1
  obtain ⟨xq1, zq1, gq1, aq1, bq1, uq1_0⟩ := wq1
  refine ⟨_, gq1, ?_⟩
  show gz gPP gGG gcn _ _ 8 [some (.ref x), some (.int (zi m)), some (.int (zi a)), none] [.int (zi zq1)] hq1 _
  have sq1 : gSs rT 1027 ty [54002, 54003, 54004, 54005, 54006, 54007, 54008, 54009, 54010, 54011, 54012, 54013, 58999, 65003, 66001, 66002, 66003, 66004, 66005, 66011, 66012, 82000, 82001, 82002, 82003, 82004, 82005, 82006, 82007, 82008, 82009, 82010, 83000, 83001, 83002, 83003, 83004, 83005, 83006, 83007, 83008, 83009, 83010, 84000, 84001, 84002, 84003, 84004, 84005, 84006, 84007, 84008, 84009, 84010, 102999, 103999, 112999, 113999] h hq1 := gSs.tr hS xq1 (by decide)
  have s2 := (xq1.2.2.2.2.2 x 0 (by rw [tx]; decide)).trans esrc
  have s3 := (xq1.2.2.2.2.2 x 1 (by rw [tx]; decide)).trans epic
  have s4 := (xq1.2.2.2.2.2 pic 0 (by rw [tpic]; decide)).trans ebn
  have s5 := (xq1.2.2.2.2.2 bn 0 (by rw [tbn]; decide)).trans eb0
  have s6 := (xq1.2.2.2.2.2 bn 1 (by rw [tbn]; decide)).trans eb1
  have s7 := (xq1.2.2.2.2.2 bn 2 (by rw [tbn]; decide)).trans eb2
  have s8 := (xq1.2.2.2.2.2 x 2 (by rw [tx]; decide)).trans esc
  have s9 := (xq1.2.2.2.2.2 src 1 (by rw [tsrc]; decide)).trans esz
  have s10 := (xq1.2.2.2.2.2 pic 7 (by rw [tpic]; decide)).trans ecn
  have s11 := (xq1.2.2.2.2.2 x 3 (by rw [tx]; decide)).trans ep0
  have pr12 := gPC.fr xq1.2 (by decide) hypc
  refine gz_s 3 (pc' := 11) (L' := [some (.ref x), some (.int (zi m)), some (.int (zi a)), some (.int (zi zq1))]) (S' := [.int (zi 2), .int (zi zq1)]) rfl ?_
  by_cases hc13 : (zq1 : Int) < 2
  · refine gy_icT (pc' := 27) rfl (by decide) (by decide) (by omega) (by omega) hc13 ?_
    refine gz_s 1 (pc' := 28) (L' := [some (.ref x), some (.int (zi m)), some (.int (zi a)), some (.int (zi zq1))]) (S' := [.int (zi a)]) rfl ?_
    obtain ⟨z14, ez14, az14, bz14⟩ := gJ.int (k := 11) (G := gGG) sq1.1 tsc rfl rfl rfl
    obtain ⟨z15, ez15, az15, bz15⟩ := gJ.int (k := 12) (G := gGG) sq1.1 tsc rfl rfl rfl
    obtain ⟨z16, ez16, az16, bz16⟩ := gJ.int (k := 2) (G := gGG) sq1.1 tsc rfl rfl rfl
    obtain ⟨z17, ez17, az17, bz17⟩ := gJ.int (k := 3) (G := gGG) sq1.1 tsc rfl rfl rfl
    have k18 := sq1.2.1
    have k18b := sq1.2.2.1
    have G19 : gSg [112, 113] [] [54002, 54003, 54004, 54005, 54006, 54007, 54008, 54009, 54010, 54011, 54012, 54013, 58999, 65003, 66001, 66002, 66003, 66004, 66005, 66011, 66012, 82000, 82001, 82002, 82003, 82004, 82005, 82006, 82007, 82008, 82009, 82010, 83000, 83001, 83002, 83003, 83004, 83005, 83006, 83007, 83008, 83009, 83010, 84000, 84001, 84002, 84003, 84004, 84005, 84006, 84007, 84008, 84009, 84010, 102999, 103999, 112999, 113999] ty h ty hq1 := gSg.ss G0 sq1 (by decide)
    exact gz_end (I := .ireturn) (len := 1) rfl (Or.inl rfl) ⟨ty, G19, a, cn, z14, z15, z16, z17, p0, ld, rfl, (by omega), (by omega), s10, (by omega), (by omega), ez14, (by omega), (by omega), ez15, (by omega), (by omega), ez16, (by omega), (by omega), ez17, (by omega), (by omega), s11, (by omega), (by omega), (by omega), (by omega), (by omega), (by dsimp only; omega), (by dsimp only; omega), (by omega), pr12⟩
  · refine gy_icF rfl (by decide) (by decide) (by omega) (by omega) hc13 ?_
    refine gy_s 4 (pc' := 18) (L' := [some (.ref x), some (.int (zi m)), some (.int (zi a)), some (.int (zi zq1))]) (S' := [.ref x, .int ((zi a) + (zi zq1))]) (L2 := [some (.ref x), some (.int (zi m)), some (.int (zi a)), some (.int (zi zq1))]) (S2 := [.ref x, .int (zi (a + zq1))]) rfl (by simp only [zi_add, zi_sub, zi_mul, zi_neg, zi_and1, zi_and7, zi_and15, zi_and31, zi_and255]) (by simp only [zi_add, zi_sub, zi_mul, zi_neg, zi_and1, zi_and7, zi_and15, zi_and31, zi_and255]) ?_
    refine gs_gtk rfl (by decide) rfl sq1.1 tx rfl rfl s2 ?_
    refine gs_gtk rfl (by decide) rfl sq1.1 tsrc rfl rfl s9 ?_
    by_cases hc20 : (a + zq1 : Int) ≤ sz
    · refine gy_icT (pc' := 29) rfl (by decide) (by decide) (by omega) (by omega) hc20 ?_
      refine gy_s 4 (pc' := 33) (L' := [some (.ref x), some (.int (zi m)), some (.int (zi a)), some (.int (zi zq1))]) (S' := [.int ((zi a) + (zi zq1)), .ref x]) (L2 := [some (.ref x), some (.int (zi m)), some (.int (zi a)), some (.int (zi zq1))]) (S2 := [.int (zi (a + zq1)), .ref x]) rfl (by simp only [zi_add, zi_sub, zi_mul, zi_neg, zi_and1, zi_and7, zi_and15, zi_and31, zi_and255]) (by simp only [zi_add, zi_sub, zi_mul, zi_neg, zi_and1, zi_and7, zi_and15, zi_and31, zi_and255]) ?_
      refine gs_put rfl (by decide) rfl sq1 tx rfl rfl rfl rfl (Or.inl rfl) (by decide) (by omega) (by omega) (fun h21 sh21 eh21 fh21 => ?_)
      have pr22 := gPC.pk fh21 (sh21.2.2.2.2.1.trans sq1.2.2.2.2.1.symm) tx (by decide) pr12
      have s23 := (fh21 x 0 (fun q => absurd q.2 (by decide))).trans s2
      have s24 := (fh21 x 1 (fun q => absurd q.2 (by decide))).trans s3
      have s25 := (fh21 pic 0 (fun q => absurd q.2 (by decide))).trans s4
      have s26 := (fh21 bn 0 (fun q => absurd (((tbn).symm.trans (congrArg ty q.1)).trans tx) (by decide))).trans s5
      have s27 := (fh21 bn 1 (fun q => absurd (((tbn).symm.trans (congrArg ty q.1)).trans tx) (by decide))).trans s6
      have s28 := (fh21 bn 2 (fun q => absurd (((tbn).symm.trans (congrArg ty q.1)).trans tx) (by decide))).trans s7
      have s29 := (fh21 x 2 (fun q => absurd q.2 (by decide))).trans s8
      have s30 := (fh21 src 1 (fun q => absurd q.2 (by decide))).trans s9
      have s31 := (fh21 pic 7 (fun q => absurd q.2 (by decide))).trans s10
      refine gz_s 1 (pc' := 37) (L' := [some (.ref x), some (.int (zi m)), some (.int (zi a)), some (.int (zi zq1))]) (S' := [.int (zi m)]) rfl ?_
      rcases (by omega : m = 192 ∨ m = 194 ∨ m = 196 ∨ m = 218 ∨ m = 219 ∨ m = 221 ∨ (¬ m = 192 ∧ ¬ m = 194 ∧ ¬ m = 196 ∧ ¬ m = 218 ∧ ¬ m = 219 ∧ ¬ m = 221)) with he32 | he32 | he32 | he32 | he32 | he32 | he32
      · refine gy_look (pc' := 127) (v := 192) (off := 90) rfl (by decide) (by decide) he32 (by decide) rfl (by decide) ?_
        have hpq33 := pr22
        obtain ⟨_, bno, coo, dmo, vvo, ⟨tbno, tcoo, tdmo⟩, ⟨er0o, er1o, er2o, er3o, er4o, er5o⟩, hvvo, hrro, ⟨yy0o, yy1o, yy2o, yy3o, yy4o, yy5o, yy6o, yy7o⟩, ll0o, ll1o, ll2o, ll3o⟩ := hpq33
        have excno : h21.2.2.2.2 pic 7 = .int (zi (vvo 0)) := hvvo (0, 7, 0) (by decide)
        have rrcno : 0 ≤ vvo 0 ∧ vvo 0 ≤ 3 := hrro (0, 0, 3) (by decide)
        have lk34 : vvo 0 = cn := gv_i excno s31 (by omega) (by omega)
        have exuco : h21.2.2.2.2 pic 12 = .int (zi (vvo 1)) := hvvo (0, 12, 1) (by decide)
        have rruco : 0 ≤ vvo 1 ∧ vvo 1 ≤ 8 := hrro (1, 0, 8) (by decide)
        have exuro : h21.2.2.2.2 pic 13 = .int (zi (vvo 2)) := hvvo (0, 13, 2) (by decide)
        have rruro : 0 ≤ vvo 2 ∧ vvo 2 ≤ 8 := hrro (2, 0, 8) (by decide)
        have exblo : h21.2.2.2.2 pic 8 = .int (zi (vvo 3)) := hvvo (0, 8, 3) (by decide)
        have rrblo : 0 ≤ vvo 3 ∧ vvo 3 ≤ 192 := hrro (3, 0, 192) (by decide)
        have exwo : h21.2.2.2.2 pic 5 = .int (zi (vvo 4)) := hvvo (0, 5, 4) (by decide)
        have rrwo : 0 ≤ vvo 4 ∧ vvo 4 ≤ 64 := hrro (4, 0, 64) (by decide)
        have exhho : h21.2.2.2.2 pic 6 = .int (zi (vvo 5)) := hvvo (0, 6, 5) (by decide)
        have rrhho : 0 ≤ vvo 5 ∧ vvo 5 ≤ 64 := hrro (5, 0, 64) (by decide)
        have exgho : h21.2.2.2.2 pic 10 = .int (zi (vvo 6)) := hvvo (0, 10, 6) (by decide)
        have rrgho : 1 ≤ vvo 6 ∧ vvo 6 ≤ 2 := hrro (6, 1, 2) (by decide)
        have exgvo : h21.2.2.2.2 pic 11 = .int (zi (vvo 7)) := hvvo (0, 11, 7) (by decide)
        have rrgvo : 1 ≤ vvo 7 ∧ vvo 7 ≤ 2 := hrro (7, 1, 2) (by decide)
        have exhb0o : h21.2.2.2.2 b0 1 = .int (zi (vvo 8)) := hvvo (1, 1, 8) (by decide)
        have rrhb0o : (-1) ≤ vvo 8 ∧ vvo 8 ≤ 15 := hrro (8, (-1), 15) (by decide)
        have exvb0o : h21.2.2.2.2 b0 2 = .int (zi (vvo 9)) := hvvo (1, 2, 9) (by decide)
        have rrvb0o : 0 ≤ vvo 9 ∧ vvo 9 ≤ 15 := hrro (9, 0, 15) (by decide)
        have extq0o : h21.2.2.2.2 b0 3 = .int (zi (vvo 10)) := hvvo (1, 3, 10) (by decide)
        have rrtq0o : (-1) ≤ vvo 10 ∧ vvo 10 ≤ 255 := hrro (10, (-1), 255) (by decide)
        have exC0o : h21.2.2.2.2 b0 4 = .int (zi (vvo 11)) := hvvo (1, 4, 11) (by decide)
        have rrC0o : 0 ≤ vvo 11 ∧ vvo 11 ≤ 16 := hrro (11, 0, 16) (by decide)
        have exR0o : h21.2.2.2.2 b0 5 = .int (zi (vvo 12)) := hvvo (1, 5, 12) (by decide)
        have rrR0o : 0 ≤ vvo 12 ∧ vvo 12 ≤ 16 := hrro (12, 0, 16) (by decide)
        have exoc0o : h21.2.2.2.2 b0 6 = .int (zi (vvo 13)) := hvvo (1, 6, 13) (by decide)
        have rroc0o : 0 ≤ vvo 13 ∧ vvo 13 ≤ 16 := hrro (13, 0, 16) (by decide)
        have exor0o : h21.2.2.2.2 b0 7 = .int (zi (vvo 14)) := hvvo (1, 7, 14) (by decide)
        have rror0o : 0 ≤ vvo 14 ∧ vvo 14 ≤ 16 := hrro (14, 0, 16) (by decide)
        have exf0o : h21.2.2.2.2 b0 8 = .int (zi (vvo 15)) := hvvo (1, 8, 15) (by decide)
        have rrf0o : 0 ≤ vvo 15 ∧ vvo 15 ≤ 192 := hrro (15, 0, 192) (by decide)
        have exhb1o : h21.2.2.2.2 b1 1 = .int (zi (vvo 16)) := hvvo (2, 1, 16) (by decide)
        have rrhb1o : (-1) ≤ vvo 16 ∧ vvo 16 ≤ 15 := hrro (16, (-1), 15) (by decide)
        have exvb1o : h21.2.2.2.2 b1 2 = .int (zi (vvo 17)) := hvvo (2, 2, 17) (by decide)
        have rrvb1o : 0 ≤ vvo 17 ∧ vvo 17 ≤ 15 := hrro (17, 0, 15) (by decide)
        have extq1o : h21.2.2.2.2 b1 3 = .int (zi (vvo 18)) := hvvo (2, 3, 18) (by decide)
        have rrtq1o : (-1) ≤ vvo 18 ∧ vvo 18 ≤ 255 := hrro (18, (-1), 255) (by decide)
        have exC1o : h21.2.2.2.2 b1 4 = .int (zi (vvo 19)) := hvvo (2, 4, 19) (by decide)
        have rrC1o : 0 ≤ vvo 19 ∧ vvo 19 ≤ 16 := hrro (19, 0, 16) (by decide)
        have exR1o : h21.2.2.2.2 b1 5 = .int (zi (vvo 20)) := hvvo (2, 5, 20) (by decide)
        have rrR1o : 0 ≤ vvo 20 ∧ vvo 20 ≤ 16 := hrro (20, 0, 16) (by decide)
        have exoc1o : h21.2.2.2.2 b1 6 = .int (zi (vvo 21)) := hvvo (2, 6, 21) (by decide)
        have rroc1o : 0 ≤ vvo 21 ∧ vvo 21 ≤ 16 := hrro (21, 0, 16) (by decide)
        have exor1o : h21.2.2.2.2 b1 7 = .int (zi (vvo 22)) := hvvo (2, 7, 22) (by decide)
        have rror1o : 0 ≤ vvo 22 ∧ vvo 22 ≤ 16 := hrro (22, 0, 16) (by decide)
        have exf1o : h21.2.2.2.2 b1 8 = .int (zi (vvo 23)) := hvvo (2, 8, 23) (by decide)
        have rrf1o : 0 ≤ vvo 23 ∧ vvo 23 ≤ 192 := hrro (23, 0, 192) (by decide)
        have exhb2o : h21.2.2.2.2 b2 1 = .int (zi (vvo 24)) := hvvo (3, 1, 24) (by decide)
        have rrhb2o : (-1) ≤ vvo 24 ∧ vvo 24 ≤ 15 := hrro (24, (-1), 15) (by decide)
        have exvb2o : h21.2.2.2.2 b2 2 = .int (zi (vvo 25)) := hvvo (3, 2, 25) (by decide)
        have rrvb2o : 0 ≤ vvo 25 ∧ vvo 25 ≤ 15 := hrro (25, 0, 15) (by decide)
        have extq2o : h21.2.2.2.2 b2 3 = .int (zi (vvo 26)) := hvvo (3, 3, 26) (by decide)
        have rrtq2o : (-1) ≤ vvo 26 ∧ vvo 26 ≤ 255 := hrro (26, (-1), 255) (by decide)
        have exC2o : h21.2.2.2.2 b2 4 = .int (zi (vvo 27)) := hvvo (3, 4, 27) (by decide)
        have rrC2o : 0 ≤ vvo 27 ∧ vvo 27 ≤ 16 := hrro (27, 0, 16) (by decide)
        have exR2o : h21.2.2.2.2 b2 5 = .int (zi (vvo 28)) := hvvo (3, 5, 28) (by decide)
        have rrR2o : 0 ≤ vvo 28 ∧ vvo 28 ≤ 16 := hrro (28, 0, 16) (by decide)
        have exoc2o : h21.2.2.2.2 b2 6 = .int (zi (vvo 29)) := hvvo (3, 6, 29) (by decide)
        have rroc2o : 0 ≤ vvo 29 ∧ vvo 29 ≤ 16 := hrro (29, 0, 16) (by decide)
        have exor2o : h21.2.2.2.2 b2 7 = .int (zi (vvo 30)) := hvvo (3, 7, 30) (by decide)
        have rror2o : 0 ≤ vvo 30 ∧ vvo 30 ≤ 16 := hrro (30, 0, 16) (by decide)
        have exf2o : h21.2.2.2.2 b2 8 = .int (zi (vvo 31)) := hvvo (3, 8, 31) (by decide)
        have rrf2o : 0 ≤ vvo 31 ∧ vvo 31 ≤ 192 := hrro (31, 0, 192) (by decide)
        have k35 := sh21.2.1
        have k35b := sh21.2.2.1
        have hl36 : h21.2.2.2.1 coo = h.2.2.2.1 coo := congrFun sh21.2.2.2.2.1 coo
        have hl37 : h21.2.2.2.1 dmo = h.2.2.2.1 dmo := congrFun sh21.2.2.2.2.1 dmo
        refine gz_s 4 (pc' := 131) (L' := [some (.ref x), some (.int (zi m)), some (.int (zi a)), some (.int (zi zq1))]) (S' := [.int (zi zq1), .int (zi a), .int (zi m), .ref x]) rfl ?_
        have k38 := sh21.2.1
        have k38b := sh21.2.2.1
        have hl39 : h21.2.2.2.1 coo = h.2.2.2.1 coo := congrFun sh21.2.2.2.2.1 coo
        have hl40 : h21.2.2.2.1 dmo = h.2.2.2.1 dmo := congrFun sh21.2.2.2.2.1 dmo
        have hl41 : h21.2.2.2.1 coo = h.2.2.2.1 coo := congrFun sh21.2.2.2.2.1 coo
        have hl42 : h21.2.2.2.1 dmo = h.2.2.2.1 dmo := congrFun sh21.2.2.2.2.1 dmo
        refine gz_call rfl (by decide) rfl (by decide) (by decide) (gcal_of rfl rfl rfl (Nat.le_of_ble_eq_true rfl) (gJ.recv (G := gGG) sh21.1 tx rfl rfl)) (cl_Reader_readFrame _ sh21.1 x tx m (by omega) a (by omega) zq1 (by omega) src s23 tsrc pic s24 tpic bn s25 tbn b0 s26 tb0 b1 s27 tb1 b2 s28 tb2 coo er4o tcoo dmo er5o tdmo sz s30 (by omega) (vvo 0) excno (by omega) (vvo 3) exblo (by omega) (vvo 4) exwo (by omega) (by omega) uq) (fun q43 _ wq43 => ?_)
        obtain ⟨pq43, oq43, hq43⟩ := q43
        obtain ⟨tyq43, xq43, zq43, fq43_0, xq43_0, gq43, aq43, bq43, efq43_0, afq43_0, bfq43_0, axq43_0, bxq43_0, uq43_0, uq43_1, uq43_2, yq43_0⟩ := wq43
        dsimp only at uq43_0 uq43_1
        refine ⟨_, gq43, ?_⟩
        show gz gPP gGG gcn _ _ 134 [some (.ref x), some (.int (zi m)), some (.int (zi a)), some (.int (zi zq1))] [.int (zi zq43)] hq43 _
        have G44 : gSg [112, 113] [] [54002, 54003, 54004, 54005, 54006, 54007, 54008, 54009, 54010, 54011, 54012, 54013, 58999, 65003, 66001, 66002, 66003, 66004, 66005, 66011, 66012, 82000, 82001, 82002, 82003, 82004, 82005, 82006, 82007, 82008, 82009, 82010, 83000, 83001, 83002, 83003, 83004, 83005, 83006, 83007, 83008, 83009, 83010, 84000, 84001, 84002, 84003, 84004, 84005, 84006, 84007, 84008, 84009, 84010, 102999, 103999, 112999, 113999] ty h tyq43 hq43 := gSg.tr (gSg.ss G0 sh21 (by decide)) xq43 (by decide) (by decide) (fun x hx => by cases hx)
        have t45 : tyq43 x = 65 := gSg.typ xq43 sh21.1 tx rfl
        have t46 : tyq43 src = 51 := gSg.typ xq43 sh21.1 tsrc rfl
        have t47 : tyq43 pic = 54 := gSg.typ xq43 sh21.1 tpic rfl
        have t48 : tyq43 bn = 57 := gSg.typ xq43 sh21.1 tbn rfl
        have t49 : tyq43 b0 = 82 := gSg.typ xq43 sh21.1 tb0 rfl
        have t50 : tyq43 b1 = 83 := gSg.typ xq43 sh21.1 tb1 rfl
        have t51 : tyq43 b2 = 84 := gSg.typ xq43 sh21.1 tb2 rfl
        have t52 : tyq43 sc = 66 := gSg.typ xq43 sh21.1 tsc rfl
        have t53 : tyq43 coo = 112 := gSg.typ xq43 sh21.1 tcoo rfl
        have hl54 : hq43.2.2.2.1 coo = h21.2.2.2.1 coo := gSg.len xq43 sh21.1 tcoo rfl
        have t55 : tyq43 dmo = 113 := gSg.typ xq43 sh21.1 tdmo rfl
        have hl56 : hq43.2.2.2.1 dmo = h21.2.2.2.1 dmo := gSg.len xq43 sh21.1 tdmo rfl
        have s57 := gSg.at xq43 sh21.1 tx rfl (by decide) s23
        have s58 := gSg.at xq43 sh21.1 tx rfl (by decide) s24
        have s59 := gSg.at xq43 sh21.1 tpic rfl (by decide) s25
        have s60 := gSg.at xq43 sh21.1 tbn rfl (by decide) s26
        have s61 := gSg.at xq43 sh21.1 tbn rfl (by decide) s27
        have s62 := gSg.at xq43 sh21.1 tbn rfl (by decide) s28
        have s63 := gSg.at xq43 sh21.1 tx rfl (by decide) s29
        have s64 := gSg.at xq43 sh21.1 tsrc rfl (by decide) s30
        have s65 := gSg.at xq43 sh21.1 tx rfl (by decide) eh21
        have uq66 := gSg.uq xq43 uq (by decide)
        have sS67 : gSs rT 1027 tyq43 [54002, 54003, 54004, 54005, 54006, 54007, 54008, 54009, 54010, 54011, 54012, 54013, 58999, 65003, 66001, 66002, 66003, 66004, 66005, 66011, 66012, 82000, 82001, 82002, 82003, 82004, 82005, 82006, 82007, 82008, 82009, 82010, 83000, 83001, 83002, 83003, 83004, 83005, 83006, 83007, 83008, 83009, 83010, 84000, 84001, 84002, 84003, 84004, 84005, 84006, 84007, 84008, 84009, 84010, 102999, 103999, 112999, 113999] hq43 hq43 := gSs.rf xq43.1
        obtain ⟨z68, ez68, az68, bz68⟩ := gJ.int (k := 11) (G := gGG) sS67.1 t52 rfl rfl rfl
        obtain ⟨z69, ez69, az69, bz69⟩ := gJ.int (k := 12) (G := gGG) sS67.1 t52 rfl rfl rfl
        obtain ⟨z70, ez70, az70, bz70⟩ := gJ.int (k := 2) (G := gGG) sS67.1 t52 rfl rfl rfl
        obtain ⟨z71, ez71, az71, bz71⟩ := gJ.int (k := 3) (G := gGG) sS67.1 t52 rfl rfl rfl
        have hl72 : 0 ≤ hq43.2.2.2.1 coo ∧ hq43.2.2.2.1 coo ≤ 12288 := gJ.rowl (G := gGG) sS67.1 t53 rfl
        have hl73 : 0 ≤ hq43.2.2.2.1 dmo ∧ hq43.2.2.2.1 dmo ≤ 192 := gJ.rowl (G := gGG) sS67.1 t55 rfl
        have G74 : gSg [112, 113] [] [54002, 54003, 54004, 54005, 54006, 54007, 54008, 54009, 54010, 54011, 54012, 54013, 58999, 65003, 66001, 66002, 66003, 66004, 66005, 66011, 66012, 82000, 82001, 82002, 82003, 82004, 82005, 82006, 82007, 82008, 82009, 82010, 83000, 83001, 83002, 83003, 83004, 83005, 83006, 83007, 83008, 83009, 83010, 84000, 84001, 84002, 84003, 84004, 84005, 84006, 84007, 84008, 84009, 84010, 102999, 103999, 112999, 113999] ty h tyq43 hq43 := gSg.ss G44 sS67 (by decide)
        exact gz_end (I := .ireturn) (len := 1) rfl (Or.inl rfl) ⟨tyq43, G74, zq43, fq43_0, z68, z69, z70, z71, a + zq1, xq43_0, rfl, (by omega), (by omega), efq43_0, (by omega), (by omega), ez68, (by omega), (by omega), ez69, (by omega), (by omega), ez70, (by omega), (by omega), ez71, (by omega), (by omega), s65, (by omega), (by omega), (by omega), (by omega), (by omega), (by dsimp only; omega), (by dsimp only; omega), (by omega), yq43_0⟩
      · refine gy_look (pc' := 127) (v := 194) (off := 90) rfl (by decide) (by decide) he32 (by decide) rfl (by decide) ?_
        have hpq75 := pr22
        obtain ⟨_, bno, coo, dmo, vvo, ⟨tbno, tcoo, tdmo⟩, ⟨er0o, er1o, er2o, er3o, er4o, er5o⟩, hvvo, hrro, ⟨yy0o, yy1o, yy2o, yy3o, yy4o, yy5o, yy6o, yy7o⟩, ll0o, ll1o, ll2o, ll3o⟩ := hpq75
        have excno : h21.2.2.2.2 pic 7 = .int (zi (vvo 0)) := hvvo (0, 7, 0) (by decide)
        have rrcno : 0 ≤ vvo 0 ∧ vvo 0 ≤ 3 := hrro (0, 0, 3) (by decide)
        have lk76 : vvo 0 = cn := gv_i excno s31 (by omega) (by omega)
        have exuco : h21.2.2.2.2 pic 12 = .int (zi (vvo 1)) := hvvo (0, 12, 1) (by decide)
        have rruco : 0 ≤ vvo 1 ∧ vvo 1 ≤ 8 := hrro (1, 0, 8) (by decide)
        have exuro : h21.2.2.2.2 pic 13 = .int (zi (vvo 2)) := hvvo (0, 13, 2) (by decide)
        have rruro : 0 ≤ vvo 2 ∧ vvo 2 ≤ 8 := hrro (2, 0, 8) (by decide)
        have exblo : h21.2.2.2.2 pic 8 = .int (zi (vvo 3)) := hvvo (0, 8, 3) (by decide)
        have rrblo : 0 ≤ vvo 3 ∧ vvo 3 ≤ 192 := hrro (3, 0, 192) (by decide)
        have exwo : h21.2.2.2.2 pic 5 = .int (zi (vvo 4)) := hvvo (0, 5, 4) (by decide)
        have rrwo : 0 ≤ vvo 4 ∧ vvo 4 ≤ 64 := hrro (4, 0, 64) (by decide)
        have exhho : h21.2.2.2.2 pic 6 = .int (zi (vvo 5)) := hvvo (0, 6, 5) (by decide)
        have rrhho : 0 ≤ vvo 5 ∧ vvo 5 ≤ 64 := hrro (5, 0, 64) (by decide)
        have exgho : h21.2.2.2.2 pic 10 = .int (zi (vvo 6)) := hvvo (0, 10, 6) (by decide)
        have rrgho : 1 ≤ vvo 6 ∧ vvo 6 ≤ 2 := hrro (6, 1, 2) (by decide)
        have exgvo : h21.2.2.2.2 pic 11 = .int (zi (vvo 7)) := hvvo (0, 11, 7) (by decide)
        have rrgvo : 1 ≤ vvo 7 ∧ vvo 7 ≤ 2 := hrro (7, 1, 2) (by decide)
        have exhb0o : h21.2.2.2.2 b0 1 = .int (zi (vvo 8)) := hvvo (1, 1, 8) (by decide)
        have rrhb0o : (-1) ≤ vvo 8 ∧ vvo 8 ≤ 15 := hrro (8, (-1), 15) (by decide)
        have exvb0o : h21.2.2.2.2 b0 2 = .int (zi (vvo 9)) := hvvo (1, 2, 9) (by decide)
        have rrvb0o : 0 ≤ vvo 9 ∧ vvo 9 ≤ 15 := hrro (9, 0, 15) (by decide)
        have extq0o : h21.2.2.2.2 b0 3 = .int (zi (vvo 10)) := hvvo (1, 3, 10) (by decide)
        have rrtq0o : (-1) ≤ vvo 10 ∧ vvo 10 ≤ 255 := hrro (10, (-1), 255) (by decide)
        have exC0o : h21.2.2.2.2 b0 4 = .int (zi (vvo 11)) := hvvo (1, 4, 11) (by decide)
        have rrC0o : 0 ≤ vvo 11 ∧ vvo 11 ≤ 16 := hrro (11, 0, 16) (by decide)
        have exR0o : h21.2.2.2.2 b0 5 = .int (zi (vvo 12)) := hvvo (1, 5, 12) (by decide)
        have rrR0o : 0 ≤ vvo 12 ∧ vvo 12 ≤ 16 := hrro (12, 0, 16) (by decide)
        have exoc0o : h21.2.2.2.2 b0 6 = .int (zi (vvo 13)) := hvvo (1, 6, 13) (by decide)
        have rroc0o : 0 ≤ vvo 13 ∧ vvo 13 ≤ 16 := hrro (13, 0, 16) (by decide)
        have exor0o : h21.2.2.2.2 b0 7 = .int (zi (vvo 14)) := hvvo (1, 7, 14) (by decide)
        have rror0o : 0 ≤ vvo 14 ∧ vvo 14 ≤ 16 := hrro (14, 0, 16) (by decide)
        have exf0o : h21.2.2.2.2 b0 8 = .int (zi (vvo 15)) := hvvo (1, 8, 15) (by decide)
        have rrf0o : 0 ≤ vvo 15 ∧ vvo 15 ≤ 192 := hrro (15, 0, 192) (by decide)
        have exhb1o : h21.2.2.2.2 b1 1 = .int (zi (vvo 16)) := hvvo (2, 1, 16) (by decide)
        have rrhb1o : (-1) ≤ vvo 16 ∧ vvo 16 ≤ 15 := hrro (16, (-1), 15) (by decide)
        have exvb1o : h21.2.2.2.2 b1 2 = .int (zi (vvo 17)) := hvvo (2, 2, 17) (by decide)
        have rrvb1o : 0 ≤ vvo 17 ∧ vvo 17 ≤ 15 := hrro (17, 0, 15) (by decide)
        have extq1o : h21.2.2.2.2 b1 3 = .int (zi (vvo 18)) := hvvo (2, 3, 18) (by decide)
        have rrtq1o : (-1) ≤ vvo 18 ∧ vvo 18 ≤ 255 := hrro (18, (-1), 255) (by decide)
        have exC1o : h21.2.2.2.2 b1 4 = .int (zi (vvo 19)) := hvvo (2, 4, 19) (by decide)
        have rrC1o : 0 ≤ vvo 19 ∧ vvo 19 ≤ 16 := hrro (19, 0, 16) (by decide)
        have exR1o : h21.2.2.2.2 b1 5 = .int (zi (vvo 20)) := hvvo (2, 5, 20) (by decide)
        have rrR1o : 0 ≤ vvo 20 ∧ vvo 20 ≤ 16 := hrro (20, 0, 16) (by decide)
        have exoc1o : h21.2.2.2.2 b1 6 = .int (zi (vvo 21)) := hvvo (2, 6, 21) (by decide)
        have rroc1o : 0 ≤ vvo 21 ∧ vvo 21 ≤ 16 := hrro (21, 0, 16) (by decide)
        have exor1o : h21.2.2.2.2 b1 7 = .int (zi (vvo 22)) := hvvo (2, 7, 22) (by decide)
        have rror1o : 0 ≤ vvo 22 ∧ vvo 22 ≤ 16 := hrro (22, 0, 16) (by decide)
        have exf1o : h21.2.2.2.2 b1 8 = .int (zi (vvo 23)) := hvvo (2, 8, 23) (by decide)
        have rrf1o : 0 ≤ vvo 23 ∧ vvo 23 ≤ 192 := hrro (23, 0, 192) (by decide)
        have exhb2o : h21.2.2.2.2 b2 1 = .int (zi (vvo 24)) := hvvo (3, 1, 24) (by decide)
        have rrhb2o : (-1) ≤ vvo 24 ∧ vvo 24 ≤ 15 := hrro (24, (-1), 15) (by decide)
        have exvb2o : h21.2.2.2.2 b2 2 = .int (zi (vvo 25)) := hvvo (3, 2, 25) (by decide)
        have rrvb2o : 0 ≤ vvo 25 ∧ vvo 25 ≤ 15 := hrro (25, 0, 15) (by decide)
        have extq2o : h21.2.2.2.2 b2 3 = .int (zi (vvo 26)) := hvvo (3, 3, 26) (by decide)
        have rrtq2o : (-1) ≤ vvo 26 ∧ vvo 26 ≤ 255 := hrro (26, (-1), 255) (by decide)
        have exC2o : h21.2.2.2.2 b2 4 = .int (zi (vvo 27)) := hvvo (3, 4, 27) (by decide)
        have rrC2o : 0 ≤ vvo 27 ∧ vvo 27 ≤ 16 := hrro (27, 0, 16) (by decide)
        have exR2o : h21.2.2.2.2 b2 5 = .int (zi (vvo 28)) := hvvo (3, 5, 28) (by decide)
        have rrR2o : 0 ≤ vvo 28 ∧ vvo 28 ≤ 16 := hrro (28, 0, 16) (by decide)
        have exoc2o : h21.2.2.2.2 b2 6 = .int (zi (vvo 29)) := hvvo (3, 6, 29) (by decide)
        have rroc2o : 0 ≤ vvo 29 ∧ vvo 29 ≤ 16 := hrro (29, 0, 16) (by decide)
        have exor2o : h21.2.2.2.2 b2 7 = .int (zi (vvo 30)) := hvvo (3, 7, 30) (by decide)
        have rror2o : 0 ≤ vvo 30 ∧ vvo 30 ≤ 16 := hrro (30, 0, 16) (by decide)
        have exf2o : h21.2.2.2.2 b2 8 = .int (zi (vvo 31)) := hvvo (3, 8, 31) (by decide)
        have rrf2o : 0 ≤ vvo 31 ∧ vvo 31 ≤ 192 := hrro (31, 0, 192) (by decide)
        have k77 := sh21.2.1
        have k77b := sh21.2.2.1
        have hl78 : h21.2.2.2.1 coo = h.2.2.2.1 coo := congrFun sh21.2.2.2.2.1 coo
        have hl79 : h21.2.2.2.1 dmo = h.2.2.2.1 dmo := congrFun sh21.2.2.2.2.1 dmo
        refine gz_s 4 (pc' := 131) (L' := [some (.ref x), some (.int (zi m)), some (.int (zi a)), some (.int (zi zq1))]) (S' := [.int (zi zq1), .int (zi a), .int (zi m), .ref x]) rfl ?_
        have k80 := sh21.2.1
        have k80b := sh21.2.2.1
        have hl81 : h21.2.2.2.1 coo = h.2.2.2.1 coo := congrFun sh21.2.2.2.2.1 coo
        have hl82 : h21.2.2.2.1 dmo = h.2.2.2.1 dmo := congrFun sh21.2.2.2.2.1 dmo
        have hl83 : h21.2.2.2.1 coo = h.2.2.2.1 coo := congrFun sh21.2.2.2.2.1 coo
        have hl84 : h21.2.2.2.1 dmo = h.2.2.2.1 dmo := congrFun sh21.2.2.2.2.1 dmo
        refine gz_call rfl (by decide) rfl (by decide) (by decide) (gcal_of rfl rfl rfl (Nat.le_of_ble_eq_true rfl) (gJ.recv (G := gGG) sh21.1 tx rfl rfl)) (cl_Reader_readFrame _ sh21.1 x tx m (by omega) a (by omega) zq1 (by omega) src s23 tsrc pic s24 tpic bn s25 tbn b0 s26 tb0 b1 s27 tb1 b2 s28 tb2 coo er4o tcoo dmo er5o tdmo sz s30 (by omega) (vvo 0) excno (by omega) (vvo 3) exblo (by omega) (vvo 4) exwo (by omega) (by omega) uq) (fun q85 _ wq85 => ?_)
        obtain ⟨pq85, oq85, hq85⟩ := q85
        obtain ⟨tyq85, xq85, zq85, fq85_0, xq85_0, gq85, aq85, bq85, efq85_0, afq85_0, bfq85_0, axq85_0, bxq85_0, uq85_0, uq85_1, uq85_2, yq85_0⟩ := wq85
        dsimp only at uq85_0 uq85_1
        refine ⟨_, gq85, ?_⟩
        show gz gPP gGG gcn _ _ 134 [some (.ref x), some (.int (zi m)), some (.int (zi a)), some (.int (zi zq1))] [.int (zi zq85)] hq85 _
        have G86 : gSg [112, 113] [] [54002, 54003, 54004, 54005, 54006, 54007, 54008, 54009, 54010, 54011, 54012, 54013, 58999, 65003, 66001, 66002, 66003, 66004, 66005, 66011, 66012, 82000, 82001, 82002, 82003, 82004, 82005, 82006, 82007, 82008, 82009, 82010, 83000, 83001, 83002, 83003, 83004, 83005, 83006, 83007, 83008, 83009, 83010, 84000, 84001, 84002, 84003, 84004, 84005, 84006, 84007, 84008, 84009, 84010, 102999, 103999, 112999, 113999] ty h tyq85 hq85 := gSg.tr (gSg.ss G0 sh21 (by decide)) xq85 (by decide) (by decide) (fun x hx => by cases hx)
        have t87 : tyq85 x = 65 := gSg.typ xq85 sh21.1 tx rfl
        have t88 : tyq85 src = 51 := gSg.typ xq85 sh21.1 tsrc rfl
        have t89 : tyq85 pic = 54 := gSg.typ xq85 sh21.1 tpic rfl
        have t90 : tyq85 bn = 57 := gSg.typ xq85 sh21.1 tbn rfl
        have t91 : tyq85 b0 = 82 := gSg.typ xq85 sh21.1 tb0 rfl
        have t92 : tyq85 b1 = 83 := gSg.typ xq85 sh21.1 tb1 rfl
        have t93 : tyq85 b2 = 84 := gSg.typ xq85 sh21.1 tb2 rfl
        have t94 : tyq85 sc = 66 := gSg.typ xq85 sh21.1 tsc rfl
        have t95 : tyq85 coo = 112 := gSg.typ xq85 sh21.1 tcoo rfl
        have hl96 : hq85.2.2.2.1 coo = h21.2.2.2.1 coo := gSg.len xq85 sh21.1 tcoo rfl
        have t97 : tyq85 dmo = 113 := gSg.typ xq85 sh21.1 tdmo rfl
        have hl98 : hq85.2.2.2.1 dmo = h21.2.2.2.1 dmo := gSg.len xq85 sh21.1 tdmo rfl
        have s99 := gSg.at xq85 sh21.1 tx rfl (by decide) s23
        have s100 := gSg.at xq85 sh21.1 tx rfl (by decide) s24
        have s101 := gSg.at xq85 sh21.1 tpic rfl (by decide) s25
        have s102 := gSg.at xq85 sh21.1 tbn rfl (by decide) s26
        have s103 := gSg.at xq85 sh21.1 tbn rfl (by decide) s27
        have s104 := gSg.at xq85 sh21.1 tbn rfl (by decide) s28
        have s105 := gSg.at xq85 sh21.1 tx rfl (by decide) s29
        have s106 := gSg.at xq85 sh21.1 tsrc rfl (by decide) s30
        have s107 := gSg.at xq85 sh21.1 tx rfl (by decide) eh21
        have uq108 := gSg.uq xq85 uq (by decide)
        have sS109 : gSs rT 1027 tyq85 [54002, 54003, 54004, 54005, 54006, 54007, 54008, 54009, 54010, 54011, 54012, 54013, 58999, 65003, 66001, 66002, 66003, 66004, 66005, 66011, 66012, 82000, 82001, 82002, 82003, 82004, 82005, 82006, 82007, 82008, 82009, 82010, 83000, 83001, 83002, 83003, 83004, 83005, 83006, 83007, 83008, 83009, 83010, 84000, 84001, 84002, 84003, 84004, 84005, 84006, 84007, 84008, 84009, 84010, 102999, 103999, 112999, 113999] hq85 hq85 := gSs.rf xq85.1
        obtain ⟨z110, ez110, az110, bz110⟩ := gJ.int (k := 11) (G := gGG) sS109.1 t94 rfl rfl rfl
        obtain ⟨z111, ez111, az111, bz111⟩ := gJ.int (k := 12) (G := gGG) sS109.1 t94 rfl rfl rfl
        obtain ⟨z112, ez112, az112, bz112⟩ := gJ.int (k := 2) (G := gGG) sS109.1 t94 rfl rfl rfl
        obtain ⟨z113, ez113, az113, bz113⟩ := gJ.int (k := 3) (G := gGG) sS109.1 t94 rfl rfl rfl
        have hl114 : 0 ≤ hq85.2.2.2.1 coo ∧ hq85.2.2.2.1 coo ≤ 12288 := gJ.rowl (G := gGG) sS109.1 t95 rfl
        have hl115 : 0 ≤ hq85.2.2.2.1 dmo ∧ hq85.2.2.2.1 dmo ≤ 192 := gJ.rowl (G := gGG) sS109.1 t97 rfl
        have G116 : gSg [112, 113] [] [54002, 54003, 54004, 54005, 54006, 54007, 54008, 54009, 54010, 54011, 54012, 54013, 58999, 65003, 66001, 66002, 66003, 66004, 66005, 66011, 66012, 82000, 82001, 82002, 82003, 82004, 82005, 82006, 82007, 82008, 82009, 82010, 83000, 83001, 83002, 83003, 83004, 83005, 83006, 83007, 83008, 83009, 83010, 84000, 84001, 84002, 84003, 84004, 84005, 84006, 84007, 84008, 84009, 84010, 102999, 103999, 112999, 113999] ty h tyq85 hq85 := gSg.ss G86 sS109 (by decide)
        exact gz_end (I := .ireturn) (len := 1) rfl (Or.inl rfl) ⟨tyq85, G116, zq85, fq85_0, z110, z111, z112, z113, a + zq1, xq85_0, rfl, (by omega), (by omega), efq85_0, (by omega), (by omega), ez110, (by omega), (by omega), ez111, (by omega), (by omega), ez112, (by omega), (by omega), ez113, (by omega), (by omega), s107, (by omega), (by omega), (by omega), (by omega), (by omega), (by dsimp only; omega), (by dsimp only; omega), (by omega), yq85_0⟩
      · refine gy_look (pc' := 108) (v := 196) (off := 71) rfl (by decide) (by decide) he32 (by decide) rfl (by decide) ?_
        refine gy_s 5 (pc' := 113) (L' := [some (.ref x), some (.int (zi m)), some (.int (zi a)), some (.int (zi zq1))]) (S' := [.ref x, .int ((zi a) + (zi 2)), .ref x]) (L2 := [some (.ref x), some (.int (zi m)), some (.int (zi a)), some (.int (zi zq1))]) (S2 := [.ref x, .int (zi (a + 2)), .ref x]) rfl (by simp only [zi_add, zi_sub, zi_mul, zi_neg, zi_and1, zi_and7, zi_and15, zi_and31, zi_and255]) (by simp only [zi_add, zi_sub, zi_mul, zi_neg, zi_and1, zi_and7, zi_and15, zi_and31, zi_and255]) ?_
        refine gs_gtk rfl (by decide) rfl sh21.1 tx rfl rfl eh21 ?_
        refine gz_call rfl (by decide) rfl (by decide) (by decide) (gcal_of rfl rfl rfl (Nat.le_of_ble_eq_true rfl) (gJ.recv (G := gGG) sh21.1 tx rfl rfl)) (cl_Reader_readCodes _ sh21.1 x tx (a + 2) (by omega) (a + zq1) (by omega) src s23 tsrc sc s29 tsc sz s30 (by omega) uq) (fun q117 _ wq117 => ?_)
        obtain ⟨pq117, oq117, hq117⟩ := q117
        obtain ⟨xq117, zq117, gq117, aq117, bq117, uq117_0⟩ := wq117
        refine ⟨_, gq117, ?_⟩
        show gz gPP gGG gcn _ _ 119 [some (.ref x), some (.int (zi m)), some (.int (zi a)), some (.int (zi zq1))] [.int (zi zq117)] hq117 _
        have sq117 : gSs rT 1027 ty [54002, 54003, 54004, 54005, 54006, 54007, 54008, 54009, 54010, 54011, 54012, 54013, 58999, 65003, 66001, 66002, 66003, 66004, 66005, 66011, 66012, 82000, 82001, 82002, 82003, 82004, 82005, 82006, 82007, 82008, 82009, 82010, 83000, 83001, 83002, 83003, 83004, 83005, 83006, 83007, 83008, 83009, 83010, 84000, 84001, 84002, 84003, 84004, 84005, 84006, 84007, 84008, 84009, 84010, 102999, 103999, 112999, 113999] h hq117 := gSs.tr sh21 xq117 (by decide)
        have s118 := (xq117.2.2.2.2.2 x 0 (by rw [tx]; decide)).trans s23
        have s119 := (xq117.2.2.2.2.2 x 1 (by rw [tx]; decide)).trans s24
        have s120 := (xq117.2.2.2.2.2 pic 0 (by rw [tpic]; decide)).trans s25
        have s121 := (xq117.2.2.2.2.2 bn 0 (by rw [tbn]; decide)).trans s26
        have s122 := (xq117.2.2.2.2.2 bn 1 (by rw [tbn]; decide)).trans s27
        have s123 := (xq117.2.2.2.2.2 bn 2 (by rw [tbn]; decide)).trans s28
        have s124 := (xq117.2.2.2.2.2 x 2 (by rw [tx]; decide)).trans s29
        have s125 := (xq117.2.2.2.2.2 src 1 (by rw [tsrc]; decide)).trans s30
        have s126 := (xq117.2.2.2.2.2 pic 7 (by rw [tpic]; decide)).trans s31
        have s127 := (xq117.2.2.2.2.2 x 3 (by rw [tx]; decide)).trans eh21
        have pr128 := gPC.fr xq117.2 (by decide) pr22
        obtain ⟨z129, ez129, az129, bz129⟩ := gJ.int (k := 11) (G := gGG) sq117.1 tsc rfl rfl rfl
        obtain ⟨z130, ez130, az130, bz130⟩ := gJ.int (k := 12) (G := gGG) sq117.1 tsc rfl rfl rfl
        obtain ⟨z131, ez131, az131, bz131⟩ := gJ.int (k := 2) (G := gGG) sq117.1 tsc rfl rfl rfl
        obtain ⟨z132, ez132, az132, bz132⟩ := gJ.int (k := 3) (G := gGG) sq117.1 tsc rfl rfl rfl
        have k133 := sq117.2.1
        have k133b := sq117.2.2.1
        have G134 : gSg [112, 113] [] [54002, 54003, 54004, 54005, 54006, 54007, 54008, 54009, 54010, 54011, 54012, 54013, 58999, 65003, 66001, 66002, 66003, 66004, 66005, 66011, 66012, 82000, 82001, 82002, 82003, 82004, 82005, 82006, 82007, 82008, 82009, 82010, 83000, 83001, 83002, 83003, 83004, 83005, 83006, 83007, 83008, 83009, 83010, 84000, 84001, 84002, 84003, 84004, 84005, 84006, 84007, 84008, 84009, 84010, 102999, 103999, 112999, 113999] ty h ty hq117 := gSg.ss G0 sq117 (by decide)
        exact gz_end (I := .ireturn) (len := 1) rfl (Or.inl rfl) ⟨ty, G134, zq117, cn, z129, z130, z131, z132, a + zq1, ld, rfl, (by omega), (by omega), s126, (by omega), (by omega), ez129, (by omega), (by omega), ez130, (by omega), (by omega), ez131, (by omega), (by omega), ez132, (by omega), (by omega), s127, (by omega), (by omega), (by omega), (by omega), (by omega), (by dsimp only; omega), (by dsimp only; omega), (by omega), pr128⟩
      · refine gy_look (pc' := 135) (v := 218) (off := 98) rfl (by decide) (by decide) he32 (by decide) rfl (by decide) ?_
        refine gz_s 3 (pc' := 138) (L' := [some (.ref x), some (.int (zi m)), some (.int (zi a)), some (.int (zi zq1))]) (S' := [.int (zi zq1), .int (zi a), .ref x]) rfl ?_
        refine gz_call rfl (by decide) rfl (by decide) (by decide) (gcal_of rfl rfl rfl (Nat.le_of_ble_eq_true rfl) (gJ.recv (G := gGG) sh21.1 tx rfl rfl)) (cl_Reader_readScanHead _ sh21.1 x tx a (by omega) zq1 (by omega) src s23 tsrc pic s24 tpic sc s29 tsc sz s30 (by omega) cn s31 (by omega) uq) (fun q135 _ wq135 => ?_)
        obtain ⟨pq135, oq135, hq135⟩ := q135
        obtain ⟨xq135, zq135, fq135_0, fq135_1, fq135_2, fq135_3, gq135, aq135, bq135, efq135_0, afq135_0, bfq135_0, efq135_1, afq135_1, bfq135_1, efq135_2, afq135_2, bfq135_2, efq135_3, afq135_3, bfq135_3, uq135_0, uq135_1, uq135_2⟩ := wq135
        refine ⟨_, gq135, ?_⟩
        show gz gPP gGG gcn _ _ 141 [some (.ref x), some (.int (zi m)), some (.int (zi a)), some (.int (zi zq1))] [.int (zi zq135)] hq135 _
        have sq135 : gSs rT 1027 ty [54002, 54003, 54004, 54005, 54006, 54007, 54008, 54009, 54010, 54011, 54012, 54013, 58999, 65003, 66001, 66002, 66003, 66004, 66005, 66011, 66012, 82000, 82001, 82002, 82003, 82004, 82005, 82006, 82007, 82008, 82009, 82010, 83000, 83001, 83002, 83003, 83004, 83005, 83006, 83007, 83008, 83009, 83010, 84000, 84001, 84002, 84003, 84004, 84005, 84006, 84007, 84008, 84009, 84010, 102999, 103999, 112999, 113999] h hq135 := gSs.tr sh21 xq135 (by decide)
        have s136 := (xq135.2.2.2.2.2 x 0 (by rw [tx]; decide)).trans s23
        have s137 := (xq135.2.2.2.2.2 x 1 (by rw [tx]; decide)).trans s24
        have s138 := (xq135.2.2.2.2.2 pic 0 (by rw [tpic]; decide)).trans s25
        have s139 := (xq135.2.2.2.2.2 bn 0 (by rw [tbn]; decide)).trans s26
        have s140 := (xq135.2.2.2.2.2 bn 1 (by rw [tbn]; decide)).trans s27
        have s141 := (xq135.2.2.2.2.2 bn 2 (by rw [tbn]; decide)).trans s28
        have s142 := (xq135.2.2.2.2.2 x 2 (by rw [tx]; decide)).trans s29
        have s143 := (xq135.2.2.2.2.2 src 1 (by rw [tsrc]; decide)).trans s30
        have s144 := (xq135.2.2.2.2.2 pic 7 (by rw [tpic]; decide)).trans s31
        have s145 := (xq135.2.2.2.2.2 x 3 (by rw [tx]; decide)).trans eh21
        have pr146 := gPC.fr xq135.2 (by decide) pr22
        have k147 := sq135.2.1
        have k147b := sq135.2.2.1
        have G148 : gSg [112, 113] [] [54002, 54003, 54004, 54005, 54006, 54007, 54008, 54009, 54010, 54011, 54012, 54013, 58999, 65003, 66001, 66002, 66003, 66004, 66005, 66011, 66012, 82000, 82001, 82002, 82003, 82004, 82005, 82006, 82007, 82008, 82009, 82010, 83000, 83001, 83002, 83003, 83004, 83005, 83006, 83007, 83008, 83009, 83010, 84000, 84001, 84002, 84003, 84004, 84005, 84006, 84007, 84008, 84009, 84010, 102999, 103999, 112999, 113999] ty h ty hq135 := gSg.ss G0 sq135 (by decide)
        exact gz_end (I := .ireturn) (len := 1) rfl (Or.inl rfl) ⟨ty, G148, zq135, cn, fq135_0, fq135_1, fq135_2, fq135_3, a + zq1, ld, rfl, (by omega), (by omega), s144, (by omega), (by omega), efq135_0, (by omega), (by omega), efq135_1, (by omega), (by omega), efq135_2, (by omega), (by omega), efq135_3, (by omega), (by omega), s145, (by omega), (by omega), (by omega), (by omega), (by omega), (by dsimp only; omega), (by dsimp only; omega), (by omega), pr146⟩
      · refine gy_look (pc' := 96) (v := 219) (off := 59) rfl (by decide) (by decide) he32 (by decide) rfl (by decide) ?_
        refine gy_s 5 (pc' := 101) (L' := [some (.ref x), some (.int (zi m)), some (.int (zi a)), some (.int (zi zq1))]) (S' := [.ref x, .int ((zi a) + (zi 2)), .ref x]) (L2 := [some (.ref x), some (.int (zi m)), some (.int (zi a)), some (.int (zi zq1))]) (S2 := [.ref x, .int (zi (a + 2)), .ref x]) rfl (by simp only [zi_add, zi_sub, zi_mul, zi_neg, zi_and1, zi_and7, zi_and15, zi_and31, zi_and255]) (by simp only [zi_add, zi_sub, zi_mul, zi_neg, zi_and1, zi_and7, zi_and15, zi_and31, zi_and255]) ?_
        refine gs_gtk rfl (by decide) rfl sh21.1 tx rfl rfl eh21 ?_
        refine gz_call rfl (by decide) rfl (by decide) (by decide) (gcal_of rfl rfl rfl (Nat.le_of_ble_eq_true rfl) (gJ.recv (G := gGG) sh21.1 tx rfl rfl)) (cl_Reader_readTables _ sh21.1 x tx (a + 2) (by omega) (a + zq1) (by omega) src s23 tsrc pic s24 tpic sz s30 (by omega) uq) (fun q149 _ wq149 => ?_)
        obtain ⟨pq149, oq149, hq149⟩ := q149
        obtain ⟨xq149, zq149, gq149, aq149, bq149, uq149_0⟩ := wq149
        refine ⟨_, gq149, ?_⟩
        show gz gPP gGG gcn _ _ 107 [some (.ref x), some (.int (zi m)), some (.int (zi a)), some (.int (zi zq1))] [.int (zi zq149)] hq149 _
        have sq149 : gSs rT 1027 ty [54002, 54003, 54004, 54005, 54006, 54007, 54008, 54009, 54010, 54011, 54012, 54013, 58999, 65003, 66001, 66002, 66003, 66004, 66005, 66011, 66012, 82000, 82001, 82002, 82003, 82004, 82005, 82006, 82007, 82008, 82009, 82010, 83000, 83001, 83002, 83003, 83004, 83005, 83006, 83007, 83008, 83009, 83010, 84000, 84001, 84002, 84003, 84004, 84005, 84006, 84007, 84008, 84009, 84010, 102999, 103999, 112999, 113999] h hq149 := gSs.tr sh21 xq149 (by decide)
        have s150 := (xq149.2.2.2.2.2 x 0 (by rw [tx]; decide)).trans s23
        have s151 := (xq149.2.2.2.2.2 x 1 (by rw [tx]; decide)).trans s24
        have s152 := (xq149.2.2.2.2.2 pic 0 (by rw [tpic]; decide)).trans s25
        have s153 := (xq149.2.2.2.2.2 bn 0 (by rw [tbn]; decide)).trans s26
        have s154 := (xq149.2.2.2.2.2 bn 1 (by rw [tbn]; decide)).trans s27
        have s155 := (xq149.2.2.2.2.2 bn 2 (by rw [tbn]; decide)).trans s28
        have s156 := (xq149.2.2.2.2.2 x 2 (by rw [tx]; decide)).trans s29
        have s157 := (xq149.2.2.2.2.2 src 1 (by rw [tsrc]; decide)).trans s30
        have s158 := (xq149.2.2.2.2.2 pic 7 (by rw [tpic]; decide)).trans s31
        have s159 := (xq149.2.2.2.2.2 x 3 (by rw [tx]; decide)).trans eh21
        have pr160 := gPC.fr xq149.2 (by decide) pr22
        obtain ⟨z161, ez161, az161, bz161⟩ := gJ.int (k := 11) (G := gGG) sq149.1 tsc rfl rfl rfl
        obtain ⟨z162, ez162, az162, bz162⟩ := gJ.int (k := 12) (G := gGG) sq149.1 tsc rfl rfl rfl
        obtain ⟨z163, ez163, az163, bz163⟩ := gJ.int (k := 2) (G := gGG) sq149.1 tsc rfl rfl rfl
        obtain ⟨z164, ez164, az164, bz164⟩ := gJ.int (k := 3) (G := gGG) sq149.1 tsc rfl rfl rfl
        have k165 := sq149.2.1
        have k165b := sq149.2.2.1
        have G166 : gSg [112, 113] [] [54002, 54003, 54004, 54005, 54006, 54007, 54008, 54009, 54010, 54011, 54012, 54013, 58999, 65003, 66001, 66002, 66003, 66004, 66005, 66011, 66012, 82000, 82001, 82002, 82003, 82004, 82005, 82006, 82007, 82008, 82009, 82010, 83000, 83001, 83002, 83003, 83004, 83005, 83006, 83007, 83008, 83009, 83010, 84000, 84001, 84002, 84003, 84004, 84005, 84006, 84007, 84008, 84009, 84010, 102999, 103999, 112999, 113999] ty h ty hq149 := gSg.ss G0 sq149 (by decide)
        exact gz_end (I := .ireturn) (len := 1) rfl (Or.inl rfl) ⟨ty, G166, zq149, cn, z161, z162, z163, z164, a + zq1, ld, rfl, (by omega), (by omega), s158, (by omega), (by omega), ez161, (by omega), (by omega), ez162, (by omega), (by omega), ez163, (by omega), (by omega), ez164, (by omega), (by omega), s159, (by omega), (by omega), (by omega), (by omega), (by omega), (by dsimp only; omega), (by dsimp only; omega), (by omega), pr160⟩
      · refine gy_look (pc' := 120) (v := 221) (off := 83) rfl (by decide) (by decide) he32 (by decide) rfl (by decide) ?_
        refine gz_s 3 (pc' := 123) (L' := [some (.ref x), some (.int (zi m)), some (.int (zi a)), some (.int (zi zq1))]) (S' := [.int (zi zq1), .int (zi a), .ref x]) rfl ?_
        refine gz_call rfl (by decide) rfl (by decide) (by decide) (gcal_of rfl rfl rfl (Nat.le_of_ble_eq_true rfl) (gJ.recv (G := gGG) sh21.1 tx rfl rfl)) (cl_Reader_readInterval _ sh21.1 x tx a (by omega) zq1 (by omega) src s23 tsrc sc s29 tsc sz s30 (by omega) uq) (fun q167 _ wq167 => ?_)
        obtain ⟨pq167, oq167, hq167⟩ := q167
        obtain ⟨xq167, zq167, gq167, aq167, bq167, uq167_0⟩ := wq167
        refine ⟨_, gq167, ?_⟩
        show gz gPP gGG gcn _ _ 126 [some (.ref x), some (.int (zi m)), some (.int (zi a)), some (.int (zi zq1))] [.int (zi zq167)] hq167 _
        have sq167 : gSs rT 1027 ty [54002, 54003, 54004, 54005, 54006, 54007, 54008, 54009, 54010, 54011, 54012, 54013, 58999, 65003, 66001, 66002, 66003, 66004, 66005, 66011, 66012, 82000, 82001, 82002, 82003, 82004, 82005, 82006, 82007, 82008, 82009, 82010, 83000, 83001, 83002, 83003, 83004, 83005, 83006, 83007, 83008, 83009, 83010, 84000, 84001, 84002, 84003, 84004, 84005, 84006, 84007, 84008, 84009, 84010, 102999, 103999, 112999, 113999] h hq167 := gSs.tr sh21 xq167 (by decide)
        have s168 := (xq167.2.2.2.2.2 x 0 (by rw [tx]; decide)).trans s23
        have s169 := (xq167.2.2.2.2.2 x 1 (by rw [tx]; decide)).trans s24
        have s170 := (xq167.2.2.2.2.2 pic 0 (by rw [tpic]; decide)).trans s25
        have s171 := (xq167.2.2.2.2.2 bn 0 (by rw [tbn]; decide)).trans s26
        have s172 := (xq167.2.2.2.2.2 bn 1 (by rw [tbn]; decide)).trans s27
        have s173 := (xq167.2.2.2.2.2 bn 2 (by rw [tbn]; decide)).trans s28
        have s174 := (xq167.2.2.2.2.2 x 2 (by rw [tx]; decide)).trans s29
        have s175 := (xq167.2.2.2.2.2 src 1 (by rw [tsrc]; decide)).trans s30
        have s176 := (xq167.2.2.2.2.2 pic 7 (by rw [tpic]; decide)).trans s31
        have s177 := (xq167.2.2.2.2.2 x 3 (by rw [tx]; decide)).trans eh21
        have pr178 := gPC.fr xq167.2 (by decide) pr22
        obtain ⟨z179, ez179, az179, bz179⟩ := gJ.int (k := 11) (G := gGG) sq167.1 tsc rfl rfl rfl
        obtain ⟨z180, ez180, az180, bz180⟩ := gJ.int (k := 12) (G := gGG) sq167.1 tsc rfl rfl rfl
        obtain ⟨z181, ez181, az181, bz181⟩ := gJ.int (k := 2) (G := gGG) sq167.1 tsc rfl rfl rfl
        obtain ⟨z182, ez182, az182, bz182⟩ := gJ.int (k := 3) (G := gGG) sq167.1 tsc rfl rfl rfl
        have k183 := sq167.2.1
        have k183b := sq167.2.2.1
        have G184 : gSg [112, 113] [] [54002, 54003, 54004, 54005, 54006, 54007, 54008, 54009, 54010, 54011, 54012, 54013, 58999, 65003, 66001, 66002, 66003, 66004, 66005, 66011, 66012, 82000, 82001, 82002, 82003, 82004, 82005, 82006, 82007, 82008, 82009, 82010, 83000, 83001, 83002, 83003, 83004, 83005, 83006, 83007, 83008, 83009, 83010, 84000, 84001, 84002, 84003, 84004, 84005, 84006, 84007, 84008, 84009, 84010, 102999, 103999, 112999, 113999] ty h ty hq167 := gSg.ss G0 sq167 (by decide)
        exact gz_end (I := .ireturn) (len := 1) rfl (Or.inl rfl) ⟨ty, G184, zq167, cn, z179, z180, z181, z182, a + zq1, ld, rfl, (by omega), (by omega), s176, (by omega), (by omega), ez179, (by omega), (by omega), ez180, (by omega), (by omega), ez181, (by omega), (by omega), ez182, (by omega), (by omega), s177, (by omega), (by omega), (by omega), (by omega), (by omega), (by dsimp only; omega), (by dsimp only; omega), (by omega), pr178⟩
      · refine gy_lookD (pc' := 142) rfl (by decide) (by omega) (by decide) (by simp; omega) (by decide) ?_
        refine gz_s 1 (pc' := 143) (L' := [some (.ref x), some (.int (zi m)), some (.int (zi a)), some (.int (zi zq1))]) (S' := [.int (zi (-1))]) rfl ?_
        obtain ⟨z185, ez185, az185, bz185⟩ := gJ.int (k := 11) (G := gGG) sh21.1 tsc rfl rfl rfl
        obtain ⟨z186, ez186, az186, bz186⟩ := gJ.int (k := 12) (G := gGG) sh21.1 tsc rfl rfl rfl
        obtain ⟨z187, ez187, az187, bz187⟩ := gJ.int (k := 2) (G := gGG) sh21.1 tsc rfl rfl rfl
        obtain ⟨z188, ez188, az188, bz188⟩ := gJ.int (k := 3) (G := gGG) sh21.1 tsc rfl rfl rfl
        have k189 := sh21.2.1
        have k189b := sh21.2.2.1
        have G190 : gSg [112, 113] [] [54002, 54003, 54004, 54005, 54006, 54007, 54008, 54009, 54010, 54011, 54012, 54013, 58999, 65003, 66001, 66002, 66003, 66004, 66005, 66011, 66012, 82000, 82001, 82002, 82003, 82004, 82005, 82006, 82007, 82008, 82009, 82010, 83000, 83001, 83002, 83003, 83004, 83005, 83006, 83007, 83008, 83009, 83010, 84000, 84001, 84002, 84003, 84004, 84005, 84006, 84007, 84008, 84009, 84010, 102999, 103999, 112999, 113999] ty h ty h21 := gSg.ss G0 sh21 (by decide)
        exact gz_end (I := .ireturn) (len := 1) rfl (Or.inl rfl) ⟨ty, G190, (-1), cn, z185, z186, z187, z188, a + zq1, ld, rfl, (by omega), (by omega), s31, (by omega), (by omega), ez185, (by omega), (by omega), ez186, (by omega), (by omega), ez187, (by omega), (by omega), ez188, (by omega), (by omega), eh21, (by omega), (by omega), (by omega), (by omega), (by omega), (by dsimp only; omega), (by dsimp only; omega), (by omega), pr22⟩
    · refine gy_icF rfl (by decide) (by decide) (by omega) (by omega) hc20 ?_
      refine gz_s 1 (pc' := 28) (L' := [some (.ref x), some (.int (zi m)), some (.int (zi a)), some (.int (zi zq1))]) (S' := [.int (zi a)]) rfl ?_
      obtain ⟨z191, ez191, az191, bz191⟩ := gJ.int (k := 11) (G := gGG) sq1.1 tsc rfl rfl rfl
      obtain ⟨z192, ez192, az192, bz192⟩ := gJ.int (k := 12) (G := gGG) sq1.1 tsc rfl rfl rfl
      obtain ⟨z193, ez193, az193, bz193⟩ := gJ.int (k := 2) (G := gGG) sq1.1 tsc rfl rfl rfl
      obtain ⟨z194, ez194, az194, bz194⟩ := gJ.int (k := 3) (G := gGG) sq1.1 tsc rfl rfl rfl
      have k195 := sq1.2.1
      have k195b := sq1.2.2.1
      have G196 : gSg [112, 113] [] [54002, 54003, 54004, 54005, 54006, 54007, 54008, 54009, 54010, 54011, 54012, 54013, 58999, 65003, 66001, 66002, 66003, 66004, 66005, 66011, 66012, 82000, 82001, 82002, 82003, 82004, 82005, 82006, 82007, 82008, 82009, 82010, 83000, 83001, 83002, 83003, 83004, 83005, 83006, 83007, 83008, 83009, 83010, 84000, 84001, 84002, 84003, 84004, 84005, 84006, 84007, 84008, 84009, 84010, 102999, 103999, 112999, 113999] ty h ty hq1 := gSg.ss G0 sq1 (by decide)
      exact gz_end (I := .ireturn) (len := 1) rfl (Or.inl rfl) ⟨ty, G196, a, cn, z191, z192, z193, z194, p0, ld, rfl, (by omega), (by omega), s10, (by omega), (by omega), ez191, (by omega), (by omega), ez192, (by omega), (by omega), ez193, (by omega), (by omega), ez194, (by omega), (by omega), s11, (by omega), (by omega), (by omega), (by omega), (by omega), (by dsimp only; omega), (by dsimp only; omega), (by omega), pr12⟩
set_option maxRecDepth 20000 in
set_option maxHeartbeats 4000000 in
theorem cl_Reader_readMarker (d : Nat) {ty : Nat → Nat} {h : gH} (hJ : gJ rT 1027 ty h) (x : Nat) (tx : ty x = 65) (src : Nat) (esrc : h.2.2.2.2 x 0 = .ref src) (tsrc : ty src = 51) (pic : Nat) (epic : h.2.2.2.2 x 1 = .ref pic) (tpic : ty pic = 54) (bn : Nat) (ebn : h.2.2.2.2 pic 0 = .ref bn) (tbn : ty bn = 57) (b0 : Nat) (eb0 : h.2.2.2.2 bn 0 = .ref b0) (tb0 : ty b0 = 82) (b1 : Nat) (eb1 : h.2.2.2.2 bn 1 = .ref b1) (tb1 : ty b1 = 83) (b2 : Nat) (eb2 : h.2.2.2.2 bn 2 = .ref b2) (tb2 : ty b2 = 84) (sc : Nat) (esc : h.2.2.2.2 x 2 = .ref sc) (tsc : ty sc = 66) (sz : Int) (esz : h.2.2.2.2 src 1 = .int (zi sz)) (rsz : 0 ≤ sz ∧ sz ≤ 2000) (cn : Int) (ecn : h.2.2.2.2 pic 7 = .int (zi cn)) (rcn : 0 ≤ cn ∧ cn ≤ 3) (p0 : Int) (ep0 : h.2.2.2.2 x 3 = .int (zi p0)) (rp0 : 0 ≤ p0 ∧ p0 ≤ 2002) (ld : Int) (rld : 0 ≤ ld ∧ ld ≤ 192) (uq : gUq ty) (hypc : gPC ty pic b0 b1 b2 ld h) : gz gPP gGG gcn (d + 5) gt18 0 (gent [.ref x] 3) [] h (fun q _ => ∃ ty9 : Nat → Nat, gSg [112, 113] [] [54002, 54003, 54004, 54005, 54006, 54007, 54008, 54009, 54010, 54011, 54012, 54013, 58999, 65003, 66001, 66002, 66003, 66004, 66005, 66011, 66012, 82000, 82001, 82002, 82003, 82004, 82005, 82006, 82007, 82008, 82009, 82010, 83000, 83001, 83002, 83003, 83004, 83005, 83006, 83007, 83008, 83009, 83010, 84000, 84001, 84002, 84003, 84004, 84005, 84006, 84007, 84008, 84009, 84010, 102999, 103999, 112999, 113999] ty h ty9 q.2.2 ∧ ∃ z cn1 sg sb fr tt pl1 ld1 : Int, gfin gt18 q.1 q.2.1 = some (some (.int (zi z))) ∧ (-3) ≤ z ∧ z ≤ 4400 ∧ q.2.2.2.2.2.2 pic 7 = .int (zi cn1) ∧ 0 ≤ cn1 ∧ cn1 ≤ 3 ∧ q.2.2.2.2.2.2 sc 11 = .int (zi sg) ∧ 0 ≤ sg ∧ sg ≤ 1 ∧ q.2.2.2.2.2.2 sc 12 = .int (zi sb) ∧ 0 ≤ sb ∧ sb ≤ 2 ∧ q.2.2.2.2.2.2 sc 2 = .int (zi fr) ∧ (-1) ≤ fr ∧ fr ≤ 255 ∧ q.2.2.2.2.2.2 sc 3 = .int (zi tt) ∧ (-1) ≤ tt ∧ tt ≤ 255 ∧ q.2.2.2.2.2.2 x 3 = .int (zi pl1) ∧ 0 ≤ pl1 ∧ pl1 ≤ 2002 ∧ 0 ≤ ld1 ∧ ld1 ≤ 192 ∧ (z = -3 → (sb < cn1 ∧ 1 ≤ cn1 ∧ 0 ≤ fr ∧ fr ≤ tt ∧ tt ≤ 63)) ∧ (((q.2.2.1 : Int) - h.1) ≤ 2 * (ld1 - ld)) ∧ (((q.2.2.2.1 : Int) - h.2.1) ≤ 12480 * (ld1 - ld)) ∧ (ld ≤ ld1) ∧ (gPC ty9 pic b0 b1 b2 ld1 q.2.2)) := by
  have hS : gSs rT 1027 ty [54002, 54003, 54004, 54005, 54006, 54007, 54008, 54009, 54010, 54011, 54012, 54013, 58999, 65003, 66001, 66002, 66003, 66004, 66005, 66011, 66012, 82000, 82001, 82002, 82003, 82004, 82005, 82006, 82007, 82008, 82009, 82010, 83000, 83001, 83002, 83003, 83004, 83005, 83006, 83007, 83008, 83009, 83010, 84000, 84001, 84002, 84003, 84004, 84005, 84006, 84007, 84008, 84009, 84010, 102999, 103999, 112999, 113999] h h := gSs.rf hJ
  have G0 : gSg [112, 113] [] [54002, 54003, 54004, 54005, 54006, 54007, 54008, 54009, 54010, 54011, 54012, 54013, 58999, 65003, 66001, 66002, 66003, 66004, 66005, 66011, 66012, 82000, 82001, 82002, 82003, 82004, 82005, 82006, 82007, 82008, 82009, 82010, 83000, 83001, 83002, 83003, 83004, 83005, 83006, 83007, 83008, 83009, 83010, 84000, 84001, 84002, 84003, 84004, 84005, 84006, 84007, 84008, 84009, 84010, 102999, 103999, 112999, 113999] ty h ty h := gSg.rf hJ (fun x hx => by cases hx)
  refine gz_s 1 (pc' := 1) (L' := [some (.ref x), none, none]) (S' := [.ref x]) rfl ?_
  refine gs_gtk rfl (by decide) rfl hS.1 tx rfl rfl esrc ?_
  refine gz_s 1 (pc' := 5) (L' := [some (.ref x), none, none]) (S' := [.ref x, .ref src]) rfl ?_
  refine gs_gtk rfl (by decide) rfl hS.1 tx rfl rfl ep0 ?_
  refine gz_call rfl (by decide) rfl (by decide) (by decide) (gcal_of rfl rfl rfl (Nat.le_of_ble_eq_true rfl) (gJ.recv (G := gGG) hS.1 tsrc rfl rfl)) (cl_Collected_byteAt _ hS.1 src tsrc p0 (by omega) sz esz (by omega) uq) (fun q1 _ wq1 => ?_)
  obtain ⟨pq1, oq1, hq1⟩ := q1
  obtain ⟨xq1, zq1, gq1, aq1, bq1, uq1_0⟩ := wq1
  refine ⟨_, gq1, ?_⟩
  show gz gPP gGG gcn _ _ 11 [some (.ref x), none, none] [.int (zi zq1)] hq1 _
  have sq1 : gSs rT 1027 ty [54002, 54003, 54004, 54005, 54006, 54007, 54008, 54009, 54010, 54011, 54012, 54013, 58999, 65003, 66001, 66002, 66003, 66004, 66005, 66011, 66012, 82000, 82001, 82002, 82003, 82004, 82005, 82006, 82007, 82008, 82009, 82010, 83000, 83001, 83002, 83003, 83004, 83005, 83006, 83007, 83008, 83009, 83010, 84000, 84001, 84002, 84003, 84004, 84005, 84006, 84007, 84008, 84009, 84010, 102999, 103999, 112999, 113999] h hq1 := gSs.tr hS xq1 (by decide)
  have s2 := (xq1.2.2.2.2.2 x 0 (by rw [tx]; decide)).trans esrc
  have s3 := (xq1.2.2.2.2.2 x 1 (by rw [tx]; decide)).trans epic
  have s4 := (xq1.2.2.2.2.2 pic 0 (by rw [tpic]; decide)).trans ebn
  have s5 := (xq1.2.2.2.2.2 bn 0 (by rw [tbn]; decide)).trans eb0
  have s6 := (xq1.2.2.2.2.2 bn 1 (by rw [tbn]; decide)).trans eb1
  have s7 := (xq1.2.2.2.2.2 bn 2 (by rw [tbn]; decide)).trans eb2
  have s8 := (xq1.2.2.2.2.2 x 2 (by rw [tx]; decide)).trans esc
  have s9 := (xq1.2.2.2.2.2 src 1 (by rw [tsrc]; decide)).trans esz
  have s10 := (xq1.2.2.2.2.2 pic 7 (by rw [tpic]; decide)).trans ecn
  have s11 := (xq1.2.2.2.2.2 x 3 (by rw [tx]; decide)).trans ep0
  have pr12 := gPC.fr xq1.2 (by decide) hypc
  refine gz_s 1 (pc' := 14) (L' := [some (.ref x), none, none]) (S' := [.int (zi 255), .int (zi zq1)]) rfl ?_
  by_cases hc13 : (zq1 : Int) = 255
  · refine gy_icT (pc' := 22) rfl (by decide) (by decide) (by omega) (by omega) hc13 ?_
    refine gz_s 1 (pc' := 23) (L' := [some (.ref x), none, none]) (S' := [.ref x]) rfl ?_
    refine gs_gtk rfl (by decide) rfl sq1.1 tx rfl rfl s2 ?_
    refine gz_s 1 (pc' := 27) (L' := [some (.ref x), none, none]) (S' := [.ref x, .ref src]) rfl ?_
    refine gs_gtk rfl (by decide) rfl sq1.1 tx rfl rfl s11 ?_
    refine gz_call rfl (by decide) rfl (by decide) (by decide) (gcal_of rfl rfl rfl (Nat.le_of_ble_eq_true rfl) (gJ.recv (G := gGG) sq1.1 tsrc rfl rfl)) (cl_Collected_markerAt _ sq1.1 src tsrc p0 (by omega) sz s9 (by omega) uq) (fun q14 _ wq14 => ?_)
    obtain ⟨pq14, oq14, hq14⟩ := q14
    obtain ⟨xq14, zq14, gq14, aq14, bq14, uq14_0, uq14_1⟩ := wq14
    refine ⟨_, gq14, ?_⟩
    show gz gPP gGG gcn _ _ 33 [some (.ref x), none, none] [.int (zi zq14)] hq14 _
    have sq14 : gSs rT 1027 ty [54002, 54003, 54004, 54005, 54006, 54007, 54008, 54009, 54010, 54011, 54012, 54013, 58999, 65003, 66001, 66002, 66003, 66004, 66005, 66011, 66012, 82000, 82001, 82002, 82003, 82004, 82005, 82006, 82007, 82008, 82009, 82010, 83000, 83001, 83002, 83003, 83004, 83005, 83006, 83007, 83008, 83009, 83010, 84000, 84001, 84002, 84003, 84004, 84005, 84006, 84007, 84008, 84009, 84010, 102999, 103999, 112999, 113999] h hq14 := gSs.tr sq1 xq14 (by decide)
    have s15 := (xq14.2.2.2.2.2 x 0 (by rw [tx]; decide)).trans s2
    have s16 := (xq14.2.2.2.2.2 x 1 (by rw [tx]; decide)).trans s3
    have s17 := (xq14.2.2.2.2.2 pic 0 (by rw [tpic]; decide)).trans s4
    have s18 := (xq14.2.2.2.2.2 bn 0 (by rw [tbn]; decide)).trans s5
    have s19 := (xq14.2.2.2.2.2 bn 1 (by rw [tbn]; decide)).trans s6
    have s20 := (xq14.2.2.2.2.2 bn 2 (by rw [tbn]; decide)).trans s7
    have s21 := (xq14.2.2.2.2.2 x 2 (by rw [tx]; decide)).trans s8
    have s22 := (xq14.2.2.2.2.2 src 1 (by rw [tsrc]; decide)).trans s9
    have s23 := (xq14.2.2.2.2.2 pic 7 (by rw [tpic]; decide)).trans s10
    have s24 := (xq14.2.2.2.2.2 x 3 (by rw [tx]; decide)).trans s11
    have pr25 := gPC.fr xq14.2 (by decide) pr12
    refine gz_s 3 (pc' := 36) (L' := [some (.ref x), some (.int (zi zq14)), none]) (S' := [.ref x, .int (zi zq14)]) rfl ?_
    refine gs_gtk rfl (by decide) rfl sq14.1 tx rfl rfl s15 ?_
    refine gs_gtk rfl (by decide) rfl sq14.1 tsrc rfl rfl s22 ?_
    by_cases hc26 : (zq14 : Int) < sz
    · refine gy_icT (pc' := 53) rfl (by decide) (by decide) (by omega) (by omega) hc26 ?_
      refine gz_s 1 (pc' := 54) (L' := [some (.ref x), some (.int (zi zq14)), none]) (S' := [.ref x]) rfl ?_
      refine gs_gtk rfl (by decide) rfl sq14.1 tx rfl rfl s15 ?_
      refine gz_s 1 (pc' := 58) (L' := [some (.ref x), some (.int (zi zq14)), none]) (S' := [.int (zi zq14), .ref src]) rfl ?_
      refine gz_call rfl (by decide) rfl (by decide) (by decide) (gcal_of rfl rfl rfl (Nat.le_of_ble_eq_true rfl) (gJ.recv (G := gGG) sq14.1 tsrc rfl rfl)) (cl_Collected_byteAt _ sq14.1 src tsrc zq14 (by omega) sz s22 (by omega) uq) (fun q27 _ wq27 => ?_)
      obtain ⟨pq27, oq27, hq27⟩ := q27
      obtain ⟨xq27, zq27, gq27, aq27, bq27, uq27_0⟩ := wq27
      refine ⟨_, gq27, ?_⟩
      show gz gPP gGG gcn _ _ 61 [some (.ref x), some (.int (zi zq14)), none] [.int (zi zq27)] hq27 _
      have sq27 : gSs rT 1027 ty [54002, 54003, 54004, 54005, 54006, 54007, 54008, 54009, 54010, 54011, 54012, 54013, 58999, 65003, 66001, 66002, 66003, 66004, 66005, 66011, 66012, 82000, 82001, 82002, 82003, 82004, 82005, 82006, 82007, 82008, 82009, 82010, 83000, 83001, 83002, 83003, 83004, 83005, 83006, 83007, 83008, 83009, 83010, 84000, 84001, 84002, 84003, 84004, 84005, 84006, 84007, 84008, 84009, 84010, 102999, 103999, 112999, 113999] h hq27 := gSs.tr sq14 xq27 (by decide)
      have s28 := (xq27.2.2.2.2.2 x 0 (by rw [tx]; decide)).trans s15
      have s29 := (xq27.2.2.2.2.2 x 1 (by rw [tx]; decide)).trans s16
      have s30 := (xq27.2.2.2.2.2 pic 0 (by rw [tpic]; decide)).trans s17
      have s31 := (xq27.2.2.2.2.2 bn 0 (by rw [tbn]; decide)).trans s18
      have s32 := (xq27.2.2.2.2.2 bn 1 (by rw [tbn]; decide)).trans s19
      have s33 := (xq27.2.2.2.2.2 bn 2 (by rw [tbn]; decide)).trans s20
      have s34 := (xq27.2.2.2.2.2 x 2 (by rw [tx]; decide)).trans s21
      have s35 := (xq27.2.2.2.2.2 src 1 (by rw [tsrc]; decide)).trans s22
      have s36 := (xq27.2.2.2.2.2 pic 7 (by rw [tpic]; decide)).trans s23
      have s37 := (xq27.2.2.2.2.2 x 3 (by rw [tx]; decide)).trans s24
      have pr38 := gPC.fr xq27.2 (by decide) pr25
      refine gy_s 5 (pc' := 66) (L' := [some (.ref x), some (.int (zi zq14)), some (.int (zi zq27))]) (S' := [.int ((zi zq14) + (zi 1)), .ref x]) (L2 := [some (.ref x), some (.int (zi zq14)), some (.int (zi zq27))]) (S2 := [.int (zi (zq14 + 1)), .ref x]) rfl (by simp only [zi_add, zi_sub, zi_mul, zi_neg, zi_and1, zi_and7, zi_and15, zi_and31, zi_and255]) (by simp only [zi_add, zi_sub, zi_mul, zi_neg, zi_and1, zi_and7, zi_and15, zi_and31, zi_and255]) ?_
      refine gs_put rfl (by decide) rfl sq27 tx rfl rfl rfl rfl (Or.inl rfl) (by decide) (by omega) (by omega) (fun h39 sh39 eh39 fh39 => ?_)
      have pr40 := gPC.pk fh39 (sh39.2.2.2.2.1.trans sq27.2.2.2.2.1.symm) tx (by decide) pr38
      have s41 := (fh39 x 0 (fun q => absurd q.2 (by decide))).trans s28
      have s42 := (fh39 x 1 (fun q => absurd q.2 (by decide))).trans s29
      have s43 := (fh39 pic 0 (fun q => absurd q.2 (by decide))).trans s30
      have s44 := (fh39 bn 0 (fun q => absurd (((tbn).symm.trans (congrArg ty q.1)).trans tx) (by decide))).trans s31
      have s45 := (fh39 bn 1 (fun q => absurd (((tbn).symm.trans (congrArg ty q.1)).trans tx) (by decide))).trans s32
      have s46 := (fh39 bn 2 (fun q => absurd (((tbn).symm.trans (congrArg ty q.1)).trans tx) (by decide))).trans s33
      have s47 := (fh39 x 2 (fun q => absurd q.2 (by decide))).trans s34
      have s48 := (fh39 src 1 (fun q => absurd q.2 (by decide))).trans s35
      have s49 := (fh39 pic 7 (fun q => absurd q.2 (by decide))).trans s36
      refine gz_s 2 (pc' := 73) (L' := [some (.ref x), some (.int (zi zq14)), some (.int (zi zq27))]) (S' := [.int (zi 217), .int (zi zq27)]) rfl ?_
      by_cases hc50 : ¬ (zq27 : Int) = 217
      · refine gy_icT (pc' := 79) rfl (by decide) (by decide) (by omega) (by omega) hc50 ?_
        refine gz_s 2 (pc' := 81) (L' := [some (.ref x), some (.int (zi zq14)), some (.int (zi zq27))]) (S' := [.int (zi 1), .int (zi zq27)]) rfl ?_
        by_cases hc51 : (zq27 : Int) = 1
        · refine gy_icT (pc' := 91) rfl (by decide) (by decide) (by omega) (by omega) hc51 ?_
          refine gz_s 1 (pc' := 92) (L' := [some (.ref x), some (.int (zi zq14)), some (.int (zi zq27))]) (S' := [.int (zi (-1))]) rfl ?_
          obtain ⟨z52, ez52, az52, bz52⟩ := gJ.int (k := 11) (G := gGG) sh39.1 tsc rfl rfl rfl
          obtain ⟨z53, ez53, az53, bz53⟩ := gJ.int (k := 12) (G := gGG) sh39.1 tsc rfl rfl rfl
          obtain ⟨z54, ez54, az54, bz54⟩ := gJ.int (k := 2) (G := gGG) sh39.1 tsc rfl rfl rfl
          obtain ⟨z55, ez55, az55, bz55⟩ := gJ.int (k := 3) (G := gGG) sh39.1 tsc rfl rfl rfl
          have k56 := sh39.2.1
          have k56b := sh39.2.2.1
          have G57 : gSg [112, 113] [] [54002, 54003, 54004, 54005, 54006, 54007, 54008, 54009, 54010, 54011, 54012, 54013, 58999, 65003, 66001, 66002, 66003, 66004, 66005, 66011, 66012, 82000, 82001, 82002, 82003, 82004, 82005, 82006, 82007, 82008, 82009, 82010, 83000, 83001, 83002, 83003, 83004, 83005, 83006, 83007, 83008, 83009, 83010, 84000, 84001, 84002, 84003, 84004, 84005, 84006, 84007, 84008, 84009, 84010, 102999, 103999, 112999, 113999] ty h ty h39 := gSg.ss G0 sh39 (by decide)
          exact gz_end (I := .ireturn) (len := 1) rfl (Or.inl rfl) ⟨ty, G57, (-1), cn, z52, z53, z54, z55, zq14 + 1, ld, rfl, (by omega), (by omega), s49, (by omega), (by omega), ez52, (by omega), (by omega), ez53, (by omega), (by omega), ez54, (by omega), (by omega), ez55, (by omega), (by omega), eh39, (by omega), (by omega), (by omega), (by omega), (by omega), (by dsimp only; omega), (by dsimp only; omega), (by omega), pr40⟩
        · refine gy_icF rfl (by decide) (by decide) (by omega) (by omega) hc51 ?_
          refine gz_s 1 (pc' := 85) (L' := [some (.ref x), some (.int (zi zq14)), some (.int (zi zq27))]) (S' := [.int (zi zq27)]) rfl ?_
          refine gz_call rfl (by decide) rfl (by decide) (by decide) (gcal_of rfl rfl rfl (Nat.le_of_ble_eq_true rfl) rfl) (cl_Reader_isRestart _ sh39.1 zq27 (by omega) uq) (fun q58 _ wq58 => ?_)
          obtain ⟨pq58, oq58, hq58⟩ := q58
          obtain ⟨xq58, zq58, gq58, aq58, bq58, uq58_0⟩ := wq58
          refine ⟨_, gq58, ?_⟩
          show gz gPP gGG gcn _ _ 88 [some (.ref x), some (.int (zi zq14)), some (.int (zi zq27))] [.int (zi zq58)] hq58 _
          have sq58 : gSs rT 1027 ty [54002, 54003, 54004, 54005, 54006, 54007, 54008, 54009, 54010, 54011, 54012, 54013, 58999, 65003, 66001, 66002, 66003, 66004, 66005, 66011, 66012, 82000, 82001, 82002, 82003, 82004, 82005, 82006, 82007, 82008, 82009, 82010, 83000, 83001, 83002, 83003, 83004, 83005, 83006, 83007, 83008, 83009, 83010, 84000, 84001, 84002, 84003, 84004, 84005, 84006, 84007, 84008, 84009, 84010, 102999, 103999, 112999, 113999] h hq58 := gSs.tr sh39 xq58 (by decide)
          have s59 := (xq58.2.2.2.2.2 x 0 (by rw [tx]; decide)).trans s41
          have s60 := (xq58.2.2.2.2.2 x 1 (by rw [tx]; decide)).trans s42
          have s61 := (xq58.2.2.2.2.2 pic 0 (by rw [tpic]; decide)).trans s43
          have s62 := (xq58.2.2.2.2.2 bn 0 (by rw [tbn]; decide)).trans s44
          have s63 := (xq58.2.2.2.2.2 bn 1 (by rw [tbn]; decide)).trans s45
          have s64 := (xq58.2.2.2.2.2 bn 2 (by rw [tbn]; decide)).trans s46
          have s65 := (xq58.2.2.2.2.2 x 2 (by rw [tx]; decide)).trans s47
          have s66 := (xq58.2.2.2.2.2 src 1 (by rw [tsrc]; decide)).trans s48
          have s67 := (xq58.2.2.2.2.2 pic 7 (by rw [tpic]; decide)).trans s49
          have s68 := (xq58.2.2.2.2.2 x 3 (by rw [tx]; decide)).trans eh39
          have pr69 := gPC.fr xq58.2 (by decide) pr40
          by_cases hc70 : (zq58 : Int) = 0
          · refine gy_ifT (pc' := 93) rfl (by decide) (by decide) (by omega) hc70 ?_
            refine gz_s 2 (pc' := 95) (L' := [some (.ref x), some (.int (zi zq14)), some (.int (zi zq27))]) (S' := [.int (zi zq27), .ref x]) rfl ?_
            refine gz_call rfl (by decide) rfl (by decide) (by decide) (gcal_of rfl rfl rfl (Nat.le_of_ble_eq_true rfl) (gJ.recv (G := gGG) sq58.1 tx rfl rfl)) (cl_Reader_isRefused _ sq58.1 x tx zq27 (by omega) pic s60 tpic cn s67 (by omega) uq) (fun q71 _ wq71 => ?_)
            obtain ⟨pq71, oq71, hq71⟩ := q71
            obtain ⟨xq71, zq71, gq71, aq71, bq71, uq71_0, uq71_1⟩ := wq71
            refine ⟨_, gq71, ?_⟩
            show gz gPP gGG gcn _ _ 98 [some (.ref x), some (.int (zi zq14)), some (.int (zi zq27))] [.int (zi zq71)] hq71 _
            have sq71 : gSs rT 1027 ty [54002, 54003, 54004, 54005, 54006, 54007, 54008, 54009, 54010, 54011, 54012, 54013, 58999, 65003, 66001, 66002, 66003, 66004, 66005, 66011, 66012, 82000, 82001, 82002, 82003, 82004, 82005, 82006, 82007, 82008, 82009, 82010, 83000, 83001, 83002, 83003, 83004, 83005, 83006, 83007, 83008, 83009, 83010, 84000, 84001, 84002, 84003, 84004, 84005, 84006, 84007, 84008, 84009, 84010, 102999, 103999, 112999, 113999] h hq71 := gSs.tr sq58 xq71 (by decide)
            have s72 := (xq71.2.2.2.2.2 x 0 (by rw [tx]; decide)).trans s59
            have s73 := (xq71.2.2.2.2.2 x 1 (by rw [tx]; decide)).trans s60
            have s74 := (xq71.2.2.2.2.2 pic 0 (by rw [tpic]; decide)).trans s61
            have s75 := (xq71.2.2.2.2.2 bn 0 (by rw [tbn]; decide)).trans s62
            have s76 := (xq71.2.2.2.2.2 bn 1 (by rw [tbn]; decide)).trans s63
            have s77 := (xq71.2.2.2.2.2 bn 2 (by rw [tbn]; decide)).trans s64
            have s78 := (xq71.2.2.2.2.2 x 2 (by rw [tx]; decide)).trans s65
            have s79 := (xq71.2.2.2.2.2 src 1 (by rw [tsrc]; decide)).trans s66
            have s80 := (xq71.2.2.2.2.2 pic 7 (by rw [tpic]; decide)).trans s67
            have s81 := (xq71.2.2.2.2.2 x 3 (by rw [tx]; decide)).trans s68
            have pr82 := gPC.fr xq71.2 (by decide) pr69
            by_cases hc83 : (zq71 : Int) = 0
            · refine gy_ifT (pc' := 105) rfl (by decide) (by decide) (by omega) hc83 ?_
              refine gy_s 5 (pc' := 110) (L' := [some (.ref x), some (.int (zi zq14)), some (.int (zi zq27))]) (S' := [.int ((zi zq14) + (zi 1)), .int (zi zq27), .ref x]) (L2 := [some (.ref x), some (.int (zi zq14)), some (.int (zi zq27))]) (S2 := [.int (zi (zq14 + 1)), .int (zi zq27), .ref x]) rfl (by simp only [zi_add, zi_sub, zi_mul, zi_neg, zi_and1, zi_and7, zi_and15, zi_and31, zi_and255]) (by simp only [zi_add, zi_sub, zi_mul, zi_neg, zi_and1, zi_and7, zi_and15, zi_and31, zi_and255]) ?_
              have k84 := sq71.2.1
              have k84b := sq71.2.2.1
              refine gz_call rfl (by decide) rfl (by decide) (by decide) (gcal_of rfl rfl rfl (Nat.le_of_ble_eq_true rfl) (gJ.recv (G := gGG) sq71.1 tx rfl rfl)) (cl_Reader_readSegment _ sq71.1 x tx zq27 (by omega) (zq14 + 1) (by omega) src s72 tsrc pic s73 tpic bn s74 tbn b0 s75 tb0 b1 s76 tb1 b2 s77 tb2 sc s78 tsc sz s79 (by omega) cn s80 (by omega) (zq14 + 1) s81 (by omega) ld (by omega) (by omega) (by omega) uq pr82) (fun q85 _ wq85 => ?_)
              obtain ⟨pq85, oq85, hq85⟩ := q85
              obtain ⟨tyq85, xq85, zq85, fq85_0, fq85_1, fq85_2, fq85_3, fq85_4, fq85_5, xq85_0, gq85, aq85, bq85, efq85_0, afq85_0, bfq85_0, efq85_1, afq85_1, bfq85_1, efq85_2, afq85_2, bfq85_2, efq85_3, afq85_3, bfq85_3, efq85_4, afq85_4, bfq85_4, efq85_5, afq85_5, bfq85_5, axq85_0, bxq85_0, uq85_0, uq85_1, uq85_2, uq85_3, yq85_0⟩ := wq85
              dsimp only at uq85_1 uq85_2
              refine ⟨_, gq85, ?_⟩
              show gz gPP gGG gcn _ _ 113 [some (.ref x), some (.int (zi zq14)), some (.int (zi zq27))] [.int (zi zq85)] hq85 _
              have G86 : gSg [112, 113] [] [54002, 54003, 54004, 54005, 54006, 54007, 54008, 54009, 54010, 54011, 54012, 54013, 58999, 65003, 66001, 66002, 66003, 66004, 66005, 66011, 66012, 82000, 82001, 82002, 82003, 82004, 82005, 82006, 82007, 82008, 82009, 82010, 83000, 83001, 83002, 83003, 83004, 83005, 83006, 83007, 83008, 83009, 83010, 84000, 84001, 84002, 84003, 84004, 84005, 84006, 84007, 84008, 84009, 84010, 102999, 103999, 112999, 113999] ty h tyq85 hq85 := gSg.tr (gSg.ss G0 sq71 (by decide)) xq85 (by decide) (by decide) (fun x hx => by cases hx)
              have t87 : tyq85 x = 65 := gSg.typ xq85 sq71.1 tx rfl
              have t88 : tyq85 src = 51 := gSg.typ xq85 sq71.1 tsrc rfl
              have t89 : tyq85 pic = 54 := gSg.typ xq85 sq71.1 tpic rfl
              have t90 : tyq85 bn = 57 := gSg.typ xq85 sq71.1 tbn rfl
              have t91 : tyq85 b0 = 82 := gSg.typ xq85 sq71.1 tb0 rfl
              have t92 : tyq85 b1 = 83 := gSg.typ xq85 sq71.1 tb1 rfl
              have t93 : tyq85 b2 = 84 := gSg.typ xq85 sq71.1 tb2 rfl
              have t94 : tyq85 sc = 66 := gSg.typ xq85 sq71.1 tsc rfl
              have s95 := gSg.at xq85 sq71.1 tx rfl (by decide) s72
              have s96 := gSg.at xq85 sq71.1 tx rfl (by decide) s73
              have s97 := gSg.at xq85 sq71.1 tpic rfl (by decide) s74
              have s98 := gSg.at xq85 sq71.1 tbn rfl (by decide) s75
              have s99 := gSg.at xq85 sq71.1 tbn rfl (by decide) s76
              have s100 := gSg.at xq85 sq71.1 tbn rfl (by decide) s77
              have s101 := gSg.at xq85 sq71.1 tx rfl (by decide) s78
              have s102 := gSg.at xq85 sq71.1 tsrc rfl (by decide) s79
              have uq103 := gSg.uq xq85 uq (by decide)
              have sS104 : gSs rT 1027 tyq85 [54002, 54003, 54004, 54005, 54006, 54007, 54008, 54009, 54010, 54011, 54012, 54013, 58999, 65003, 66001, 66002, 66003, 66004, 66005, 66011, 66012, 82000, 82001, 82002, 82003, 82004, 82005, 82006, 82007, 82008, 82009, 82010, 83000, 83001, 83002, 83003, 83004, 83005, 83006, 83007, 83008, 83009, 83010, 84000, 84001, 84002, 84003, 84004, 84005, 84006, 84007, 84008, 84009, 84010, 102999, 103999, 112999, 113999] hq85 hq85 := gSs.rf xq85.1
              have G105 : gSg [112, 113] [] [54002, 54003, 54004, 54005, 54006, 54007, 54008, 54009, 54010, 54011, 54012, 54013, 58999, 65003, 66001, 66002, 66003, 66004, 66005, 66011, 66012, 82000, 82001, 82002, 82003, 82004, 82005, 82006, 82007, 82008, 82009, 82010, 83000, 83001, 83002, 83003, 83004, 83005, 83006, 83007, 83008, 83009, 83010, 84000, 84001, 84002, 84003, 84004, 84005, 84006, 84007, 84008, 84009, 84010, 102999, 103999, 112999, 113999] ty h tyq85 hq85 := gSg.ss G86 sS104 (by decide)
              exact gz_end (I := .ireturn) (len := 1) rfl (Or.inl rfl) ⟨tyq85, G105, zq85, fq85_0, fq85_1, fq85_2, fq85_3, fq85_4, fq85_5, xq85_0, rfl, (by omega), (by omega), efq85_0, (by omega), (by omega), efq85_1, (by omega), (by omega), efq85_2, (by omega), (by omega), efq85_3, (by omega), (by omega), efq85_4, (by omega), (by omega), efq85_5, (by omega), (by omega), (by omega), (by omega), (by omega), (by dsimp only; omega), (by dsimp only; omega), (by omega), yq85_0⟩
            · refine gy_ifF rfl (by decide) (by decide) (by omega) hc83 ?_
              refine gz_s 2 (pc' := 113) (L' := [some (.ref x), some (.int (zi zq14)), some (.int (zi zq27))]) (S' := [.int (zi zq14)]) rfl ?_
              obtain ⟨z106, ez106, az106, bz106⟩ := gJ.int (k := 11) (G := gGG) sq71.1 tsc rfl rfl rfl
              obtain ⟨z107, ez107, az107, bz107⟩ := gJ.int (k := 12) (G := gGG) sq71.1 tsc rfl rfl rfl
              obtain ⟨z108, ez108, az108, bz108⟩ := gJ.int (k := 2) (G := gGG) sq71.1 tsc rfl rfl rfl
              obtain ⟨z109, ez109, az109, bz109⟩ := gJ.int (k := 3) (G := gGG) sq71.1 tsc rfl rfl rfl
              have k110 := sq71.2.1
              have k110b := sq71.2.2.1
              have G111 : gSg [112, 113] [] [54002, 54003, 54004, 54005, 54006, 54007, 54008, 54009, 54010, 54011, 54012, 54013, 58999, 65003, 66001, 66002, 66003, 66004, 66005, 66011, 66012, 82000, 82001, 82002, 82003, 82004, 82005, 82006, 82007, 82008, 82009, 82010, 83000, 83001, 83002, 83003, 83004, 83005, 83006, 83007, 83008, 83009, 83010, 84000, 84001, 84002, 84003, 84004, 84005, 84006, 84007, 84008, 84009, 84010, 102999, 103999, 112999, 113999] ty h ty hq71 := gSg.ss G0 sq71 (by decide)
              exact gz_end (I := .ireturn) (len := 1) rfl (Or.inl rfl) ⟨ty, G111, zq14, cn, z106, z107, z108, z109, zq14 + 1, ld, rfl, (by omega), (by omega), s80, (by omega), (by omega), ez106, (by omega), (by omega), ez107, (by omega), (by omega), ez108, (by omega), (by omega), ez109, (by omega), (by omega), s81, (by omega), (by omega), (by omega), (by omega), (by omega), (by dsimp only; omega), (by dsimp only; omega), (by omega), pr82⟩
          · refine gy_ifF rfl (by decide) (by decide) (by omega) hc70 ?_
            refine gz_s 1 (pc' := 92) (L' := [some (.ref x), some (.int (zi zq14)), some (.int (zi zq27))]) (S' := [.int (zi (-1))]) rfl ?_
            obtain ⟨z112, ez112, az112, bz112⟩ := gJ.int (k := 11) (G := gGG) sq58.1 tsc rfl rfl rfl
            obtain ⟨z113, ez113, az113, bz113⟩ := gJ.int (k := 12) (G := gGG) sq58.1 tsc rfl rfl rfl
            obtain ⟨z114, ez114, az114, bz114⟩ := gJ.int (k := 2) (G := gGG) sq58.1 tsc rfl rfl rfl
            obtain ⟨z115, ez115, az115, bz115⟩ := gJ.int (k := 3) (G := gGG) sq58.1 tsc rfl rfl rfl
            have k116 := sq58.2.1
            have k116b := sq58.2.2.1
            have G117 : gSg [112, 113] [] [54002, 54003, 54004, 54005, 54006, 54007, 54008, 54009, 54010, 54011, 54012, 54013, 58999, 65003, 66001, 66002, 66003, 66004, 66005, 66011, 66012, 82000, 82001, 82002, 82003, 82004, 82005, 82006, 82007, 82008, 82009, 82010, 83000, 83001, 83002, 83003, 83004, 83005, 83006, 83007, 83008, 83009, 83010, 84000, 84001, 84002, 84003, 84004, 84005, 84006, 84007, 84008, 84009, 84010, 102999, 103999, 112999, 113999] ty h ty hq58 := gSg.ss G0 sq58 (by decide)
            exact gz_end (I := .ireturn) (len := 1) rfl (Or.inl rfl) ⟨ty, G117, (-1), cn, z112, z113, z114, z115, zq14 + 1, ld, rfl, (by omega), (by omega), s67, (by omega), (by omega), ez112, (by omega), (by omega), ez113, (by omega), (by omega), ez114, (by omega), (by omega), ez115, (by omega), (by omega), s68, (by omega), (by omega), (by omega), (by omega), (by omega), (by dsimp only; omega), (by dsimp only; omega), (by omega), pr69⟩
      · refine gy_icF rfl (by decide) (by decide) (by omega) (by omega) hc50 ?_
        refine gz_s 1 (pc' := 78) (L' := [some (.ref x), some (.int (zi zq14)), some (.int (zi zq27))]) (S' := [.int (zi (-2))]) rfl ?_
        obtain ⟨z118, ez118, az118, bz118⟩ := gJ.int (k := 11) (G := gGG) sh39.1 tsc rfl rfl rfl
        obtain ⟨z119, ez119, az119, bz119⟩ := gJ.int (k := 12) (G := gGG) sh39.1 tsc rfl rfl rfl
        obtain ⟨z120, ez120, az120, bz120⟩ := gJ.int (k := 2) (G := gGG) sh39.1 tsc rfl rfl rfl
        obtain ⟨z121, ez121, az121, bz121⟩ := gJ.int (k := 3) (G := gGG) sh39.1 tsc rfl rfl rfl
        have k122 := sh39.2.1
        have k122b := sh39.2.2.1
        have G123 : gSg [112, 113] [] [54002, 54003, 54004, 54005, 54006, 54007, 54008, 54009, 54010, 54011, 54012, 54013, 58999, 65003, 66001, 66002, 66003, 66004, 66005, 66011, 66012, 82000, 82001, 82002, 82003, 82004, 82005, 82006, 82007, 82008, 82009, 82010, 83000, 83001, 83002, 83003, 83004, 83005, 83006, 83007, 83008, 83009, 83010, 84000, 84001, 84002, 84003, 84004, 84005, 84006, 84007, 84008, 84009, 84010, 102999, 103999, 112999, 113999] ty h ty h39 := gSg.ss G0 sh39 (by decide)
        exact gz_end (I := .ireturn) (len := 1) rfl (Or.inl rfl) ⟨ty, G123, (-2), cn, z118, z119, z120, z121, zq14 + 1, ld, rfl, (by omega), (by omega), s49, (by omega), (by omega), ez118, (by omega), (by omega), ez119, (by omega), (by omega), ez120, (by omega), (by omega), ez121, (by omega), (by omega), eh39, (by omega), (by omega), (by omega), (by omega), (by omega), (by dsimp only; omega), (by dsimp only; omega), (by omega), pr40⟩
    · refine gy_icF rfl (by decide) (by decide) (by omega) (by omega) hc26 ?_
      refine gz_s 1 (pc' := 46) (L' := [some (.ref x), some (.int (zi zq14)), none]) (S' := [.ref x]) rfl ?_
      refine gs_gtk rfl (by decide) rfl sq14.1 tx rfl rfl s15 ?_
      refine gs_gtk rfl (by decide) rfl sq14.1 tsrc rfl rfl s22 ?_
      obtain ⟨z124, ez124, az124, bz124⟩ := gJ.int (k := 11) (G := gGG) sq14.1 tsc rfl rfl rfl
      obtain ⟨z125, ez125, az125, bz125⟩ := gJ.int (k := 12) (G := gGG) sq14.1 tsc rfl rfl rfl
      obtain ⟨z126, ez126, az126, bz126⟩ := gJ.int (k := 2) (G := gGG) sq14.1 tsc rfl rfl rfl
      obtain ⟨z127, ez127, az127, bz127⟩ := gJ.int (k := 3) (G := gGG) sq14.1 tsc rfl rfl rfl
      have k128 := sq14.2.1
      have k128b := sq14.2.2.1
      have G129 : gSg [112, 113] [] [54002, 54003, 54004, 54005, 54006, 54007, 54008, 54009, 54010, 54011, 54012, 54013, 58999, 65003, 66001, 66002, 66003, 66004, 66005, 66011, 66012, 82000, 82001, 82002, 82003, 82004, 82005, 82006, 82007, 82008, 82009, 82010, 83000, 83001, 83002, 83003, 83004, 83005, 83006, 83007, 83008, 83009, 83010, 84000, 84001, 84002, 84003, 84004, 84005, 84006, 84007, 84008, 84009, 84010, 102999, 103999, 112999, 113999] ty h ty hq14 := gSg.ss G0 sq14 (by decide)
      exact gz_end (I := .ireturn) (len := 1) rfl (Or.inl rfl) ⟨ty, G129, sz, cn, z124, z125, z126, z127, p0, ld, rfl, (by omega), (by omega), s23, (by omega), (by omega), ez124, (by omega), (by omega), ez125, (by omega), (by omega), ez126, (by omega), (by omega), ez127, (by omega), (by omega), s24, (by omega), (by omega), (by omega), (by omega), (by omega), (by dsimp only; omega), (by dsimp only; omega), (by omega), pr25⟩
  · refine gy_icF rfl (by decide) (by decide) (by omega) (by omega) hc13 ?_
    refine gz_s 1 (pc' := 18) (L' := [some (.ref x), none, none]) (S' := [.ref x]) rfl ?_
    refine gs_gtk rfl (by decide) rfl sq1.1 tx rfl rfl s11 ?_
    obtain ⟨z130, ez130, az130, bz130⟩ := gJ.int (k := 11) (G := gGG) sq1.1 tsc rfl rfl rfl
    obtain ⟨z131, ez131, az131, bz131⟩ := gJ.int (k := 12) (G := gGG) sq1.1 tsc rfl rfl rfl
    obtain ⟨z132, ez132, az132, bz132⟩ := gJ.int (k := 2) (G := gGG) sq1.1 tsc rfl rfl rfl
    obtain ⟨z133, ez133, az133, bz133⟩ := gJ.int (k := 3) (G := gGG) sq1.1 tsc rfl rfl rfl
    have k134 := sq1.2.1
    have k134b := sq1.2.2.1
    have G135 : gSg [112, 113] [] [54002, 54003, 54004, 54005, 54006, 54007, 54008, 54009, 54010, 54011, 54012, 54013, 58999, 65003, 66001, 66002, 66003, 66004, 66005, 66011, 66012, 82000, 82001, 82002, 82003, 82004, 82005, 82006, 82007, 82008, 82009, 82010, 83000, 83001, 83002, 83003, 83004, 83005, 83006, 83007, 83008, 83009, 83010, 84000, 84001, 84002, 84003, 84004, 84005, 84006, 84007, 84008, 84009, 84010, 102999, 103999, 112999, 113999] ty h ty hq1 := gSg.ss G0 sq1 (by decide)
    exact gz_end (I := .ireturn) (len := 1) rfl (Or.inl rfl) ⟨ty, G135, p0, cn, z130, z131, z132, z133, p0, ld, rfl, (by omega), (by omega), s10, (by omega), (by omega), ez130, (by omega), (by omega), ez131, (by omega), (by omega), ez132, (by omega), (by omega), ez133, (by omega), (by omega), s11, (by omega), (by omega), (by omega), (by omega), (by omega), (by dsimp only; omega), (by dsimp only; omega), (by omega), pr12⟩
