/-! ===== methods of the landed text (by program) ===== -/
set_option maxRecDepth 20000 in
set_option maxHeartbeats 40000000 in
theorem cl_Reader_readPicture (d : Nat) {ty : Nat → Nat} {h : gH} (hJ : gJ rT 1027 ty h) (x : Nat) (tx : ty x = 65) (ft : Nat) (tft : ty ft = 53) (src : Nat) (esrc : h.2.2.2.2 x 0 = .ref src) (tsrc : ty src = 51) (pic : Nat) (epic : h.2.2.2.2 x 1 = .ref pic) (tpic : ty pic = 54) (bn : Nat) (ebn : h.2.2.2.2 pic 0 = .ref bn) (tbn : ty bn = 57) (b0 : Nat) (eb0 : h.2.2.2.2 bn 0 = .ref b0) (tb0 : ty b0 = 82) (b1 : Nat) (eb1 : h.2.2.2.2 bn 1 = .ref b1) (tb1 : ty b1 = 83) (b2 : Nat) (eb2 : h.2.2.2.2 bn 2 = .ref b2) (tb2 : ty b2 = 84) (sc : Nat) (esc : h.2.2.2.2 x 2 = .ref sc) (tsc : ty sc = 66) (sz : Int) (esz : h.2.2.2.2 src 1 = .int (zi sz)) (rsz : 0 ≤ sz ∧ sz ≤ 2000) (ld : Int) (rld : 0 ≤ ld ∧ ld ≤ 192) (uq : gUq ty) (hypc : gPC ty pic b0 b1 b2 ld h) : gz gPP gGG gcn (d + 7) gt12 0 (gent [.ref x, .ref ft] 4) [] h (fun q _ => ∃ ty9 : Nat → Nat, gSg [112, 113] [] [54002, 54003, 54004, 54005, 54006, 54007, 54008, 54009, 54010, 54011, 54012, 54013, 58999, 65003, 66001, 66002, 66003, 66004, 66005, 66010, 66011, 66012, 66013, 66014, 67001, 67002, 67003, 69999, 70999, 82000, 82001, 82002, 82003, 82004, 82005, 82006, 82007, 82008, 82009, 82010, 82011, 83000, 83001, 83002, 83003, 83004, 83005, 83006, 83007, 83008, 83009, 83010, 83011, 84000, 84001, 84002, 84003, 84004, 84005, 84006, 84007, 84008, 84009, 84010, 84011, 102999, 103999, 112999, 113999] ty h ty9 q.2.2 ∧ ∃ z ld1 : Int, gfin gt12 q.1 q.2.1 = some (some (.int (zi z))) ∧ (-2147483648) ≤ z ∧ z ≤ 2147483647 ∧ 0 ≤ ld1 ∧ ld1 ≤ 192 ∧ (((q.2.2.1 : Int) - h.1) ≤ 2 * (ld1 - ld)) ∧ (((q.2.2.2.1 : Int) - h.2.1) ≤ 12480 * (ld1 - ld)) ∧ (ld ≤ ld1) ∧ (gPC ty9 pic b0 b1 b2 ld1 q.2.2)) := by
  have hS : gSs rT 1027 ty [54002, 54003, 54004, 54005, 54006, 54007, 54008, 54009, 54010, 54011, 54012, 54013, 58999, 65003, 66001, 66002, 66003, 66004, 66005, 66010, 66011, 66012, 66013, 66014, 67001, 67002, 67003, 69999, 70999, 82000, 82001, 82002, 82003, 82004, 82005, 82006, 82007, 82008, 82009, 82010, 82011, 83000, 83001, 83002, 83003, 83004, 83005, 83006, 83007, 83008, 83009, 83010, 83011, 84000, 84001, 84002, 84003, 84004, 84005, 84006, 84007, 84008, 84009, 84010, 84011, 102999, 103999, 112999, 113999] h h := gSs.rf hJ
  have G0 : gSg [112, 113] [] [54002, 54003, 54004, 54005, 54006, 54007, 54008, 54009, 54010, 54011, 54012, 54013, 58999, 65003, 66001, 66002, 66003, 66004, 66005, 66010, 66011, 66012, 66013, 66014, 67001, 67002, 67003, 69999, 70999, 82000, 82001, 82002, 82003, 82004, 82005, 82006, 82007, 82008, 82009, 82010, 82011, 83000, 83001, 83002, 83003, 83004, 83005, 83006, 83007, 83008, 83009, 83010, 83011, 84000, 84001, 84002, 84003, 84004, 84005, 84006, 84007, 84008, 84009, 84010, 84011, 102999, 103999, 112999, 113999] ty h ty h := gSg.rf hJ (fun x hx => by cases hx)
  have hpq1 := hypc
  obtain ⟨_, bno, coo, dmo, vvo, ⟨tbno, tcoo, tdmo⟩, ⟨er0o, er1o, er2o, er3o, er4o, er5o⟩, hvvo, hrro, ⟨yy0o, yy1o, yy2o, yy3o, yy4o, yy5o, yy6o, yy7o⟩, ll0o, ll1o, ll2o, ll3o⟩ := hpq1
  have excno : h.2.2.2.2 pic 7 = .int (zi (vvo 0)) := hvvo (0, 7, 0) (by decide)
  have rrcno : 0 ≤ vvo 0 ∧ vvo 0 ≤ 3 := hrro (0, 0, 3) (by decide)
  have exuco : h.2.2.2.2 pic 12 = .int (zi (vvo 1)) := hvvo (0, 12, 1) (by decide)
  have rruco : 0 ≤ vvo 1 ∧ vvo 1 ≤ 8 := hrro (1, 0, 8) (by decide)
  have exuro : h.2.2.2.2 pic 13 = .int (zi (vvo 2)) := hvvo (0, 13, 2) (by decide)
  have rruro : 0 ≤ vvo 2 ∧ vvo 2 ≤ 8 := hrro (2, 0, 8) (by decide)
  have exblo : h.2.2.2.2 pic 8 = .int (zi (vvo 3)) := hvvo (0, 8, 3) (by decide)
  have rrblo : 0 ≤ vvo 3 ∧ vvo 3 ≤ 192 := hrro (3, 0, 192) (by decide)
  have exwo : h.2.2.2.2 pic 5 = .int (zi (vvo 4)) := hvvo (0, 5, 4) (by decide)
  have rrwo : 0 ≤ vvo 4 ∧ vvo 4 ≤ 64 := hrro (4, 0, 64) (by decide)
  have exhho : h.2.2.2.2 pic 6 = .int (zi (vvo 5)) := hvvo (0, 6, 5) (by decide)
  have rrhho : 0 ≤ vvo 5 ∧ vvo 5 ≤ 64 := hrro (5, 0, 64) (by decide)
  have exgho : h.2.2.2.2 pic 10 = .int (zi (vvo 6)) := hvvo (0, 10, 6) (by decide)
  have rrgho : 1 ≤ vvo 6 ∧ vvo 6 ≤ 2 := hrro (6, 1, 2) (by decide)
  have exgvo : h.2.2.2.2 pic 11 = .int (zi (vvo 7)) := hvvo (0, 11, 7) (by decide)
  have rrgvo : 1 ≤ vvo 7 ∧ vvo 7 ≤ 2 := hrro (7, 1, 2) (by decide)
  have exhb0o : h.2.2.2.2 b0 1 = .int (zi (vvo 8)) := hvvo (1, 1, 8) (by decide)
  have rrhb0o : (-1) ≤ vvo 8 ∧ vvo 8 ≤ 15 := hrro (8, (-1), 15) (by decide)
  have exvb0o : h.2.2.2.2 b0 2 = .int (zi (vvo 9)) := hvvo (1, 2, 9) (by decide)
  have rrvb0o : 0 ≤ vvo 9 ∧ vvo 9 ≤ 15 := hrro (9, 0, 15) (by decide)
  have extq0o : h.2.2.2.2 b0 3 = .int (zi (vvo 10)) := hvvo (1, 3, 10) (by decide)
  have rrtq0o : (-1) ≤ vvo 10 ∧ vvo 10 ≤ 255 := hrro (10, (-1), 255) (by decide)
  have exC0o : h.2.2.2.2 b0 4 = .int (zi (vvo 11)) := hvvo (1, 4, 11) (by decide)
  have rrC0o : 0 ≤ vvo 11 ∧ vvo 11 ≤ 16 := hrro (11, 0, 16) (by decide)
  have exR0o : h.2.2.2.2 b0 5 = .int (zi (vvo 12)) := hvvo (1, 5, 12) (by decide)
  have rrR0o : 0 ≤ vvo 12 ∧ vvo 12 ≤ 16 := hrro (12, 0, 16) (by decide)
  have exoc0o : h.2.2.2.2 b0 6 = .int (zi (vvo 13)) := hvvo (1, 6, 13) (by decide)
  have rroc0o : 0 ≤ vvo 13 ∧ vvo 13 ≤ 16 := hrro (13, 0, 16) (by decide)
  have exor0o : h.2.2.2.2 b0 7 = .int (zi (vvo 14)) := hvvo (1, 7, 14) (by decide)
  have rror0o : 0 ≤ vvo 14 ∧ vvo 14 ≤ 16 := hrro (14, 0, 16) (by decide)
  have exf0o : h.2.2.2.2 b0 8 = .int (zi (vvo 15)) := hvvo (1, 8, 15) (by decide)
  have rrf0o : 0 ≤ vvo 15 ∧ vvo 15 ≤ 192 := hrro (15, 0, 192) (by decide)
  have exhb1o : h.2.2.2.2 b1 1 = .int (zi (vvo 16)) := hvvo (2, 1, 16) (by decide)
  have rrhb1o : (-1) ≤ vvo 16 ∧ vvo 16 ≤ 15 := hrro (16, (-1), 15) (by decide)
  have exvb1o : h.2.2.2.2 b1 2 = .int (zi (vvo 17)) := hvvo (2, 2, 17) (by decide)
  have rrvb1o : 0 ≤ vvo 17 ∧ vvo 17 ≤ 15 := hrro (17, 0, 15) (by decide)
  have extq1o : h.2.2.2.2 b1 3 = .int (zi (vvo 18)) := hvvo (2, 3, 18) (by decide)
  have rrtq1o : (-1) ≤ vvo 18 ∧ vvo 18 ≤ 255 := hrro (18, (-1), 255) (by decide)
  have exC1o : h.2.2.2.2 b1 4 = .int (zi (vvo 19)) := hvvo (2, 4, 19) (by decide)
  have rrC1o : 0 ≤ vvo 19 ∧ vvo 19 ≤ 16 := hrro (19, 0, 16) (by decide)
  have exR1o : h.2.2.2.2 b1 5 = .int (zi (vvo 20)) := hvvo (2, 5, 20) (by decide)
  have rrR1o : 0 ≤ vvo 20 ∧ vvo 20 ≤ 16 := hrro (20, 0, 16) (by decide)
  have exoc1o : h.2.2.2.2 b1 6 = .int (zi (vvo 21)) := hvvo (2, 6, 21) (by decide)
  have rroc1o : 0 ≤ vvo 21 ∧ vvo 21 ≤ 16 := hrro (21, 0, 16) (by decide)
  have exor1o : h.2.2.2.2 b1 7 = .int (zi (vvo 22)) := hvvo (2, 7, 22) (by decide)
  have rror1o : 0 ≤ vvo 22 ∧ vvo 22 ≤ 16 := hrro (22, 0, 16) (by decide)
  have exf1o : h.2.2.2.2 b1 8 = .int (zi (vvo 23)) := hvvo (2, 8, 23) (by decide)
  have rrf1o : 0 ≤ vvo 23 ∧ vvo 23 ≤ 192 := hrro (23, 0, 192) (by decide)
  have exhb2o : h.2.2.2.2 b2 1 = .int (zi (vvo 24)) := hvvo (3, 1, 24) (by decide)
  have rrhb2o : (-1) ≤ vvo 24 ∧ vvo 24 ≤ 15 := hrro (24, (-1), 15) (by decide)
  have exvb2o : h.2.2.2.2 b2 2 = .int (zi (vvo 25)) := hvvo (3, 2, 25) (by decide)
  have rrvb2o : 0 ≤ vvo 25 ∧ vvo 25 ≤ 15 := hrro (25, 0, 15) (by decide)
  have extq2o : h.2.2.2.2 b2 3 = .int (zi (vvo 26)) := hvvo (3, 3, 26) (by decide)
  have rrtq2o : (-1) ≤ vvo 26 ∧ vvo 26 ≤ 255 := hrro (26, (-1), 255) (by decide)
  have exC2o : h.2.2.2.2 b2 4 = .int (zi (vvo 27)) := hvvo (3, 4, 27) (by decide)
  have rrC2o : 0 ≤ vvo 27 ∧ vvo 27 ≤ 16 := hrro (27, 0, 16) (by decide)
  have exR2o : h.2.2.2.2 b2 5 = .int (zi (vvo 28)) := hvvo (3, 5, 28) (by decide)
  have rrR2o : 0 ≤ vvo 28 ∧ vvo 28 ≤ 16 := hrro (28, 0, 16) (by decide)
  have exoc2o : h.2.2.2.2 b2 6 = .int (zi (vvo 29)) := hvvo (3, 6, 29) (by decide)
  have rroc2o : 0 ≤ vvo 29 ∧ vvo 29 ≤ 16 := hrro (29, 0, 16) (by decide)
  have exor2o : h.2.2.2.2 b2 7 = .int (zi (vvo 30)) := hvvo (3, 7, 30) (by decide)
  have rror2o : 0 ≤ vvo 30 ∧ vvo 30 ≤ 16 := hrro (30, 0, 16) (by decide)
  have exf2o : h.2.2.2.2 b2 8 = .int (zi (vvo 31)) := hvvo (3, 8, 31) (by decide)
  have rrf2o : 0 ≤ vvo 31 ∧ vvo 31 ≤ 192 := hrro (31, 0, 192) (by decide)
  refine gz_s 1 (pc' := 1) (L' := [some (.ref x), some (.ref ft), none, none]) (S' := [.ref x]) rfl ?_
  refine gs_gtk rfl (by decide) rfl hS.1 tx rfl rfl epic ?_
  refine gz_call rfl (by decide) rfl (by decide) (by decide) (gcal_of rfl rfl rfl (Nat.le_of_ble_eq_true rfl) (gJ.recv (G := gGG) hS.1 tpic rfl rfl)) (cl_Picture_forget _ hS.1 pic tpic uq) (fun q2 _ wq2 => ?_)
  obtain ⟨pq2, oq2, hq2⟩ := q2
  obtain ⟨xq2, fq2_0, fq2_1, fq2_2, fq2_3, gq2, efq2_0, afq2_0, bfq2_0, efq2_1, afq2_1, bfq2_1, efq2_2, afq2_2, bfq2_2, efq2_3, afq2_3, bfq2_3, uq2_0, uq2_1, uq2_2, uq2_3⟩ := wq2
  refine ⟨_, gq2, ?_⟩
  show gz gPP gGG gcn _ _ 7 [some (.ref x), some (.ref ft), none, none] [] hq2 _
  have sq2 : gSs rT 1027 ty [54002, 54003, 54004, 54005, 54006, 54007, 54008, 54009, 54010, 54011, 54012, 54013, 58999, 65003, 66001, 66002, 66003, 66004, 66005, 66010, 66011, 66012, 66013, 66014, 67001, 67002, 67003, 69999, 70999, 82000, 82001, 82002, 82003, 82004, 82005, 82006, 82007, 82008, 82009, 82010, 82011, 83000, 83001, 83002, 83003, 83004, 83005, 83006, 83007, 83008, 83009, 83010, 83011, 84000, 84001, 84002, 84003, 84004, 84005, 84006, 84007, 84008, 84009, 84010, 84011, 102999, 103999, 112999, 113999] h hq2 := gSs.tr hS xq2 (by decide)
  have s3 := (xq2.2.2.2.2.2 x 0 (by rw [tx]; decide)).trans esrc
  have s4 := (xq2.2.2.2.2.2 x 1 (by rw [tx]; decide)).trans epic
  have s5 := (xq2.2.2.2.2.2 pic 0 (by rw [tpic]; decide)).trans ebn
  have s6 := (xq2.2.2.2.2.2 bn 0 (by rw [tbn]; decide)).trans eb0
  have s7 := (xq2.2.2.2.2.2 bn 1 (by rw [tbn]; decide)).trans eb1
  have s8 := (xq2.2.2.2.2.2 bn 2 (by rw [tbn]; decide)).trans eb2
  have s9 := (xq2.2.2.2.2.2 x 2 (by rw [tx]; decide)).trans esc
  have s10 := (xq2.2.2.2.2.2 src 1 (by rw [tsrc]; decide)).trans esz
  have s11 := (xq2.2.2.2.2.2 pic 2 (by rw [tpic]; decide)).trans er4o
  have s12 := (xq2.2.2.2.2.2 pic 3 (by rw [tpic]; decide)).trans er5o
  have s13 := (xq2.2.2.2.2.2 pic 12 (by rw [tpic]; decide)).trans exuco
  have s14 := (xq2.2.2.2.2.2 pic 13 (by rw [tpic]; decide)).trans exuro
  have s15 := (xq2.2.2.2.2.2 pic 10 (by rw [tpic]; decide)).trans exgho
  have s16 := (xq2.2.2.2.2.2 pic 11 (by rw [tpic]; decide)).trans exgvo
  have s17 := (xq2.2.2.2.2.2 b0 1 (by rw [tb0]; decide)).trans exhb0o
  have s18 := (xq2.2.2.2.2.2 b0 2 (by rw [tb0]; decide)).trans exvb0o
  have s19 := (xq2.2.2.2.2.2 b0 3 (by rw [tb0]; decide)).trans extq0o
  have s20 := (xq2.2.2.2.2.2 b0 4 (by rw [tb0]; decide)).trans exC0o
  have s21 := (xq2.2.2.2.2.2 b0 5 (by rw [tb0]; decide)).trans exR0o
  have s22 := (xq2.2.2.2.2.2 b0 6 (by rw [tb0]; decide)).trans exoc0o
  have s23 := (xq2.2.2.2.2.2 b0 7 (by rw [tb0]; decide)).trans exor0o
  have s24 := (xq2.2.2.2.2.2 b0 8 (by rw [tb0]; decide)).trans exf0o
  have s25 := (xq2.2.2.2.2.2 b1 1 (by rw [tb1]; decide)).trans exhb1o
  have s26 := (xq2.2.2.2.2.2 b1 2 (by rw [tb1]; decide)).trans exvb1o
  have s27 := (xq2.2.2.2.2.2 b1 3 (by rw [tb1]; decide)).trans extq1o
  have s28 := (xq2.2.2.2.2.2 b1 4 (by rw [tb1]; decide)).trans exC1o
  have s29 := (xq2.2.2.2.2.2 b1 5 (by rw [tb1]; decide)).trans exR1o
  have s30 := (xq2.2.2.2.2.2 b1 6 (by rw [tb1]; decide)).trans exoc1o
  have s31 := (xq2.2.2.2.2.2 b1 7 (by rw [tb1]; decide)).trans exor1o
  have s32 := (xq2.2.2.2.2.2 b1 8 (by rw [tb1]; decide)).trans exf1o
  have s33 := (xq2.2.2.2.2.2 b2 1 (by rw [tb2]; decide)).trans exhb2o
  have s34 := (xq2.2.2.2.2.2 b2 2 (by rw [tb2]; decide)).trans exvb2o
  have s35 := (xq2.2.2.2.2.2 b2 3 (by rw [tb2]; decide)).trans extq2o
  have s36 := (xq2.2.2.2.2.2 b2 4 (by rw [tb2]; decide)).trans exC2o
  have s37 := (xq2.2.2.2.2.2 b2 5 (by rw [tb2]; decide)).trans exR2o
  have s38 := (xq2.2.2.2.2.2 b2 6 (by rw [tb2]; decide)).trans exoc2o
  have s39 := (xq2.2.2.2.2.2 b2 7 (by rw [tb2]; decide)).trans exor2o
  have s40 := (xq2.2.2.2.2.2 b2 8 (by rw [tb2]; decide)).trans exf2o
  have k41 := sq2.2.1
  have k41b := sq2.2.2.1
  have hl42 : hq2.2.2.2.1 coo = h.2.2.2.1 coo := congrFun sq2.2.2.2.2.1 coo
  have hl43 : hq2.2.2.2.1 dmo = h.2.2.2.1 dmo := congrFun sq2.2.2.2.2.1 dmo
  have hpc44 : gPC ty pic b0 b1 b2 ld hq2 := gPC.zero sq2.1 tpic s5 tbn s6 tb0 s7 tb1 s8 tb2 s11 tcoo s12 tdmo (by rw [(by omega : (0 : Int) = fq2_0)]; exact efq2_0) fq2_1 efq2_1 (by omega) fq2_2 efq2_2 (by omega) (by omega) (by omega) (by omega) (by omega)
  clear rrcno rruco rruro rrblo rrwo rrhho rrgho rrgvo rrhb0o rrvb0o rrtq0o rrC0o rrR0o rroc0o rror0o rrf0o rrhb1o rrvb1o rrtq1o rrC1o rrR1o rroc1o rror1o rrf1o rrhb2o rrvb2o rrtq2o rrC2o rrR2o rroc2o rror2o rrf2o yy0o yy1o yy2o yy3o yy4o yy5o yy6o yy7o
  refine gz_s 3 (pc' := 10) (L' := [some (.ref x), some (.ref ft), none, none]) (S' := [.ref x, .int (zi 0), .ref ft]) rfl ?_
  refine gs_gtk rfl (by decide) rfl sq2.1 tx rfl rfl s4 ?_
  refine gs_gtr rfl (by decide) rfl sq2.1 tpic rfl rfl rfl (fun c45 ec45 tc45 => ?_)
  refine gz_s 2 (pc' := 18) (L' := [some (.ref x), some (.ref ft), none, none]) (S' := [.ref x, .int (zi 0), .ref c45, .int (zi 0), .ref ft]) rfl ?_
  refine gs_gtk rfl (by decide) rfl sq2.1 tx rfl rfl s4 ?_
  refine gs_gtk rfl (by decide) rfl sq2.1 tpic rfl rfl ec45 ?_
  refine gs_len rfl (by decide) sq2.1 tc45 rfl rfl rfl (fun z46 ez46 az46 bz46 => ?_)
  have cz46 : 256 ≤ z46 ∧ z46 ≤ 256 := ⟨az46, bz46⟩
  have k48 := sq2.2.1
  have k48b := sq2.2.2.1
  have hl49 : hq2.2.2.2.1 coo = h.2.2.2.1 coo := congrFun sq2.2.2.2.2.1 coo
  have hl50 : hq2.2.2.2.1 dmo = h.2.2.2.1 dmo := congrFun sq2.2.2.2.2.1 dmo
  have hl51 : 256 ≤ hq2.2.2.2.1 c45 ∧ hq2.2.2.2.1 c45 ≤ 256 := gJ.rowl (G := gGG) sq2.1 tc45 rfl
  have hl52 : 256 ≤ hq2.2.2.2.1 ft ∧ hq2.2.2.2.1 ft ≤ 256 := gJ.rowl (G := gGG) sq2.1 tft rfl
  refine gs_copy rfl (by decide) (by omega) rfl sq2 tc45 rfl rfl tft rfl rfl (Or.inl ⟨rfl, rfl⟩) (by decide) (by decide) (fun _ => rfl) (fun _ => rfl) (by decide) (by decide) (by omega) (by omega) (by omega) (by omega) (by omega) (by decide) (fun _ => (by decide : (58999 : Nat) ∈ ([54002, 54003, 54004, 54005, 54006, 54007, 54008, 54009, 54010, 54011, 54012, 54013, 58999, 65003, 66001, 66002, 66003, 66004, 66005, 66010, 66011, 66012, 66013, 66014, 67001, 67002, 67003, 69999, 70999, 82000, 82001, 82002, 82003, 82004, 82005, 82006, 82007, 82008, 82009, 82010, 82011, 83000, 83001, 83002, 83003, 83004, 83005, 83006, 83007, 83008, 83009, 83010, 83011, 84000, 84001, 84002, 84003, 84004, 84005, 84006, 84007, 84008, 84009, 84010, 84011, 102999, 103999, 112999, 113999] : List Nat))) (fun h47 sh47 f9h47 => ?_)
  have fh47 : ∀ b j, ¬ (b = c45 ∧ True) → h47.2.2.2.2 b j = hq2.2.2.2.2 b j := fun b j hn => f9h47 b j (fun e => hn ⟨e, trivial⟩)
  have pr53 := gPC.pa fh47 (sh47.2.2.2.2.1.trans sq2.2.2.2.2.1.symm) tc45 (fun _ => (by decide : ¬ (58999 : Nat) ∈ gPCp)) hpc44
  have s54 := (fh47 x 0 (fun q => absurd (((tx).symm.trans (congrArg ty q.1)).trans tc45) (by decide))).trans s3
  have s55 := (fh47 x 1 (fun q => absurd (((tx).symm.trans (congrArg ty q.1)).trans tc45) (by decide))).trans s4
  have s56 := (fh47 pic 0 (fun q => absurd (((tpic).symm.trans (congrArg ty q.1)).trans tc45) (by decide))).trans s5
  have s57 := (fh47 bn 0 (fun q => absurd (((tbn).symm.trans (congrArg ty q.1)).trans tc45) (by decide))).trans s6
  have s58 := (fh47 bn 1 (fun q => absurd (((tbn).symm.trans (congrArg ty q.1)).trans tc45) (by decide))).trans s7
  have s59 := (fh47 bn 2 (fun q => absurd (((tbn).symm.trans (congrArg ty q.1)).trans tc45) (by decide))).trans s8
  have s60 := (fh47 x 2 (fun q => absurd (((tx).symm.trans (congrArg ty q.1)).trans tc45) (by decide))).trans s9
  have s61 := (fh47 src 1 (fun q => absurd (((tsrc).symm.trans (congrArg ty q.1)).trans tc45) (by decide))).trans s10
  have s62 := (fh47 pic 2 (fun q => absurd (((tpic).symm.trans (congrArg ty q.1)).trans tc45) (by decide))).trans s11
  have s63 := (fh47 pic 3 (fun q => absurd (((tpic).symm.trans (congrArg ty q.1)).trans tc45) (by decide))).trans s12
  have s64 := (fh47 pic 12 (fun q => absurd (((tpic).symm.trans (congrArg ty q.1)).trans tc45) (by decide))).trans s13
  have s65 := (fh47 pic 13 (fun q => absurd (((tpic).symm.trans (congrArg ty q.1)).trans tc45) (by decide))).trans s14
  have s66 := (fh47 pic 10 (fun q => absurd (((tpic).symm.trans (congrArg ty q.1)).trans tc45) (by decide))).trans s15
  have s67 := (fh47 pic 11 (fun q => absurd (((tpic).symm.trans (congrArg ty q.1)).trans tc45) (by decide))).trans s16
  have s68 := (fh47 b0 1 (fun q => absurd (((tb0).symm.trans (congrArg ty q.1)).trans tc45) (by decide))).trans s17
  have s69 := (fh47 b0 2 (fun q => absurd (((tb0).symm.trans (congrArg ty q.1)).trans tc45) (by decide))).trans s18
  have s70 := (fh47 b0 3 (fun q => absurd (((tb0).symm.trans (congrArg ty q.1)).trans tc45) (by decide))).trans s19
  have s71 := (fh47 b0 4 (fun q => absurd (((tb0).symm.trans (congrArg ty q.1)).trans tc45) (by decide))).trans s20
  have s72 := (fh47 b0 5 (fun q => absurd (((tb0).symm.trans (congrArg ty q.1)).trans tc45) (by decide))).trans s21
  have s73 := (fh47 b0 6 (fun q => absurd (((tb0).symm.trans (congrArg ty q.1)).trans tc45) (by decide))).trans s22
  have s74 := (fh47 b0 7 (fun q => absurd (((tb0).symm.trans (congrArg ty q.1)).trans tc45) (by decide))).trans s23
  have s75 := (fh47 b0 8 (fun q => absurd (((tb0).symm.trans (congrArg ty q.1)).trans tc45) (by decide))).trans s24
  have s76 := (fh47 b1 1 (fun q => absurd (((tb1).symm.trans (congrArg ty q.1)).trans tc45) (by decide))).trans s25
  have s77 := (fh47 b1 2 (fun q => absurd (((tb1).symm.trans (congrArg ty q.1)).trans tc45) (by decide))).trans s26
  have s78 := (fh47 b1 3 (fun q => absurd (((tb1).symm.trans (congrArg ty q.1)).trans tc45) (by decide))).trans s27
  have s79 := (fh47 b1 4 (fun q => absurd (((tb1).symm.trans (congrArg ty q.1)).trans tc45) (by decide))).trans s28
  have s80 := (fh47 b1 5 (fun q => absurd (((tb1).symm.trans (congrArg ty q.1)).trans tc45) (by decide))).trans s29
  have s81 := (fh47 b1 6 (fun q => absurd (((tb1).symm.trans (congrArg ty q.1)).trans tc45) (by decide))).trans s30
  have s82 := (fh47 b1 7 (fun q => absurd (((tb1).symm.trans (congrArg ty q.1)).trans tc45) (by decide))).trans s31
  have s83 := (fh47 b1 8 (fun q => absurd (((tb1).symm.trans (congrArg ty q.1)).trans tc45) (by decide))).trans s32
  have s84 := (fh47 b2 1 (fun q => absurd (((tb2).symm.trans (congrArg ty q.1)).trans tc45) (by decide))).trans s33
  have s85 := (fh47 b2 2 (fun q => absurd (((tb2).symm.trans (congrArg ty q.1)).trans tc45) (by decide))).trans s34
  have s86 := (fh47 b2 3 (fun q => absurd (((tb2).symm.trans (congrArg ty q.1)).trans tc45) (by decide))).trans s35
  have s87 := (fh47 b2 4 (fun q => absurd (((tb2).symm.trans (congrArg ty q.1)).trans tc45) (by decide))).trans s36
  have s88 := (fh47 b2 5 (fun q => absurd (((tb2).symm.trans (congrArg ty q.1)).trans tc45) (by decide))).trans s37
  have s89 := (fh47 b2 6 (fun q => absurd (((tb2).symm.trans (congrArg ty q.1)).trans tc45) (by decide))).trans s38
  have s90 := (fh47 b2 7 (fun q => absurd (((tb2).symm.trans (congrArg ty q.1)).trans tc45) (by decide))).trans s39
  have s91 := (fh47 b2 8 (fun q => absurd (((tb2).symm.trans (congrArg ty q.1)).trans tc45) (by decide))).trans s40
  have s92 := (fh47 pic 7 (fun q => absurd (((tpic).symm.trans (congrArg ty q.1)).trans tc45) (by decide))).trans efq2_0
  have s93 := (fh47 pic 8 (fun q => absurd (((tpic).symm.trans (congrArg ty q.1)).trans tc45) (by decide))).trans efq2_1
  have s94 := (fh47 pic 5 (fun q => absurd (((tpic).symm.trans (congrArg ty q.1)).trans tc45) (by decide))).trans efq2_2
  have s95 := (fh47 pic 6 (fun q => absurd (((tpic).symm.trans (congrArg ty q.1)).trans tc45) (by decide))).trans efq2_3
  have s96 := (fh47 pic 1 (fun q => absurd (((tpic).symm.trans (congrArg ty q.1)).trans tc45) (by decide))).trans ec45
  refine gz_s 1 (pc' := 29) (L' := [some (.ref x), some (.ref ft), none, none]) (S' := [.ref x]) rfl ?_
  refine gs_gtk rfl (by decide) rfl sh47.1 tx rfl rfl s60 ?_
  refine gz_call rfl (by decide) rfl (by decide) (by decide) (gcal_of rfl rfl rfl (Nat.le_of_ble_eq_true rfl) (gJ.recv (G := gGG) sh47.1 tsc rfl rfl)) (cl_ScanReader_beginAnew _ sh47.1 sc tsc uq) (fun q97 _ wq97 => ?_)
  obtain ⟨pq97, oq97, hq97⟩ := q97
  obtain ⟨xq97, gq97⟩ := wq97
  refine ⟨_, gq97, ?_⟩
  show gz gPP gGG gcn _ _ 35 [some (.ref x), some (.ref ft), none, none] [] hq97 _
  have sq97 : gSs rT 1027 ty [54002, 54003, 54004, 54005, 54006, 54007, 54008, 54009, 54010, 54011, 54012, 54013, 58999, 65003, 66001, 66002, 66003, 66004, 66005, 66010, 66011, 66012, 66013, 66014, 67001, 67002, 67003, 69999, 70999, 82000, 82001, 82002, 82003, 82004, 82005, 82006, 82007, 82008, 82009, 82010, 82011, 83000, 83001, 83002, 83003, 83004, 83005, 83006, 83007, 83008, 83009, 83010, 83011, 84000, 84001, 84002, 84003, 84004, 84005, 84006, 84007, 84008, 84009, 84010, 84011, 102999, 103999, 112999, 113999] h hq97 := gSs.tr sh47 xq97 (by decide)
  have s98 := (xq97.2.2.2.2.2 x 0 (by rw [tx]; decide)).trans s54
  have s99 := (xq97.2.2.2.2.2 x 1 (by rw [tx]; decide)).trans s55
  have s100 := (xq97.2.2.2.2.2 pic 0 (by rw [tpic]; decide)).trans s56
  have s101 := (xq97.2.2.2.2.2 bn 0 (by rw [tbn]; decide)).trans s57
  have s102 := (xq97.2.2.2.2.2 bn 1 (by rw [tbn]; decide)).trans s58
  have s103 := (xq97.2.2.2.2.2 bn 2 (by rw [tbn]; decide)).trans s59
  have s104 := (xq97.2.2.2.2.2 x 2 (by rw [tx]; decide)).trans s60
  have s105 := (xq97.2.2.2.2.2 src 1 (by rw [tsrc]; decide)).trans s61
  have s106 := (xq97.2.2.2.2.2 pic 2 (by rw [tpic]; decide)).trans s62
  have s107 := (xq97.2.2.2.2.2 pic 3 (by rw [tpic]; decide)).trans s63
  have s108 := (xq97.2.2.2.2.2 pic 12 (by rw [tpic]; decide)).trans s64
  have s109 := (xq97.2.2.2.2.2 pic 13 (by rw [tpic]; decide)).trans s65
  have s110 := (xq97.2.2.2.2.2 pic 10 (by rw [tpic]; decide)).trans s66
  have s111 := (xq97.2.2.2.2.2 pic 11 (by rw [tpic]; decide)).trans s67
  have s112 := (xq97.2.2.2.2.2 b0 1 (by rw [tb0]; decide)).trans s68
  have s113 := (xq97.2.2.2.2.2 b0 2 (by rw [tb0]; decide)).trans s69
  have s114 := (xq97.2.2.2.2.2 b0 3 (by rw [tb0]; decide)).trans s70
  have s115 := (xq97.2.2.2.2.2 b0 4 (by rw [tb0]; decide)).trans s71
  have s116 := (xq97.2.2.2.2.2 b0 5 (by rw [tb0]; decide)).trans s72
  have s117 := (xq97.2.2.2.2.2 b0 6 (by rw [tb0]; decide)).trans s73
  have s118 := (xq97.2.2.2.2.2 b0 7 (by rw [tb0]; decide)).trans s74
  have s119 := (xq97.2.2.2.2.2 b0 8 (by rw [tb0]; decide)).trans s75
  have s120 := (xq97.2.2.2.2.2 b1 1 (by rw [tb1]; decide)).trans s76
  have s121 := (xq97.2.2.2.2.2 b1 2 (by rw [tb1]; decide)).trans s77
  have s122 := (xq97.2.2.2.2.2 b1 3 (by rw [tb1]; decide)).trans s78
  have s123 := (xq97.2.2.2.2.2 b1 4 (by rw [tb1]; decide)).trans s79
  have s124 := (xq97.2.2.2.2.2 b1 5 (by rw [tb1]; decide)).trans s80
  have s125 := (xq97.2.2.2.2.2 b1 6 (by rw [tb1]; decide)).trans s81
  have s126 := (xq97.2.2.2.2.2 b1 7 (by rw [tb1]; decide)).trans s82
  have s127 := (xq97.2.2.2.2.2 b1 8 (by rw [tb1]; decide)).trans s83
  have s128 := (xq97.2.2.2.2.2 b2 1 (by rw [tb2]; decide)).trans s84
  have s129 := (xq97.2.2.2.2.2 b2 2 (by rw [tb2]; decide)).trans s85
  have s130 := (xq97.2.2.2.2.2 b2 3 (by rw [tb2]; decide)).trans s86
  have s131 := (xq97.2.2.2.2.2 b2 4 (by rw [tb2]; decide)).trans s87
  have s132 := (xq97.2.2.2.2.2 b2 5 (by rw [tb2]; decide)).trans s88
  have s133 := (xq97.2.2.2.2.2 b2 6 (by rw [tb2]; decide)).trans s89
  have s134 := (xq97.2.2.2.2.2 b2 7 (by rw [tb2]; decide)).trans s90
  have s135 := (xq97.2.2.2.2.2 b2 8 (by rw [tb2]; decide)).trans s91
  have s136 := (xq97.2.2.2.2.2 pic 7 (by rw [tpic]; decide)).trans s92
  have s137 := (xq97.2.2.2.2.2 pic 8 (by rw [tpic]; decide)).trans s93
  have s138 := (xq97.2.2.2.2.2 pic 5 (by rw [tpic]; decide)).trans s94
  have s139 := (xq97.2.2.2.2.2 pic 6 (by rw [tpic]; decide)).trans s95
  have s140 := (xq97.2.2.2.2.2 pic 1 (by rw [tpic]; decide)).trans s96
  have pr141 := gPC.fr xq97.2 (by decide) pr53
  refine gz_s 1 (pc' := 36) (L' := [some (.ref x), some (.ref ft), none, none]) (S' := [.ref x]) rfl ?_
  refine gs_gtk rfl (by decide) rfl sq97.1 tx rfl rfl s98 ?_
  refine gz_s 1 (pc' := 40) (L' := [some (.ref x), some (.ref ft), none, none]) (S' := [.int (zi 0), .ref src]) rfl ?_
  refine gz_call rfl (by decide) rfl (by decide) (by decide) (gcal_of rfl rfl rfl (Nat.le_of_ble_eq_true rfl) (gJ.recv (G := gGG) sq97.1 tsrc rfl rfl)) (cl_Collected_twoAt _ sq97.1 src tsrc 0 ⟨by omega, by omega⟩ sz s105 ⟨by omega, by omega⟩ uq) (fun q142 _ wq142 => ?_)
  obtain ⟨pq142, oq142, hq142⟩ := q142
  obtain ⟨xq142, zq142, gq142, aq142, bq142, uq142_0⟩ := wq142
  refine ⟨_, gq142, ?_⟩
  show gz gPP gGG gcn _ _ 43 [some (.ref x), some (.ref ft), none, none] [.int (zi zq142)] hq142 _
  have sq142 : gSs rT 1027 ty [54002, 54003, 54004, 54005, 54006, 54007, 54008, 54009, 54010, 54011, 54012, 54013, 58999, 65003, 66001, 66002, 66003, 66004, 66005, 66010, 66011, 66012, 66013, 66014, 67001, 67002, 67003, 69999, 70999, 82000, 82001, 82002, 82003, 82004, 82005, 82006, 82007, 82008, 82009, 82010, 82011, 83000, 83001, 83002, 83003, 83004, 83005, 83006, 83007, 83008, 83009, 83010, 83011, 84000, 84001, 84002, 84003, 84004, 84005, 84006, 84007, 84008, 84009, 84010, 84011, 102999, 103999, 112999, 113999] h hq142 := gSs.tr sq97 xq142 (by decide)
  have s143 := (xq142.2.2.2.2.2 x 0 (by rw [tx]; decide)).trans s98
  have s144 := (xq142.2.2.2.2.2 x 1 (by rw [tx]; decide)).trans s99
  have s145 := (xq142.2.2.2.2.2 pic 0 (by rw [tpic]; decide)).trans s100
  have s146 := (xq142.2.2.2.2.2 bn 0 (by rw [tbn]; decide)).trans s101
  have s147 := (xq142.2.2.2.2.2 bn 1 (by rw [tbn]; decide)).trans s102
  have s148 := (xq142.2.2.2.2.2 bn 2 (by rw [tbn]; decide)).trans s103
  have s149 := (xq142.2.2.2.2.2 x 2 (by rw [tx]; decide)).trans s104
  have s150 := (xq142.2.2.2.2.2 src 1 (by rw [tsrc]; decide)).trans s105
  have s151 := (xq142.2.2.2.2.2 pic 2 (by rw [tpic]; decide)).trans s106
  have s152 := (xq142.2.2.2.2.2 pic 3 (by rw [tpic]; decide)).trans s107
  have s153 := (xq142.2.2.2.2.2 pic 12 (by rw [tpic]; decide)).trans s108
  have s154 := (xq142.2.2.2.2.2 pic 13 (by rw [tpic]; decide)).trans s109
  have s155 := (xq142.2.2.2.2.2 pic 10 (by rw [tpic]; decide)).trans s110
  have s156 := (xq142.2.2.2.2.2 pic 11 (by rw [tpic]; decide)).trans s111
  have s157 := (xq142.2.2.2.2.2 b0 1 (by rw [tb0]; decide)).trans s112
  have s158 := (xq142.2.2.2.2.2 b0 2 (by rw [tb0]; decide)).trans s113
  have s159 := (xq142.2.2.2.2.2 b0 3 (by rw [tb0]; decide)).trans s114
  have s160 := (xq142.2.2.2.2.2 b0 4 (by rw [tb0]; decide)).trans s115
  have s161 := (xq142.2.2.2.2.2 b0 5 (by rw [tb0]; decide)).trans s116
  have s162 := (xq142.2.2.2.2.2 b0 6 (by rw [tb0]; decide)).trans s117
  have s163 := (xq142.2.2.2.2.2 b0 7 (by rw [tb0]; decide)).trans s118
  have s164 := (xq142.2.2.2.2.2 b0 8 (by rw [tb0]; decide)).trans s119
  have s165 := (xq142.2.2.2.2.2 b1 1 (by rw [tb1]; decide)).trans s120
  have s166 := (xq142.2.2.2.2.2 b1 2 (by rw [tb1]; decide)).trans s121
  have s167 := (xq142.2.2.2.2.2 b1 3 (by rw [tb1]; decide)).trans s122
  have s168 := (xq142.2.2.2.2.2 b1 4 (by rw [tb1]; decide)).trans s123
  have s169 := (xq142.2.2.2.2.2 b1 5 (by rw [tb1]; decide)).trans s124
  have s170 := (xq142.2.2.2.2.2 b1 6 (by rw [tb1]; decide)).trans s125
  have s171 := (xq142.2.2.2.2.2 b1 7 (by rw [tb1]; decide)).trans s126
  have s172 := (xq142.2.2.2.2.2 b1 8 (by rw [tb1]; decide)).trans s127
  have s173 := (xq142.2.2.2.2.2 b2 1 (by rw [tb2]; decide)).trans s128
  have s174 := (xq142.2.2.2.2.2 b2 2 (by rw [tb2]; decide)).trans s129
  have s175 := (xq142.2.2.2.2.2 b2 3 (by rw [tb2]; decide)).trans s130
  have s176 := (xq142.2.2.2.2.2 b2 4 (by rw [tb2]; decide)).trans s131
  have s177 := (xq142.2.2.2.2.2 b2 5 (by rw [tb2]; decide)).trans s132
  have s178 := (xq142.2.2.2.2.2 b2 6 (by rw [tb2]; decide)).trans s133
  have s179 := (xq142.2.2.2.2.2 b2 7 (by rw [tb2]; decide)).trans s134
  have s180 := (xq142.2.2.2.2.2 b2 8 (by rw [tb2]; decide)).trans s135
  have s181 := (xq142.2.2.2.2.2 pic 7 (by rw [tpic]; decide)).trans s136
  have s182 := (xq142.2.2.2.2.2 pic 8 (by rw [tpic]; decide)).trans s137
  have s183 := (xq142.2.2.2.2.2 pic 5 (by rw [tpic]; decide)).trans s138
  have s184 := (xq142.2.2.2.2.2 pic 6 (by rw [tpic]; decide)).trans s139
  have s185 := (xq142.2.2.2.2.2 pic 1 (by rw [tpic]; decide)).trans s140
  have pr186 := gPC.fr xq142.2 (by decide) pr141
  refine gz_1 rfl (by decide) rfl rfl (pc' := 45) (S' := [.int (zi 65496), .int (zi zq142)]) (h' := hq142) rfl ?_
  have jn187 : ∀ (jn187v0 : Int), ((-1 ≤ jn187v0) ∧ (jn187v0 ≤ 0)) → gz gPP gGG gcn (d + 7) gt12 53 [some (.ref x), some (.ref ft), none, none] [.int (zi jn187v0)] hq142 (fun q _ => ∃ ty9 : Nat → Nat, gSg [112, 113] [] [54002, 54003, 54004, 54005, 54006, 54007, 54008, 54009, 54010, 54011, 54012, 54013, 58999, 65003, 66001, 66002, 66003, 66004, 66005, 66010, 66011, 66012, 66013, 66014, 67001, 67002, 67003, 69999, 70999, 82000, 82001, 82002, 82003, 82004, 82005, 82006, 82007, 82008, 82009, 82010, 82011, 83000, 83001, 83002, 83003, 83004, 83005, 83006, 83007, 83008, 83009, 83010, 83011, 84000, 84001, 84002, 84003, 84004, 84005, 84006, 84007, 84008, 84009, 84010, 84011, 102999, 103999, 112999, 113999] ty h ty9 q.2.2 ∧ ∃ z ld1 : Int, gfin gt12 q.1 q.2.1 = some (some (.int (zi z))) ∧ (-2147483648) ≤ z ∧ z ≤ 2147483647 ∧ 0 ≤ ld1 ∧ ld1 ≤ 192 ∧ (((q.2.2.1 : Int) - h.1) ≤ 2 * (ld1 - ld)) ∧ (((q.2.2.2.1 : Int) - h.2.1) ≤ 12480 * (ld1 - ld)) ∧ (ld ≤ ld1) ∧ (gPC ty9 pic b0 b1 b2 ld1 q.2.2)) := by
    intro jn187v0 jn187d
    refine gz_s 3 (pc' := 56) (L' := [some (.ref x), some (.ref ft), some (.int (zi jn187v0)), none]) (S' := [.int (zi 2), .ref x]) rfl ?_
    refine gs_put rfl (by decide) rfl sq142 tx rfl rfl rfl rfl (Or.inl rfl) (by decide) (by omega) (by omega) (fun h188 sh188 eh188 fh188 => ?_)
    have pr189 := gPC.pk fh188 (sh188.2.2.2.2.1.trans sq142.2.2.2.2.1.symm) tx (by decide) pr186
    have s190 := (fh188 x 0 (fun q => absurd q.2 (by decide))).trans s143
    have s191 := (fh188 x 1 (fun q => absurd q.2 (by decide))).trans s144
    have s192 := (fh188 pic 0 (fun q => absurd q.2 (by decide))).trans s145
    have s193 := (fh188 bn 0 (fun q => absurd (((tbn).symm.trans (congrArg ty q.1)).trans tx) (by decide))).trans s146
    have s194 := (fh188 bn 1 (fun q => absurd (((tbn).symm.trans (congrArg ty q.1)).trans tx) (by decide))).trans s147
    have s195 := (fh188 bn 2 (fun q => absurd (((tbn).symm.trans (congrArg ty q.1)).trans tx) (by decide))).trans s148
    have s196 := (fh188 x 2 (fun q => absurd q.2 (by decide))).trans s149
    have s197 := (fh188 src 1 (fun q => absurd q.2 (by decide))).trans s150
    have s198 := (fh188 pic 2 (fun q => absurd q.2 (by decide))).trans s151
    have s199 := (fh188 pic 3 (fun q => absurd (((tpic).symm.trans (congrArg ty q.1)).trans tx) (by decide))).trans s152
    have s200 := (fh188 pic 12 (fun q => absurd q.2 (by decide))).trans s153
    have s201 := (fh188 pic 13 (fun q => absurd q.2 (by decide))).trans s154
    have s202 := (fh188 pic 10 (fun q => absurd q.2 (by decide))).trans s155
    have s203 := (fh188 pic 11 (fun q => absurd q.2 (by decide))).trans s156
    have s204 := (fh188 b0 1 (fun q => absurd q.2 (by decide))).trans s157
    have s205 := (fh188 b0 2 (fun q => absurd q.2 (by decide))).trans s158
    have s206 := (fh188 b0 3 (fun q => absurd (((tb0).symm.trans (congrArg ty q.1)).trans tx) (by decide))).trans s159
    have s207 := (fh188 b0 4 (fun q => absurd q.2 (by decide))).trans s160
    have s208 := (fh188 b0 5 (fun q => absurd q.2 (by decide))).trans s161
    have s209 := (fh188 b0 6 (fun q => absurd q.2 (by decide))).trans s162
    have s210 := (fh188 b0 7 (fun q => absurd q.2 (by decide))).trans s163
    have s211 := (fh188 b0 8 (fun q => absurd q.2 (by decide))).trans s164
    have s212 := (fh188 b1 1 (fun q => absurd q.2 (by decide))).trans s165
    have s213 := (fh188 b1 2 (fun q => absurd q.2 (by decide))).trans s166
    have s214 := (fh188 b1 3 (fun q => absurd (((tb1).symm.trans (congrArg ty q.1)).trans tx) (by decide))).trans s167
    have s215 := (fh188 b1 4 (fun q => absurd q.2 (by decide))).trans s168
    have s216 := (fh188 b1 5 (fun q => absurd q.2 (by decide))).trans s169
    have s217 := (fh188 b1 6 (fun q => absurd q.2 (by decide))).trans s170
    have s218 := (fh188 b1 7 (fun q => absurd q.2 (by decide))).trans s171
    have s219 := (fh188 b1 8 (fun q => absurd q.2 (by decide))).trans s172
    have s220 := (fh188 b2 1 (fun q => absurd q.2 (by decide))).trans s173
    have s221 := (fh188 b2 2 (fun q => absurd q.2 (by decide))).trans s174
    have s222 := (fh188 b2 3 (fun q => absurd (((tb2).symm.trans (congrArg ty q.1)).trans tx) (by decide))).trans s175
    have s223 := (fh188 b2 4 (fun q => absurd q.2 (by decide))).trans s176
    have s224 := (fh188 b2 5 (fun q => absurd q.2 (by decide))).trans s177
    have s225 := (fh188 b2 6 (fun q => absurd q.2 (by decide))).trans s178
    have s226 := (fh188 b2 7 (fun q => absurd q.2 (by decide))).trans s179
    have s227 := (fh188 b2 8 (fun q => absurd q.2 (by decide))).trans s180
    have s228 := (fh188 pic 7 (fun q => absurd q.2 (by decide))).trans s181
    have s229 := (fh188 pic 8 (fun q => absurd q.2 (by decide))).trans s182
    have s230 := (fh188 pic 5 (fun q => absurd q.2 (by decide))).trans s183
    have s231 := (fh188 pic 6 (fun q => absurd q.2 (by decide))).trans s184
    have s232 := (fh188 pic 1 (fun q => absurd q.2 (by decide))).trans s185
    refine gz_s 2 (pc' := 61) (L' := [some (.ref x), some (.ref ft), some (.int (zi jn187v0)), some (.int (zi 0))]) (S' := []) rfl ?_
    have lp233 : ∀ (fu : Nat) (ty235 : Nat → Nat) (h234 : gH) (step : Int) (tn : Int) (pv : Int) (ldv : Int), (2001 - tn).toNat < fu → gSg [112, 113] [] [54002, 54003, 54004, 54005, 54006, 54007, 54008, 54009, 54010, 54011, 54012, 54013, 58999, 65003, 66001, 66002, 66003, 66004, 66005, 66010, 66011, 66012, 66013, 66014, 67001, 67002, 67003, 69999, 70999, 82000, 82001, 82002, 82003, 82004, 82005, 82006, 82007, 82008, 82009, 82010, 82011, 83000, 83001, 83002, 83003, 83004, 83005, 83006, 83007, 83008, 83009, 83010, 83011, 84000, 84001, 84002, 84003, 84004, 84005, 84006, 84007, 84008, 84009, 84010, 84011, 102999, 103999, 112999, 113999] ty h ty235 h234 → gUq ty235 → ty235 x = 65 → ty235 ft = 53 → ty235 src = 51 → ty235 pic = 54 → ty235 bn = 57 → ty235 b0 = 82 → ty235 b1 = 83 → ty235 b2 = 84 → ty235 sc = 66 → ty235 c45 = 58 → ((-2) ≤ step ∧ step ≤ 4400) → (0 ≤ tn ∧ tn ≤ 2000) → (0 ≤ pv ∧ pv ≤ 2002) → (0 ≤ ldv ∧ ldv ≤ 192) → (((h234.1 : Int) - h.1) ≤ 2 * (ldv - ld)) → (((h234.2.1 : Int) - h.2.1) ≤ 12480 * (ldv - ld)) → (ld ≤ ldv) → h234.2.2.2.2 x 0 = .ref src → h234.2.2.2.2 x 1 = .ref pic → h234.2.2.2.2 pic 0 = .ref bn → h234.2.2.2.2 bn 0 = .ref b0 → h234.2.2.2.2 bn 1 = .ref b1 → h234.2.2.2.2 bn 2 = .ref b2 → h234.2.2.2.2 x 2 = .ref sc → h234.2.2.2.2 src 1 = .int (zi sz) → h234.2.2.2.2 pic 1 = .ref c45 → h234.2.2.2.2 x 3 = .int (zi pv) → gPC ty235 pic b0 b1 b2 ldv h234 → gz gPP gGG gcn (d + 7) gt12 61 [some (.ref x), some (.ref ft), some (.int (zi step)), some (.int (zi tn))] [] h234 (fun q _ => ∃ ty9 : Nat → Nat, gSg [112, 113] [] [54002, 54003, 54004, 54005, 54006, 54007, 54008, 54009, 54010, 54011, 54012, 54013, 58999, 65003, 66001, 66002, 66003, 66004, 66005, 66010, 66011, 66012, 66013, 66014, 67001, 67002, 67003, 69999, 70999, 82000, 82001, 82002, 82003, 82004, 82005, 82006, 82007, 82008, 82009, 82010, 82011, 83000, 83001, 83002, 83003, 83004, 83005, 83006, 83007, 83008, 83009, 83010, 83011, 84000, 84001, 84002, 84003, 84004, 84005, 84006, 84007, 84008, 84009, 84010, 84011, 102999, 103999, 112999, 113999] ty h ty9 q.2.2 ∧ ∃ z ld1 : Int, gfin gt12 q.1 q.2.1 = some (some (.int (zi z))) ∧ (-2147483648) ≤ z ∧ z ≤ 2147483647 ∧ 0 ≤ ld1 ∧ ld1 ≤ 192 ∧ (((q.2.2.1 : Int) - h.1) ≤ 2 * (ld1 - ld)) ∧ (((q.2.2.2.1 : Int) - h.2.1) ≤ 12480 * (ld1 - ld)) ∧ (ld ≤ ld1) ∧ (gPC ty9 pic b0 b1 b2 ld1 q.2.2)) := by
      intro fu
      induction fu with
      | zero => intro ty235 h234 step tn pv ldv hm; exact absurd hm (Nat.not_lt_zero _)
      | succ fu ihlp233 =>
        intro ty235 h234 step tn pv ldv lp233m lp233G lp233u lp233c0 lp233c1 lp233c2 lp233c3 lp233c4 lp233c5 lp233c6 lp233c7 lp233c8 lp233c9 lp233f0 lp233f1 lp233f2 lp233f3 lp233f4 lp233f5 lp233f6 lp233k0 lp233k1 lp233k2 lp233k3 lp233k4 lp233k5 lp233k6 lp233k7 lp233k8 lp233k9 lp233k10
        have sh234 : gSs rT 1027 ty235 [54002, 54003, 54004, 54005, 54006, 54007, 54008, 54009, 54010, 54011, 54012, 54013, 58999, 65003, 66001, 66002, 66003, 66004, 66005, 66010, 66011, 66012, 66013, 66014, 67001, 67002, 67003, 69999, 70999, 82000, 82001, 82002, 82003, 82004, 82005, 82006, 82007, 82008, 82009, 82010, 82011, 83000, 83001, 83002, 83003, 83004, 83005, 83006, 83007, 83008, 83009, 83010, 83011, 84000, 84001, 84002, 84003, 84004, 84005, 84006, 84007, 84008, 84009, 84010, 84011, 102999, 103999, 112999, 113999] h234 h234 := gSs.rf lp233G.1
        refine gz_s 2 (pc' := 65) (L' := [some (.ref x), some (.ref ft), some (.int (zi step)), some (.int (zi tn))]) (S' := [.int (zi 2000), .int (zi tn)]) rfl ?_
        by_cases hc236 : (2000 : Int) ≤ tn
        · refine gy_icT (pc' := 121) rfl (by decide) (by decide) (by omega) (by omega) hc236 ?_
          refine gz_s 2 (pc' := 124) (L' := [some (.ref x), some (.ref ft), some (.int (zi step)), some (.int (zi tn))]) (S' := [.int (zi (-2)), .int (zi step)]) rfl ?_
          by_cases hc237 : ¬ (step : Int) = (-2)
          · refine gy_icT (pc' := 135) rfl (by decide) (by decide) (by omega) (by omega) hc237 ?_
            have hpq238 := lp233k10
            obtain ⟨_, bne, coe, dme, vve, ⟨tbne, tcoe, tdme⟩, ⟨er0e, er1e, er2e, er3e, er4e, er5e⟩, hvve, hrre, ⟨yy0e, yy1e, yy2e, yy3e, yy4e, yy5e, yy6e, yy7e⟩, ll0e, ll1e, ll2e, ll3e⟩ := hpq238
            have excne : h234.2.2.2.2 pic 7 = .int (zi (vve 0)) := hvve (0, 7, 0) (by decide)
            have rrcne : 0 ≤ vve 0 ∧ vve 0 ≤ 3 := hrre (0, 0, 3) (by decide)
            have exuce : h234.2.2.2.2 pic 12 = .int (zi (vve 1)) := hvve (0, 12, 1) (by decide)
            have rruce : 0 ≤ vve 1 ∧ vve 1 ≤ 8 := hrre (1, 0, 8) (by decide)
            have exure : h234.2.2.2.2 pic 13 = .int (zi (vve 2)) := hvve (0, 13, 2) (by decide)
            have rrure : 0 ≤ vve 2 ∧ vve 2 ≤ 8 := hrre (2, 0, 8) (by decide)
            have exble : h234.2.2.2.2 pic 8 = .int (zi (vve 3)) := hvve (0, 8, 3) (by decide)
            have rrble : 0 ≤ vve 3 ∧ vve 3 ≤ 192 := hrre (3, 0, 192) (by decide)
            have exwe : h234.2.2.2.2 pic 5 = .int (zi (vve 4)) := hvve (0, 5, 4) (by decide)
            have rrwe : 0 ≤ vve 4 ∧ vve 4 ≤ 64 := hrre (4, 0, 64) (by decide)
            have exhhe : h234.2.2.2.2 pic 6 = .int (zi (vve 5)) := hvve (0, 6, 5) (by decide)
            have rrhhe : 0 ≤ vve 5 ∧ vve 5 ≤ 64 := hrre (5, 0, 64) (by decide)
            have exghe : h234.2.2.2.2 pic 10 = .int (zi (vve 6)) := hvve (0, 10, 6) (by decide)
            have rrghe : 1 ≤ vve 6 ∧ vve 6 ≤ 2 := hrre (6, 1, 2) (by decide)
            have exgve : h234.2.2.2.2 pic 11 = .int (zi (vve 7)) := hvve (0, 11, 7) (by decide)
            have rrgve : 1 ≤ vve 7 ∧ vve 7 ≤ 2 := hrre (7, 1, 2) (by decide)
            have exhb0e : h234.2.2.2.2 b0 1 = .int (zi (vve 8)) := hvve (1, 1, 8) (by decide)
            have rrhb0e : (-1) ≤ vve 8 ∧ vve 8 ≤ 15 := hrre (8, (-1), 15) (by decide)
            have exvb0e : h234.2.2.2.2 b0 2 = .int (zi (vve 9)) := hvve (1, 2, 9) (by decide)
            have rrvb0e : 0 ≤ vve 9 ∧ vve 9 ≤ 15 := hrre (9, 0, 15) (by decide)
            have extq0e : h234.2.2.2.2 b0 3 = .int (zi (vve 10)) := hvve (1, 3, 10) (by decide)
            have rrtq0e : (-1) ≤ vve 10 ∧ vve 10 ≤ 255 := hrre (10, (-1), 255) (by decide)
            have exC0e : h234.2.2.2.2 b0 4 = .int (zi (vve 11)) := hvve (1, 4, 11) (by decide)
            have rrC0e : 0 ≤ vve 11 ∧ vve 11 ≤ 16 := hrre (11, 0, 16) (by decide)
            have exR0e : h234.2.2.2.2 b0 5 = .int (zi (vve 12)) := hvve (1, 5, 12) (by decide)
            have rrR0e : 0 ≤ vve 12 ∧ vve 12 ≤ 16 := hrre (12, 0, 16) (by decide)
            have exoc0e : h234.2.2.2.2 b0 6 = .int (zi (vve 13)) := hvve (1, 6, 13) (by decide)
            have rroc0e : 0 ≤ vve 13 ∧ vve 13 ≤ 16 := hrre (13, 0, 16) (by decide)
            have exor0e : h234.2.2.2.2 b0 7 = .int (zi (vve 14)) := hvve (1, 7, 14) (by decide)
            have rror0e : 0 ≤ vve 14 ∧ vve 14 ≤ 16 := hrre (14, 0, 16) (by decide)
            have exf0e : h234.2.2.2.2 b0 8 = .int (zi (vve 15)) := hvve (1, 8, 15) (by decide)
            have rrf0e : 0 ≤ vve 15 ∧ vve 15 ≤ 192 := hrre (15, 0, 192) (by decide)
            have exhb1e : h234.2.2.2.2 b1 1 = .int (zi (vve 16)) := hvve (2, 1, 16) (by decide)
            have rrhb1e : (-1) ≤ vve 16 ∧ vve 16 ≤ 15 := hrre (16, (-1), 15) (by decide)
            have exvb1e : h234.2.2.2.2 b1 2 = .int (zi (vve 17)) := hvve (2, 2, 17) (by decide)
            have rrvb1e : 0 ≤ vve 17 ∧ vve 17 ≤ 15 := hrre (17, 0, 15) (by decide)
            have extq1e : h234.2.2.2.2 b1 3 = .int (zi (vve 18)) := hvve (2, 3, 18) (by decide)
            have rrtq1e : (-1) ≤ vve 18 ∧ vve 18 ≤ 255 := hrre (18, (-1), 255) (by decide)
            have exC1e : h234.2.2.2.2 b1 4 = .int (zi (vve 19)) := hvve (2, 4, 19) (by decide)
            have rrC1e : 0 ≤ vve 19 ∧ vve 19 ≤ 16 := hrre (19, 0, 16) (by decide)
            have exR1e : h234.2.2.2.2 b1 5 = .int (zi (vve 20)) := hvve (2, 5, 20) (by decide)
            have rrR1e : 0 ≤ vve 20 ∧ vve 20 ≤ 16 := hrre (20, 0, 16) (by decide)
            have exoc1e : h234.2.2.2.2 b1 6 = .int (zi (vve 21)) := hvve (2, 6, 21) (by decide)
            have rroc1e : 0 ≤ vve 21 ∧ vve 21 ≤ 16 := hrre (21, 0, 16) (by decide)
            have exor1e : h234.2.2.2.2 b1 7 = .int (zi (vve 22)) := hvve (2, 7, 22) (by decide)
            have rror1e : 0 ≤ vve 22 ∧ vve 22 ≤ 16 := hrre (22, 0, 16) (by decide)
            have exf1e : h234.2.2.2.2 b1 8 = .int (zi (vve 23)) := hvve (2, 8, 23) (by decide)
            have rrf1e : 0 ≤ vve 23 ∧ vve 23 ≤ 192 := hrre (23, 0, 192) (by decide)
            have exhb2e : h234.2.2.2.2 b2 1 = .int (zi (vve 24)) := hvve (3, 1, 24) (by decide)
            have rrhb2e : (-1) ≤ vve 24 ∧ vve 24 ≤ 15 := hrre (24, (-1), 15) (by decide)
            have exvb2e : h234.2.2.2.2 b2 2 = .int (zi (vve 25)) := hvve (3, 2, 25) (by decide)
            have rrvb2e : 0 ≤ vve 25 ∧ vve 25 ≤ 15 := hrre (25, 0, 15) (by decide)
            have extq2e : h234.2.2.2.2 b2 3 = .int (zi (vve 26)) := hvve (3, 3, 26) (by decide)
            have rrtq2e : (-1) ≤ vve 26 ∧ vve 26 ≤ 255 := hrre (26, (-1), 255) (by decide)
            have exC2e : h234.2.2.2.2 b2 4 = .int (zi (vve 27)) := hvve (3, 4, 27) (by decide)
            have rrC2e : 0 ≤ vve 27 ∧ vve 27 ≤ 16 := hrre (27, 0, 16) (by decide)
            have exR2e : h234.2.2.2.2 b2 5 = .int (zi (vve 28)) := hvve (3, 5, 28) (by decide)
            have rrR2e : 0 ≤ vve 28 ∧ vve 28 ≤ 16 := hrre (28, 0, 16) (by decide)
            have exoc2e : h234.2.2.2.2 b2 6 = .int (zi (vve 29)) := hvve (3, 6, 29) (by decide)
            have rroc2e : 0 ≤ vve 29 ∧ vve 29 ≤ 16 := hrre (29, 0, 16) (by decide)
            have exor2e : h234.2.2.2.2 b2 7 = .int (zi (vve 30)) := hvve (3, 7, 30) (by decide)
            have rror2e : 0 ≤ vve 30 ∧ vve 30 ≤ 16 := hrre (30, 0, 16) (by decide)
            have exf2e : h234.2.2.2.2 b2 8 = .int (zi (vve 31)) := hvve (3, 8, 31) (by decide)
            have rrf2e : 0 ≤ vve 31 ∧ vve 31 ≤ 192 := hrre (31, 0, 192) (by decide)
            refine gz_s 1 (pc' := 136) (L' := [some (.ref x), some (.ref ft), some (.int (zi step)), some (.int (zi tn))]) (S' := [.ref x]) rfl ?_
            refine gs_gtk rfl (by decide) rfl sh234.1 lp233c0 rfl rfl lp233k1 ?_
            refine gz_call rfl (by decide) rfl (by decide) (by decide) (gcal_of rfl rfl rfl (Nat.le_of_ble_eq_true rfl) (gJ.recv (G := gGG) sh234.1 lp233c3 rfl rfl)) (cl_Picture_forget _ sh234.1 pic lp233c3 lp233u) (fun q239 _ wq239 => ?_)
            obtain ⟨pq239, oq239, hq239⟩ := q239
            obtain ⟨xq239, fq239_0, fq239_1, fq239_2, fq239_3, gq239, efq239_0, afq239_0, bfq239_0, efq239_1, afq239_1, bfq239_1, efq239_2, afq239_2, bfq239_2, efq239_3, afq239_3, bfq239_3, uq239_0, uq239_1, uq239_2, uq239_3⟩ := wq239
            refine ⟨_, gq239, ?_⟩
            show gz gPP gGG gcn _ _ 142 [some (.ref x), some (.ref ft), some (.int (zi step)), some (.int (zi tn))] [] hq239 _
            have sq239 : gSs rT 1027 ty235 [54002, 54003, 54004, 54005, 54006, 54007, 54008, 54009, 54010, 54011, 54012, 54013, 58999, 65003, 66001, 66002, 66003, 66004, 66005, 66010, 66011, 66012, 66013, 66014, 67001, 67002, 67003, 69999, 70999, 82000, 82001, 82002, 82003, 82004, 82005, 82006, 82007, 82008, 82009, 82010, 82011, 83000, 83001, 83002, 83003, 83004, 83005, 83006, 83007, 83008, 83009, 83010, 83011, 84000, 84001, 84002, 84003, 84004, 84005, 84006, 84007, 84008, 84009, 84010, 84011, 102999, 103999, 112999, 113999] h234 hq239 := gSs.tr sh234 xq239 (by decide)
            have s240 := (xq239.2.2.2.2.2 x 0 (by rw [lp233c0]; decide)).trans lp233k0
            have s241 := (xq239.2.2.2.2.2 x 1 (by rw [lp233c0]; decide)).trans lp233k1
            have s242 := (xq239.2.2.2.2.2 pic 0 (by rw [lp233c3]; decide)).trans lp233k2
            have s243 := (xq239.2.2.2.2.2 bn 0 (by rw [lp233c4]; decide)).trans lp233k3
            have s244 := (xq239.2.2.2.2.2 bn 1 (by rw [lp233c4]; decide)).trans lp233k4
            have s245 := (xq239.2.2.2.2.2 bn 2 (by rw [lp233c4]; decide)).trans lp233k5
            have s246 := (xq239.2.2.2.2.2 x 2 (by rw [lp233c0]; decide)).trans lp233k6
            have s247 := (xq239.2.2.2.2.2 src 1 (by rw [lp233c2]; decide)).trans lp233k7
            have s248 := (xq239.2.2.2.2.2 pic 1 (by rw [lp233c3]; decide)).trans lp233k8
            have s249 := (xq239.2.2.2.2.2 x 3 (by rw [lp233c0]; decide)).trans lp233k9
            have s250 := (xq239.2.2.2.2.2 pic 2 (by rw [lp233c3]; decide)).trans er4e
            have s251 := (xq239.2.2.2.2.2 pic 3 (by rw [lp233c3]; decide)).trans er5e
            have s252 := (xq239.2.2.2.2.2 pic 12 (by rw [lp233c3]; decide)).trans exuce
            have s253 := (xq239.2.2.2.2.2 pic 13 (by rw [lp233c3]; decide)).trans exure
            have s254 := (xq239.2.2.2.2.2 pic 10 (by rw [lp233c3]; decide)).trans exghe
            have s255 := (xq239.2.2.2.2.2 pic 11 (by rw [lp233c3]; decide)).trans exgve
            have s256 := (xq239.2.2.2.2.2 b0 1 (by rw [lp233c5]; decide)).trans exhb0e
            have s257 := (xq239.2.2.2.2.2 b0 2 (by rw [lp233c5]; decide)).trans exvb0e
            have s258 := (xq239.2.2.2.2.2 b0 3 (by rw [lp233c5]; decide)).trans extq0e
            have s259 := (xq239.2.2.2.2.2 b0 4 (by rw [lp233c5]; decide)).trans exC0e
            have s260 := (xq239.2.2.2.2.2 b0 5 (by rw [lp233c5]; decide)).trans exR0e
            have s261 := (xq239.2.2.2.2.2 b0 6 (by rw [lp233c5]; decide)).trans exoc0e
            have s262 := (xq239.2.2.2.2.2 b0 7 (by rw [lp233c5]; decide)).trans exor0e
            have s263 := (xq239.2.2.2.2.2 b0 8 (by rw [lp233c5]; decide)).trans exf0e
            have s264 := (xq239.2.2.2.2.2 b1 1 (by rw [lp233c6]; decide)).trans exhb1e
            have s265 := (xq239.2.2.2.2.2 b1 2 (by rw [lp233c6]; decide)).trans exvb1e
            have s266 := (xq239.2.2.2.2.2 b1 3 (by rw [lp233c6]; decide)).trans extq1e
            have s267 := (xq239.2.2.2.2.2 b1 4 (by rw [lp233c6]; decide)).trans exC1e
            have s268 := (xq239.2.2.2.2.2 b1 5 (by rw [lp233c6]; decide)).trans exR1e
            have s269 := (xq239.2.2.2.2.2 b1 6 (by rw [lp233c6]; decide)).trans exoc1e
            have s270 := (xq239.2.2.2.2.2 b1 7 (by rw [lp233c6]; decide)).trans exor1e
            have s271 := (xq239.2.2.2.2.2 b1 8 (by rw [lp233c6]; decide)).trans exf1e
            have s272 := (xq239.2.2.2.2.2 b2 1 (by rw [lp233c7]; decide)).trans exhb2e
            have s273 := (xq239.2.2.2.2.2 b2 2 (by rw [lp233c7]; decide)).trans exvb2e
            have s274 := (xq239.2.2.2.2.2 b2 3 (by rw [lp233c7]; decide)).trans extq2e
            have s275 := (xq239.2.2.2.2.2 b2 4 (by rw [lp233c7]; decide)).trans exC2e
            have s276 := (xq239.2.2.2.2.2 b2 5 (by rw [lp233c7]; decide)).trans exR2e
            have s277 := (xq239.2.2.2.2.2 b2 6 (by rw [lp233c7]; decide)).trans exoc2e
            have s278 := (xq239.2.2.2.2.2 b2 7 (by rw [lp233c7]; decide)).trans exor2e
            have s279 := (xq239.2.2.2.2.2 b2 8 (by rw [lp233c7]; decide)).trans exf2e
            have k280 := sq239.2.1
            have k280b := sq239.2.2.1
            have hl281 : hq239.2.2.2.1 coe = h234.2.2.2.1 coe := congrFun sq239.2.2.2.2.1 coe
            have hl282 : hq239.2.2.2.1 dme = h234.2.2.2.1 dme := congrFun sq239.2.2.2.2.1 dme
            have hpc283 : gPC ty235 pic b0 b1 b2 ldv hq239 := gPC.zero sq239.1 lp233c3 s242 lp233c4 s243 lp233c5 s244 lp233c6 s245 lp233c7 s250 tcoe s251 tdme (by rw [(by omega : (0 : Int) = fq239_0)]; exact efq239_0) fq239_1 efq239_1 (by omega) fq239_2 efq239_2 (by omega) (by omega) (by omega) (by omega) (by omega)
            refine gz_s 3 (pc' := 145) (L' := [some (.ref x), some (.ref ft), some (.int (zi step)), some (.int (zi tn))]) (S' := [.int (zi step), .int (zi 0), .int (zi (-1))]) rfl ?_
            refine gz_call rfl (by decide) rfl (by decide) (by decide) (gcal_of rfl rfl rfl (Nat.le_of_ble_eq_true rfl) rfl) (cl_Math_max _ sq239.1 0 ⟨by omega, by omega⟩ step ⟨by omega, by omega⟩ ) (fun q284 _ wq284 => ?_)
            obtain ⟨pq284, oq284, hq284⟩ := q284
            obtain ⟨xq284, zq284, gq284, aq284, bq284, uq284_0, uq284_1, uq284_2⟩ := wq284
            refine ⟨_, gq284, ?_⟩
            show gz gPP gGG gcn _ _ 148 [some (.ref x), some (.ref ft), some (.int (zi step)), some (.int (zi tn))] [.int (zi zq284), .int (zi (-1))] hq284 _
            have sq284 : gSs rT 1027 ty235 [54002, 54003, 54004, 54005, 54006, 54007, 54008, 54009, 54010, 54011, 54012, 54013, 58999, 65003, 66001, 66002, 66003, 66004, 66005, 66010, 66011, 66012, 66013, 66014, 67001, 67002, 67003, 69999, 70999, 82000, 82001, 82002, 82003, 82004, 82005, 82006, 82007, 82008, 82009, 82010, 82011, 83000, 83001, 83002, 83003, 83004, 83005, 83006, 83007, 83008, 83009, 83010, 83011, 84000, 84001, 84002, 84003, 84004, 84005, 84006, 84007, 84008, 84009, 84010, 84011, 102999, 103999, 112999, 113999] h234 hq284 := gSs.tr sq239 xq284 (by decide)
            have s285 := (xq284.2.2.2.2.2 x 0 (by rw [lp233c0]; decide)).trans s240
            have s286 := (xq284.2.2.2.2.2 x 1 (by rw [lp233c0]; decide)).trans s241
            have s287 := (xq284.2.2.2.2.2 pic 0 (by rw [lp233c3]; decide)).trans s242
            have s288 := (xq284.2.2.2.2.2 bn 0 (by rw [lp233c4]; decide)).trans s243
            have s289 := (xq284.2.2.2.2.2 bn 1 (by rw [lp233c4]; decide)).trans s244
            have s290 := (xq284.2.2.2.2.2 bn 2 (by rw [lp233c4]; decide)).trans s245
            have s291 := (xq284.2.2.2.2.2 x 2 (by rw [lp233c0]; decide)).trans s246
            have s292 := (xq284.2.2.2.2.2 src 1 (by rw [lp233c2]; decide)).trans s247
            have s293 := (xq284.2.2.2.2.2 pic 1 (by rw [lp233c3]; decide)).trans s248
            have s294 := (xq284.2.2.2.2.2 x 3 (by rw [lp233c0]; decide)).trans s249
            have s295 := (xq284.2.2.2.2.2 pic 2 (by rw [lp233c3]; decide)).trans s250
            have s296 := (xq284.2.2.2.2.2 pic 3 (by rw [lp233c3]; decide)).trans s251
            have s297 := (xq284.2.2.2.2.2 pic 12 (by rw [lp233c3]; decide)).trans s252
            have s298 := (xq284.2.2.2.2.2 pic 13 (by rw [lp233c3]; decide)).trans s253
            have s299 := (xq284.2.2.2.2.2 pic 10 (by rw [lp233c3]; decide)).trans s254
            have s300 := (xq284.2.2.2.2.2 pic 11 (by rw [lp233c3]; decide)).trans s255
            have s301 := (xq284.2.2.2.2.2 b0 1 (by rw [lp233c5]; decide)).trans s256
            have s302 := (xq284.2.2.2.2.2 b0 2 (by rw [lp233c5]; decide)).trans s257
            have s303 := (xq284.2.2.2.2.2 b0 3 (by rw [lp233c5]; decide)).trans s258
            have s304 := (xq284.2.2.2.2.2 b0 4 (by rw [lp233c5]; decide)).trans s259
            have s305 := (xq284.2.2.2.2.2 b0 5 (by rw [lp233c5]; decide)).trans s260
            have s306 := (xq284.2.2.2.2.2 b0 6 (by rw [lp233c5]; decide)).trans s261
            have s307 := (xq284.2.2.2.2.2 b0 7 (by rw [lp233c5]; decide)).trans s262
            have s308 := (xq284.2.2.2.2.2 b0 8 (by rw [lp233c5]; decide)).trans s263
            have s309 := (xq284.2.2.2.2.2 b1 1 (by rw [lp233c6]; decide)).trans s264
            have s310 := (xq284.2.2.2.2.2 b1 2 (by rw [lp233c6]; decide)).trans s265
            have s311 := (xq284.2.2.2.2.2 b1 3 (by rw [lp233c6]; decide)).trans s266
            have s312 := (xq284.2.2.2.2.2 b1 4 (by rw [lp233c6]; decide)).trans s267
            have s313 := (xq284.2.2.2.2.2 b1 5 (by rw [lp233c6]; decide)).trans s268
            have s314 := (xq284.2.2.2.2.2 b1 6 (by rw [lp233c6]; decide)).trans s269
            have s315 := (xq284.2.2.2.2.2 b1 7 (by rw [lp233c6]; decide)).trans s270
            have s316 := (xq284.2.2.2.2.2 b1 8 (by rw [lp233c6]; decide)).trans s271
            have s317 := (xq284.2.2.2.2.2 b2 1 (by rw [lp233c7]; decide)).trans s272
            have s318 := (xq284.2.2.2.2.2 b2 2 (by rw [lp233c7]; decide)).trans s273
            have s319 := (xq284.2.2.2.2.2 b2 3 (by rw [lp233c7]; decide)).trans s274
            have s320 := (xq284.2.2.2.2.2 b2 4 (by rw [lp233c7]; decide)).trans s275
            have s321 := (xq284.2.2.2.2.2 b2 5 (by rw [lp233c7]; decide)).trans s276
            have s322 := (xq284.2.2.2.2.2 b2 6 (by rw [lp233c7]; decide)).trans s277
            have s323 := (xq284.2.2.2.2.2 b2 7 (by rw [lp233c7]; decide)).trans s278
            have s324 := (xq284.2.2.2.2.2 b2 8 (by rw [lp233c7]; decide)).trans s279
            have s325 := (xq284.2.2.2.2.2 pic 7 (by rw [lp233c3]; decide)).trans efq239_0
            have s326 := (xq284.2.2.2.2.2 pic 8 (by rw [lp233c3]; decide)).trans efq239_1
            have s327 := (xq284.2.2.2.2.2 pic 5 (by rw [lp233c3]; decide)).trans efq239_2
            have s328 := (xq284.2.2.2.2.2 pic 6 (by rw [lp233c3]; decide)).trans efq239_3
            have pr329 := gPC.fr xq284.2 (by decide) hpc283
            refine gy_s 1 (pc' := 149) (L' := [some (.ref x), some (.ref ft), some (.int (zi step)), some (.int (zi tn))]) (S' := [.int ((zi (-1)) - (zi zq284))]) (L2 := [some (.ref x), some (.ref ft), some (.int (zi step)), some (.int (zi tn))]) (S2 := [.int (zi ((-1) - zq284))]) rfl (by simp only [zi_add, zi_sub, zi_mul, zi_neg, zi_and1, zi_and7, zi_and15, zi_and31, zi_and255]) (by simp only [zi_add, zi_sub, zi_mul, zi_neg, zi_and1, zi_and7, zi_and15, zi_and31, zi_and255]) ?_
            have k330 := sq284.2.1
            have k330b := sq284.2.2.1
            have hl331 : hq284.2.2.2.1 coe = h234.2.2.2.1 coe := congrFun sq284.2.2.2.2.1 coe
            have hl332 : hq284.2.2.2.1 dme = h234.2.2.2.1 dme := congrFun sq284.2.2.2.2.1 dme
            have hl333 : 0 ≤ hq284.2.2.2.1 coe ∧ hq284.2.2.2.1 coe ≤ 12288 := gJ.rowl (G := gGG) sq284.1 tcoe rfl
            have hl334 : 0 ≤ hq284.2.2.2.1 dme ∧ hq284.2.2.2.1 dme ≤ 192 := gJ.rowl (G := gGG) sq284.1 tdme rfl
            refine gy_any (fun z335 ez335 az335 bz335 => ?_)
            have G336 : gSg [112, 113] [] [54002, 54003, 54004, 54005, 54006, 54007, 54008, 54009, 54010, 54011, 54012, 54013, 58999, 65003, 66001, 66002, 66003, 66004, 66005, 66010, 66011, 66012, 66013, 66014, 67001, 67002, 67003, 69999, 70999, 82000, 82001, 82002, 82003, 82004, 82005, 82006, 82007, 82008, 82009, 82010, 82011, 83000, 83001, 83002, 83003, 83004, 83005, 83006, 83007, 83008, 83009, 83010, 83011, 84000, 84001, 84002, 84003, 84004, 84005, 84006, 84007, 84008, 84009, 84010, 84011, 102999, 103999, 112999, 113999] ty h ty235 hq284 := gSg.ss lp233G sq284 (by decide)
            exact gz_end (I := .ireturn) (len := 1) rfl (Or.inl rfl) ⟨ty235, G336, z335, ldv, rfl, (by omega), (by omega), (by omega), (by omega), (by dsimp only; omega), (by dsimp only; omega), (by omega), pr329⟩
          · refine gy_icF rfl (by decide) (by decide) (by omega) (by omega) hc237 ?_
            refine gz_s 1 (pc' := 128) (L' := [some (.ref x), some (.ref ft), some (.int (zi step)), some (.int (zi tn))]) (S' := [.ref x]) rfl ?_
            refine gs_gtk rfl (by decide) rfl sh234.1 lp233c0 rfl rfl lp233k1 ?_
            refine gs_get rfl (by decide) rfl sh234.1 lp233c3 rfl rfl rfl (fun z337 ez337 az337 bz337 => ?_)
            have G338 : gSg [112, 113] [] [54002, 54003, 54004, 54005, 54006, 54007, 54008, 54009, 54010, 54011, 54012, 54013, 58999, 65003, 66001, 66002, 66003, 66004, 66005, 66010, 66011, 66012, 66013, 66014, 67001, 67002, 67003, 69999, 70999, 82000, 82001, 82002, 82003, 82004, 82005, 82006, 82007, 82008, 82009, 82010, 82011, 83000, 83001, 83002, 83003, 83004, 83005, 83006, 83007, 83008, 83009, 83010, 83011, 84000, 84001, 84002, 84003, 84004, 84005, 84006, 84007, 84008, 84009, 84010, 84011, 102999, 103999, 112999, 113999] ty h ty235 h234 := gSg.ss lp233G sh234 (by decide)
            exact gz_end (I := .ireturn) (len := 1) rfl (Or.inl rfl) ⟨ty235, G338, z337, ldv, rfl, (by omega), (by omega), (by omega), (by omega), (by dsimp only; omega), (by dsimp only; omega), (by omega), lp233k10⟩
        · refine gy_icF rfl (by decide) (by decide) (by omega) (by omega) hc236 ?_
          refine gz_s 2 (pc' := 70) (L' := [some (.ref x), some (.ref ft), some (.int (zi step)), some (.int (zi tn))]) (S' := [.int (zi (-1)), .int (zi step)]) rfl ?_
          by_cases hc339 : ¬ (step : Int) = (-1)
          · refine gy_icT (pc' := 121) rfl (by decide) (by decide) (by omega) (by omega) hc339 ?_
            refine gz_s 2 (pc' := 124) (L' := [some (.ref x), some (.ref ft), some (.int (zi step)), some (.int (zi tn))]) (S' := [.int (zi (-2)), .int (zi step)]) rfl ?_
            by_cases hc340 : ¬ (step : Int) = (-2)
            · refine gy_icT (pc' := 135) rfl (by decide) (by decide) (by omega) (by omega) hc340 ?_
              have hpq341 := lp233k10
              obtain ⟨_, bne, coe, dme, vve, ⟨tbne, tcoe, tdme⟩, ⟨er0e, er1e, er2e, er3e, er4e, er5e⟩, hvve, hrre, ⟨yy0e, yy1e, yy2e, yy3e, yy4e, yy5e, yy6e, yy7e⟩, ll0e, ll1e, ll2e, ll3e⟩ := hpq341
              have excne : h234.2.2.2.2 pic 7 = .int (zi (vve 0)) := hvve (0, 7, 0) (by decide)
              have rrcne : 0 ≤ vve 0 ∧ vve 0 ≤ 3 := hrre (0, 0, 3) (by decide)
              have exuce : h234.2.2.2.2 pic 12 = .int (zi (vve 1)) := hvve (0, 12, 1) (by decide)
              have rruce : 0 ≤ vve 1 ∧ vve 1 ≤ 8 := hrre (1, 0, 8) (by decide)
              have exure : h234.2.2.2.2 pic 13 = .int (zi (vve 2)) := hvve (0, 13, 2) (by decide)
              have rrure : 0 ≤ vve 2 ∧ vve 2 ≤ 8 := hrre (2, 0, 8) (by decide)
              have exble : h234.2.2.2.2 pic 8 = .int (zi (vve 3)) := hvve (0, 8, 3) (by decide)
              have rrble : 0 ≤ vve 3 ∧ vve 3 ≤ 192 := hrre (3, 0, 192) (by decide)
              have exwe : h234.2.2.2.2 pic 5 = .int (zi (vve 4)) := hvve (0, 5, 4) (by decide)
              have rrwe : 0 ≤ vve 4 ∧ vve 4 ≤ 64 := hrre (4, 0, 64) (by decide)
              have exhhe : h234.2.2.2.2 pic 6 = .int (zi (vve 5)) := hvve (0, 6, 5) (by decide)
              have rrhhe : 0 ≤ vve 5 ∧ vve 5 ≤ 64 := hrre (5, 0, 64) (by decide)
              have exghe : h234.2.2.2.2 pic 10 = .int (zi (vve 6)) := hvve (0, 10, 6) (by decide)
              have rrghe : 1 ≤ vve 6 ∧ vve 6 ≤ 2 := hrre (6, 1, 2) (by decide)
              have exgve : h234.2.2.2.2 pic 11 = .int (zi (vve 7)) := hvve (0, 11, 7) (by decide)
              have rrgve : 1 ≤ vve 7 ∧ vve 7 ≤ 2 := hrre (7, 1, 2) (by decide)
              have exhb0e : h234.2.2.2.2 b0 1 = .int (zi (vve 8)) := hvve (1, 1, 8) (by decide)
              have rrhb0e : (-1) ≤ vve 8 ∧ vve 8 ≤ 15 := hrre (8, (-1), 15) (by decide)
              have exvb0e : h234.2.2.2.2 b0 2 = .int (zi (vve 9)) := hvve (1, 2, 9) (by decide)
              have rrvb0e : 0 ≤ vve 9 ∧ vve 9 ≤ 15 := hrre (9, 0, 15) (by decide)
              have extq0e : h234.2.2.2.2 b0 3 = .int (zi (vve 10)) := hvve (1, 3, 10) (by decide)
              have rrtq0e : (-1) ≤ vve 10 ∧ vve 10 ≤ 255 := hrre (10, (-1), 255) (by decide)
              have exC0e : h234.2.2.2.2 b0 4 = .int (zi (vve 11)) := hvve (1, 4, 11) (by decide)
              have rrC0e : 0 ≤ vve 11 ∧ vve 11 ≤ 16 := hrre (11, 0, 16) (by decide)
              have exR0e : h234.2.2.2.2 b0 5 = .int (zi (vve 12)) := hvve (1, 5, 12) (by decide)
              have rrR0e : 0 ≤ vve 12 ∧ vve 12 ≤ 16 := hrre (12, 0, 16) (by decide)
              have exoc0e : h234.2.2.2.2 b0 6 = .int (zi (vve 13)) := hvve (1, 6, 13) (by decide)
              have rroc0e : 0 ≤ vve 13 ∧ vve 13 ≤ 16 := hrre (13, 0, 16) (by decide)
              have exor0e : h234.2.2.2.2 b0 7 = .int (zi (vve 14)) := hvve (1, 7, 14) (by decide)
              have rror0e : 0 ≤ vve 14 ∧ vve 14 ≤ 16 := hrre (14, 0, 16) (by decide)
              have exf0e : h234.2.2.2.2 b0 8 = .int (zi (vve 15)) := hvve (1, 8, 15) (by decide)
              have rrf0e : 0 ≤ vve 15 ∧ vve 15 ≤ 192 := hrre (15, 0, 192) (by decide)
              have exhb1e : h234.2.2.2.2 b1 1 = .int (zi (vve 16)) := hvve (2, 1, 16) (by decide)
              have rrhb1e : (-1) ≤ vve 16 ∧ vve 16 ≤ 15 := hrre (16, (-1), 15) (by decide)
              have exvb1e : h234.2.2.2.2 b1 2 = .int (zi (vve 17)) := hvve (2, 2, 17) (by decide)
              have rrvb1e : 0 ≤ vve 17 ∧ vve 17 ≤ 15 := hrre (17, 0, 15) (by decide)
              have extq1e : h234.2.2.2.2 b1 3 = .int (zi (vve 18)) := hvve (2, 3, 18) (by decide)
              have rrtq1e : (-1) ≤ vve 18 ∧ vve 18 ≤ 255 := hrre (18, (-1), 255) (by decide)
              have exC1e : h234.2.2.2.2 b1 4 = .int (zi (vve 19)) := hvve (2, 4, 19) (by decide)
              have rrC1e : 0 ≤ vve 19 ∧ vve 19 ≤ 16 := hrre (19, 0, 16) (by decide)
              have exR1e : h234.2.2.2.2 b1 5 = .int (zi (vve 20)) := hvve (2, 5, 20) (by decide)
              have rrR1e : 0 ≤ vve 20 ∧ vve 20 ≤ 16 := hrre (20, 0, 16) (by decide)
              have exoc1e : h234.2.2.2.2 b1 6 = .int (zi (vve 21)) := hvve (2, 6, 21) (by decide)
              have rroc1e : 0 ≤ vve 21 ∧ vve 21 ≤ 16 := hrre (21, 0, 16) (by decide)
              have exor1e : h234.2.2.2.2 b1 7 = .int (zi (vve 22)) := hvve (2, 7, 22) (by decide)
              have rror1e : 0 ≤ vve 22 ∧ vve 22 ≤ 16 := hrre (22, 0, 16) (by decide)
              have exf1e : h234.2.2.2.2 b1 8 = .int (zi (vve 23)) := hvve (2, 8, 23) (by decide)
              have rrf1e : 0 ≤ vve 23 ∧ vve 23 ≤ 192 := hrre (23, 0, 192) (by decide)
              have exhb2e : h234.2.2.2.2 b2 1 = .int (zi (vve 24)) := hvve (3, 1, 24) (by decide)
              have rrhb2e : (-1) ≤ vve 24 ∧ vve 24 ≤ 15 := hrre (24, (-1), 15) (by decide)
              have exvb2e : h234.2.2.2.2 b2 2 = .int (zi (vve 25)) := hvve (3, 2, 25) (by decide)
              have rrvb2e : 0 ≤ vve 25 ∧ vve 25 ≤ 15 := hrre (25, 0, 15) (by decide)
              have extq2e : h234.2.2.2.2 b2 3 = .int (zi (vve 26)) := hvve (3, 3, 26) (by decide)
              have rrtq2e : (-1) ≤ vve 26 ∧ vve 26 ≤ 255 := hrre (26, (-1), 255) (by decide)
              have exC2e : h234.2.2.2.2 b2 4 = .int (zi (vve 27)) := hvve (3, 4, 27) (by decide)
              have rrC2e : 0 ≤ vve 27 ∧ vve 27 ≤ 16 := hrre (27, 0, 16) (by decide)
              have exR2e : h234.2.2.2.2 b2 5 = .int (zi (vve 28)) := hvve (3, 5, 28) (by decide)
              have rrR2e : 0 ≤ vve 28 ∧ vve 28 ≤ 16 := hrre (28, 0, 16) (by decide)
              have exoc2e : h234.2.2.2.2 b2 6 = .int (zi (vve 29)) := hvve (3, 6, 29) (by decide)
              have rroc2e : 0 ≤ vve 29 ∧ vve 29 ≤ 16 := hrre (29, 0, 16) (by decide)
              have exor2e : h234.2.2.2.2 b2 7 = .int (zi (vve 30)) := hvve (3, 7, 30) (by decide)
              have rror2e : 0 ≤ vve 30 ∧ vve 30 ≤ 16 := hrre (30, 0, 16) (by decide)
              have exf2e : h234.2.2.2.2 b2 8 = .int (zi (vve 31)) := hvve (3, 8, 31) (by decide)
              have rrf2e : 0 ≤ vve 31 ∧ vve 31 ≤ 192 := hrre (31, 0, 192) (by decide)
              refine gz_s 1 (pc' := 136) (L' := [some (.ref x), some (.ref ft), some (.int (zi step)), some (.int (zi tn))]) (S' := [.ref x]) rfl ?_
              refine gs_gtk rfl (by decide) rfl sh234.1 lp233c0 rfl rfl lp233k1 ?_
              refine gz_call rfl (by decide) rfl (by decide) (by decide) (gcal_of rfl rfl rfl (Nat.le_of_ble_eq_true rfl) (gJ.recv (G := gGG) sh234.1 lp233c3 rfl rfl)) (cl_Picture_forget _ sh234.1 pic lp233c3 lp233u) (fun q342 _ wq342 => ?_)
              obtain ⟨pq342, oq342, hq342⟩ := q342
              obtain ⟨xq342, fq342_0, fq342_1, fq342_2, fq342_3, gq342, efq342_0, afq342_0, bfq342_0, efq342_1, afq342_1, bfq342_1, efq342_2, afq342_2, bfq342_2, efq342_3, afq342_3, bfq342_3, uq342_0, uq342_1, uq342_2, uq342_3⟩ := wq342
              refine ⟨_, gq342, ?_⟩
              show gz gPP gGG gcn _ _ 142 [some (.ref x), some (.ref ft), some (.int (zi step)), some (.int (zi tn))] [] hq342 _
              have sq342 : gSs rT 1027 ty235 [54002, 54003, 54004, 54005, 54006, 54007, 54008, 54009, 54010, 54011, 54012, 54013, 58999, 65003, 66001, 66002, 66003, 66004, 66005, 66010, 66011, 66012, 66013, 66014, 67001, 67002, 67003, 69999, 70999, 82000, 82001, 82002, 82003, 82004, 82005, 82006, 82007, 82008, 82009, 82010, 82011, 83000, 83001, 83002, 83003, 83004, 83005, 83006, 83007, 83008, 83009, 83010, 83011, 84000, 84001, 84002, 84003, 84004, 84005, 84006, 84007, 84008, 84009, 84010, 84011, 102999, 103999, 112999, 113999] h234 hq342 := gSs.tr sh234 xq342 (by decide)
              have s343 := (xq342.2.2.2.2.2 x 0 (by rw [lp233c0]; decide)).trans lp233k0
              have s344 := (xq342.2.2.2.2.2 x 1 (by rw [lp233c0]; decide)).trans lp233k1
              have s345 := (xq342.2.2.2.2.2 pic 0 (by rw [lp233c3]; decide)).trans lp233k2
              have s346 := (xq342.2.2.2.2.2 bn 0 (by rw [lp233c4]; decide)).trans lp233k3
              have s347 := (xq342.2.2.2.2.2 bn 1 (by rw [lp233c4]; decide)).trans lp233k4
              have s348 := (xq342.2.2.2.2.2 bn 2 (by rw [lp233c4]; decide)).trans lp233k5
              have s349 := (xq342.2.2.2.2.2 x 2 (by rw [lp233c0]; decide)).trans lp233k6
              have s350 := (xq342.2.2.2.2.2 src 1 (by rw [lp233c2]; decide)).trans lp233k7
              have s351 := (xq342.2.2.2.2.2 pic 1 (by rw [lp233c3]; decide)).trans lp233k8
              have s352 := (xq342.2.2.2.2.2 x 3 (by rw [lp233c0]; decide)).trans lp233k9
              have s353 := (xq342.2.2.2.2.2 pic 2 (by rw [lp233c3]; decide)).trans er4e
              have s354 := (xq342.2.2.2.2.2 pic 3 (by rw [lp233c3]; decide)).trans er5e
              have s355 := (xq342.2.2.2.2.2 pic 12 (by rw [lp233c3]; decide)).trans exuce
              have s356 := (xq342.2.2.2.2.2 pic 13 (by rw [lp233c3]; decide)).trans exure
              have s357 := (xq342.2.2.2.2.2 pic 10 (by rw [lp233c3]; decide)).trans exghe
              have s358 := (xq342.2.2.2.2.2 pic 11 (by rw [lp233c3]; decide)).trans exgve
              have s359 := (xq342.2.2.2.2.2 b0 1 (by rw [lp233c5]; decide)).trans exhb0e
              have s360 := (xq342.2.2.2.2.2 b0 2 (by rw [lp233c5]; decide)).trans exvb0e
              have s361 := (xq342.2.2.2.2.2 b0 3 (by rw [lp233c5]; decide)).trans extq0e
              have s362 := (xq342.2.2.2.2.2 b0 4 (by rw [lp233c5]; decide)).trans exC0e
              have s363 := (xq342.2.2.2.2.2 b0 5 (by rw [lp233c5]; decide)).trans exR0e
              have s364 := (xq342.2.2.2.2.2 b0 6 (by rw [lp233c5]; decide)).trans exoc0e
              have s365 := (xq342.2.2.2.2.2 b0 7 (by rw [lp233c5]; decide)).trans exor0e
              have s366 := (xq342.2.2.2.2.2 b0 8 (by rw [lp233c5]; decide)).trans exf0e
              have s367 := (xq342.2.2.2.2.2 b1 1 (by rw [lp233c6]; decide)).trans exhb1e
              have s368 := (xq342.2.2.2.2.2 b1 2 (by rw [lp233c6]; decide)).trans exvb1e
              have s369 := (xq342.2.2.2.2.2 b1 3 (by rw [lp233c6]; decide)).trans extq1e
              have s370 := (xq342.2.2.2.2.2 b1 4 (by rw [lp233c6]; decide)).trans exC1e
              have s371 := (xq342.2.2.2.2.2 b1 5 (by rw [lp233c6]; decide)).trans exR1e
              have s372 := (xq342.2.2.2.2.2 b1 6 (by rw [lp233c6]; decide)).trans exoc1e
              have s373 := (xq342.2.2.2.2.2 b1 7 (by rw [lp233c6]; decide)).trans exor1e
              have s374 := (xq342.2.2.2.2.2 b1 8 (by rw [lp233c6]; decide)).trans exf1e
              have s375 := (xq342.2.2.2.2.2 b2 1 (by rw [lp233c7]; decide)).trans exhb2e
              have s376 := (xq342.2.2.2.2.2 b2 2 (by rw [lp233c7]; decide)).trans exvb2e
              have s377 := (xq342.2.2.2.2.2 b2 3 (by rw [lp233c7]; decide)).trans extq2e
              have s378 := (xq342.2.2.2.2.2 b2 4 (by rw [lp233c7]; decide)).trans exC2e
              have s379 := (xq342.2.2.2.2.2 b2 5 (by rw [lp233c7]; decide)).trans exR2e
              have s380 := (xq342.2.2.2.2.2 b2 6 (by rw [lp233c7]; decide)).trans exoc2e
              have s381 := (xq342.2.2.2.2.2 b2 7 (by rw [lp233c7]; decide)).trans exor2e
              have s382 := (xq342.2.2.2.2.2 b2 8 (by rw [lp233c7]; decide)).trans exf2e
              have k383 := sq342.2.1
              have k383b := sq342.2.2.1
              have hl384 : hq342.2.2.2.1 coe = h234.2.2.2.1 coe := congrFun sq342.2.2.2.2.1 coe
              have hl385 : hq342.2.2.2.1 dme = h234.2.2.2.1 dme := congrFun sq342.2.2.2.2.1 dme
              have hpc386 : gPC ty235 pic b0 b1 b2 ldv hq342 := gPC.zero sq342.1 lp233c3 s345 lp233c4 s346 lp233c5 s347 lp233c6 s348 lp233c7 s353 tcoe s354 tdme (by rw [(by omega : (0 : Int) = fq342_0)]; exact efq342_0) fq342_1 efq342_1 (by omega) fq342_2 efq342_2 (by omega) (by omega) (by omega) (by omega) (by omega)
              refine gz_s 3 (pc' := 145) (L' := [some (.ref x), some (.ref ft), some (.int (zi step)), some (.int (zi tn))]) (S' := [.int (zi step), .int (zi 0), .int (zi (-1))]) rfl ?_
              refine gz_call rfl (by decide) rfl (by decide) (by decide) (gcal_of rfl rfl rfl (Nat.le_of_ble_eq_true rfl) rfl) (cl_Math_max _ sq342.1 0 ⟨by omega, by omega⟩ step ⟨by omega, by omega⟩ ) (fun q387 _ wq387 => ?_)
              obtain ⟨pq387, oq387, hq387⟩ := q387
              obtain ⟨xq387, zq387, gq387, aq387, bq387, uq387_0, uq387_1, uq387_2⟩ := wq387
              refine ⟨_, gq387, ?_⟩
              show gz gPP gGG gcn _ _ 148 [some (.ref x), some (.ref ft), some (.int (zi step)), some (.int (zi tn))] [.int (zi zq387), .int (zi (-1))] hq387 _
              have sq387 : gSs rT 1027 ty235 [54002, 54003, 54004, 54005, 54006, 54007, 54008, 54009, 54010, 54011, 54012, 54013, 58999, 65003, 66001, 66002, 66003, 66004, 66005, 66010, 66011, 66012, 66013, 66014, 67001, 67002, 67003, 69999, 70999, 82000, 82001, 82002, 82003, 82004, 82005, 82006, 82007, 82008, 82009, 82010, 82011, 83000, 83001, 83002, 83003, 83004, 83005, 83006, 83007, 83008, 83009, 83010, 83011, 84000, 84001, 84002, 84003, 84004, 84005, 84006, 84007, 84008, 84009, 84010, 84011, 102999, 103999, 112999, 113999] h234 hq387 := gSs.tr sq342 xq387 (by decide)
              have s388 := (xq387.2.2.2.2.2 x 0 (by rw [lp233c0]; decide)).trans s343
              have s389 := (xq387.2.2.2.2.2 x 1 (by rw [lp233c0]; decide)).trans s344
              have s390 := (xq387.2.2.2.2.2 pic 0 (by rw [lp233c3]; decide)).trans s345
              have s391 := (xq387.2.2.2.2.2 bn 0 (by rw [lp233c4]; decide)).trans s346
              have s392 := (xq387.2.2.2.2.2 bn 1 (by rw [lp233c4]; decide)).trans s347
              have s393 := (xq387.2.2.2.2.2 bn 2 (by rw [lp233c4]; decide)).trans s348
              have s394 := (xq387.2.2.2.2.2 x 2 (by rw [lp233c0]; decide)).trans s349
              have s395 := (xq387.2.2.2.2.2 src 1 (by rw [lp233c2]; decide)).trans s350
              have s396 := (xq387.2.2.2.2.2 pic 1 (by rw [lp233c3]; decide)).trans s351
              have s397 := (xq387.2.2.2.2.2 x 3 (by rw [lp233c0]; decide)).trans s352
              have s398 := (xq387.2.2.2.2.2 pic 2 (by rw [lp233c3]; decide)).trans s353
              have s399 := (xq387.2.2.2.2.2 pic 3 (by rw [lp233c3]; decide)).trans s354
              have s400 := (xq387.2.2.2.2.2 pic 12 (by rw [lp233c3]; decide)).trans s355
              have s401 := (xq387.2.2.2.2.2 pic 13 (by rw [lp233c3]; decide)).trans s356
              have s402 := (xq387.2.2.2.2.2 pic 10 (by rw [lp233c3]; decide)).trans s357
              have s403 := (xq387.2.2.2.2.2 pic 11 (by rw [lp233c3]; decide)).trans s358
              have s404 := (xq387.2.2.2.2.2 b0 1 (by rw [lp233c5]; decide)).trans s359
              have s405 := (xq387.2.2.2.2.2 b0 2 (by rw [lp233c5]; decide)).trans s360
              have s406 := (xq387.2.2.2.2.2 b0 3 (by rw [lp233c5]; decide)).trans s361
              have s407 := (xq387.2.2.2.2.2 b0 4 (by rw [lp233c5]; decide)).trans s362
              have s408 := (xq387.2.2.2.2.2 b0 5 (by rw [lp233c5]; decide)).trans s363
              have s409 := (xq387.2.2.2.2.2 b0 6 (by rw [lp233c5]; decide)).trans s364
              have s410 := (xq387.2.2.2.2.2 b0 7 (by rw [lp233c5]; decide)).trans s365
              have s411 := (xq387.2.2.2.2.2 b0 8 (by rw [lp233c5]; decide)).trans s366
              have s412 := (xq387.2.2.2.2.2 b1 1 (by rw [lp233c6]; decide)).trans s367
              have s413 := (xq387.2.2.2.2.2 b1 2 (by rw [lp233c6]; decide)).trans s368
              have s414 := (xq387.2.2.2.2.2 b1 3 (by rw [lp233c6]; decide)).trans s369
              have s415 := (xq387.2.2.2.2.2 b1 4 (by rw [lp233c6]; decide)).trans s370
              have s416 := (xq387.2.2.2.2.2 b1 5 (by rw [lp233c6]; decide)).trans s371
              have s417 := (xq387.2.2.2.2.2 b1 6 (by rw [lp233c6]; decide)).trans s372
              have s418 := (xq387.2.2.2.2.2 b1 7 (by rw [lp233c6]; decide)).trans s373
              have s419 := (xq387.2.2.2.2.2 b1 8 (by rw [lp233c6]; decide)).trans s374
              have s420 := (xq387.2.2.2.2.2 b2 1 (by rw [lp233c7]; decide)).trans s375
              have s421 := (xq387.2.2.2.2.2 b2 2 (by rw [lp233c7]; decide)).trans s376
              have s422 := (xq387.2.2.2.2.2 b2 3 (by rw [lp233c7]; decide)).trans s377
              have s423 := (xq387.2.2.2.2.2 b2 4 (by rw [lp233c7]; decide)).trans s378
              have s424 := (xq387.2.2.2.2.2 b2 5 (by rw [lp233c7]; decide)).trans s379
              have s425 := (xq387.2.2.2.2.2 b2 6 (by rw [lp233c7]; decide)).trans s380
              have s426 := (xq387.2.2.2.2.2 b2 7 (by rw [lp233c7]; decide)).trans s381
              have s427 := (xq387.2.2.2.2.2 b2 8 (by rw [lp233c7]; decide)).trans s382
              have s428 := (xq387.2.2.2.2.2 pic 7 (by rw [lp233c3]; decide)).trans efq342_0
              have s429 := (xq387.2.2.2.2.2 pic 8 (by rw [lp233c3]; decide)).trans efq342_1
              have s430 := (xq387.2.2.2.2.2 pic 5 (by rw [lp233c3]; decide)).trans efq342_2
              have s431 := (xq387.2.2.2.2.2 pic 6 (by rw [lp233c3]; decide)).trans efq342_3
              have pr432 := gPC.fr xq387.2 (by decide) hpc386
              refine gy_s 1 (pc' := 149) (L' := [some (.ref x), some (.ref ft), some (.int (zi step)), some (.int (zi tn))]) (S' := [.int ((zi (-1)) - (zi zq387))]) (L2 := [some (.ref x), some (.ref ft), some (.int (zi step)), some (.int (zi tn))]) (S2 := [.int (zi ((-1) - zq387))]) rfl (by simp only [zi_add, zi_sub, zi_mul, zi_neg, zi_and1, zi_and7, zi_and15, zi_and31, zi_and255]) (by simp only [zi_add, zi_sub, zi_mul, zi_neg, zi_and1, zi_and7, zi_and15, zi_and31, zi_and255]) ?_
              have k433 := sq387.2.1
              have k433b := sq387.2.2.1
              have hl434 : hq387.2.2.2.1 coe = h234.2.2.2.1 coe := congrFun sq387.2.2.2.2.1 coe
              have hl435 : hq387.2.2.2.1 dme = h234.2.2.2.1 dme := congrFun sq387.2.2.2.2.1 dme
              have hl436 : 0 ≤ hq387.2.2.2.1 coe ∧ hq387.2.2.2.1 coe ≤ 12288 := gJ.rowl (G := gGG) sq387.1 tcoe rfl
              have hl437 : 0 ≤ hq387.2.2.2.1 dme ∧ hq387.2.2.2.1 dme ≤ 192 := gJ.rowl (G := gGG) sq387.1 tdme rfl
              refine gy_any (fun z438 ez438 az438 bz438 => ?_)
              have G439 : gSg [112, 113] [] [54002, 54003, 54004, 54005, 54006, 54007, 54008, 54009, 54010, 54011, 54012, 54013, 58999, 65003, 66001, 66002, 66003, 66004, 66005, 66010, 66011, 66012, 66013, 66014, 67001, 67002, 67003, 69999, 70999, 82000, 82001, 82002, 82003, 82004, 82005, 82006, 82007, 82008, 82009, 82010, 82011, 83000, 83001, 83002, 83003, 83004, 83005, 83006, 83007, 83008, 83009, 83010, 83011, 84000, 84001, 84002, 84003, 84004, 84005, 84006, 84007, 84008, 84009, 84010, 84011, 102999, 103999, 112999, 113999] ty h ty235 hq387 := gSg.ss lp233G sq387 (by decide)
              exact gz_end (I := .ireturn) (len := 1) rfl (Or.inl rfl) ⟨ty235, G439, z438, ldv, rfl, (by omega), (by omega), (by omega), (by omega), (by dsimp only; omega), (by dsimp only; omega), (by omega), pr432⟩
            · refine gy_icF rfl (by decide) (by decide) (by omega) (by omega) hc340 ?_
              refine gz_s 1 (pc' := 128) (L' := [some (.ref x), some (.ref ft), some (.int (zi step)), some (.int (zi tn))]) (S' := [.ref x]) rfl ?_
              refine gs_gtk rfl (by decide) rfl sh234.1 lp233c0 rfl rfl lp233k1 ?_
              refine gs_get rfl (by decide) rfl sh234.1 lp233c3 rfl rfl rfl (fun z440 ez440 az440 bz440 => ?_)
              have G441 : gSg [112, 113] [] [54002, 54003, 54004, 54005, 54006, 54007, 54008, 54009, 54010, 54011, 54012, 54013, 58999, 65003, 66001, 66002, 66003, 66004, 66005, 66010, 66011, 66012, 66013, 66014, 67001, 67002, 67003, 69999, 70999, 82000, 82001, 82002, 82003, 82004, 82005, 82006, 82007, 82008, 82009, 82010, 82011, 83000, 83001, 83002, 83003, 83004, 83005, 83006, 83007, 83008, 83009, 83010, 83011, 84000, 84001, 84002, 84003, 84004, 84005, 84006, 84007, 84008, 84009, 84010, 84011, 102999, 103999, 112999, 113999] ty h ty235 h234 := gSg.ss lp233G sh234 (by decide)
              exact gz_end (I := .ireturn) (len := 1) rfl (Or.inl rfl) ⟨ty235, G441, z440, ldv, rfl, (by omega), (by omega), (by omega), (by omega), (by dsimp only; omega), (by dsimp only; omega), (by omega), lp233k10⟩
          · refine gy_icF rfl (by decide) (by decide) (by omega) (by omega) hc339 ?_
            refine gz_s 1 (pc' := 74) (L' := [some (.ref x), some (.ref ft), some (.int (zi step)), some (.int (zi tn))]) (S' := [.ref x]) rfl ?_
            obtain ⟨z442, ez442, az442, bz442⟩ := gJ.int (k := 7) (G := gGG) sh234.1 lp233c3 rfl rfl rfl
            refine gz_call rfl (by decide) rfl (by decide) (by decide) (gcal_of rfl rfl rfl (Nat.le_of_ble_eq_true rfl) (gJ.recv (G := gGG) sh234.1 lp233c0 rfl rfl)) (cl_Reader_readMarker _ sh234.1 x lp233c0 src lp233k0 lp233c2 pic lp233k1 lp233c3 bn lp233k2 lp233c4 b0 lp233k3 lp233c5 b1 lp233k4 lp233c6 b2 lp233k5 lp233c7 sc lp233k6 lp233c8 sz lp233k7 ⟨by omega, by omega⟩ z442 ez442 ⟨by omega, by omega⟩ pv lp233k9 ⟨by omega, by omega⟩ ldv ⟨by omega, by omega⟩ lp233u lp233k10) (fun q443 _ wq443 => ?_)
            obtain ⟨pq443, oq443, hq443⟩ := q443
            obtain ⟨tyq443, xq443, zq443, fq443_0, fq443_1, fq443_2, fq443_3, fq443_4, fq443_5, xq443_0, gq443, aq443, bq443, efq443_0, afq443_0, bfq443_0, efq443_1, afq443_1, bfq443_1, efq443_2, afq443_2, bfq443_2, efq443_3, afq443_3, bfq443_3, efq443_4, afq443_4, bfq443_4, efq443_5, afq443_5, bfq443_5, axq443_0, bxq443_0, uq443_0, uq443_1, uq443_2, uq443_3, yq443_0⟩ := wq443
            dsimp only at uq443_1 uq443_2
            refine ⟨_, gq443, ?_⟩
            show gz gPP gGG gcn _ _ 77 [some (.ref x), some (.ref ft), some (.int (zi step)), some (.int (zi tn))] [.int (zi zq443)] hq443 _
            have G444 : gSg [112, 113] [] [54002, 54003, 54004, 54005, 54006, 54007, 54008, 54009, 54010, 54011, 54012, 54013, 58999, 65003, 66001, 66002, 66003, 66004, 66005, 66010, 66011, 66012, 66013, 66014, 67001, 67002, 67003, 69999, 70999, 82000, 82001, 82002, 82003, 82004, 82005, 82006, 82007, 82008, 82009, 82010, 82011, 83000, 83001, 83002, 83003, 83004, 83005, 83006, 83007, 83008, 83009, 83010, 83011, 84000, 84001, 84002, 84003, 84004, 84005, 84006, 84007, 84008, 84009, 84010, 84011, 102999, 103999, 112999, 113999] ty h tyq443 hq443 := gSg.tr (gSg.ss lp233G sh234 (by decide)) xq443 (by decide) (by decide) (fun x hx => by cases hx)
            have t445 : tyq443 x = 65 := gSg.typ xq443 sh234.1 lp233c0 rfl
            have t446 : tyq443 ft = 53 := gSg.typ xq443 sh234.1 lp233c1 rfl
            have t447 : tyq443 src = 51 := gSg.typ xq443 sh234.1 lp233c2 rfl
            have t448 : tyq443 pic = 54 := gSg.typ xq443 sh234.1 lp233c3 rfl
            have t449 : tyq443 bn = 57 := gSg.typ xq443 sh234.1 lp233c4 rfl
            have t450 : tyq443 b0 = 82 := gSg.typ xq443 sh234.1 lp233c5 rfl
            have t451 : tyq443 b1 = 83 := gSg.typ xq443 sh234.1 lp233c6 rfl
            have t452 : tyq443 b2 = 84 := gSg.typ xq443 sh234.1 lp233c7 rfl
            have t453 : tyq443 sc = 66 := gSg.typ xq443 sh234.1 lp233c8 rfl
            have t454 : tyq443 c45 = 58 := gSg.typ xq443 sh234.1 lp233c9 rfl
            have s455 := gSg.at xq443 sh234.1 lp233c0 rfl (by decide) lp233k0
            have s456 := gSg.at xq443 sh234.1 lp233c0 rfl (by decide) lp233k1
            have s457 := gSg.at xq443 sh234.1 lp233c3 rfl (by decide) lp233k2
            have s458 := gSg.at xq443 sh234.1 lp233c4 rfl (by decide) lp233k3
            have s459 := gSg.at xq443 sh234.1 lp233c4 rfl (by decide) lp233k4
            have s460 := gSg.at xq443 sh234.1 lp233c4 rfl (by decide) lp233k5
            have s461 := gSg.at xq443 sh234.1 lp233c0 rfl (by decide) lp233k6
            have s462 := gSg.at xq443 sh234.1 lp233c2 rfl (by decide) lp233k7
            have s463 := gSg.at xq443 sh234.1 lp233c3 rfl (by decide) lp233k8
            have uq464 := gSg.uq xq443 lp233u (by decide)
            have sS465 : gSs rT 1027 tyq443 [54002, 54003, 54004, 54005, 54006, 54007, 54008, 54009, 54010, 54011, 54012, 54013, 58999, 65003, 66001, 66002, 66003, 66004, 66005, 66010, 66011, 66012, 66013, 66014, 67001, 67002, 67003, 69999, 70999, 82000, 82001, 82002, 82003, 82004, 82005, 82006, 82007, 82008, 82009, 82010, 82011, 83000, 83001, 83002, 83003, 83004, 83005, 83006, 83007, 83008, 83009, 83010, 83011, 84000, 84001, 84002, 84003, 84004, 84005, 84006, 84007, 84008, 84009, 84010, 84011, 102999, 103999, 112999, 113999] hq443 hq443 := gSs.rf xq443.1
            refine gz_s 3 (pc' := 81) (L' := [some (.ref x), some (.ref ft), some (.int (zi zq443)), some (.int (zi tn))]) (S' := [.int (zi (-3)), .int (zi zq443)]) rfl ?_
            by_cases hc466 : ¬ (zq443 : Int) = (-3)
            · refine gy_icT (pc' := 115) rfl (by decide) (by decide) (by omega) (by omega) hc466 ?_
              refine gy_s 2 (pc' := 61) (L' := [some (.ref x), some (.ref ft), some (.int (zi zq443)), some (.int ((zi tn) + zi 1))]) (S' := []) (L2 := [some (.ref x), some (.ref ft), some (.int (zi zq443)), some (.int (zi (tn + 1)))]) (S2 := []) rfl (by simp only [zi_add, zi_sub, zi_mul, zi_neg, zi_and1, zi_and7, zi_and15, zi_and31, zi_and255]) (by simp only [zi_add, zi_sub, zi_mul, zi_neg, zi_and1, zi_and7, zi_and15, zi_and31, zi_and255]) ?_
              have G467 : gSg [112, 113] [] [54002, 54003, 54004, 54005, 54006, 54007, 54008, 54009, 54010, 54011, 54012, 54013, 58999, 65003, 66001, 66002, 66003, 66004, 66005, 66010, 66011, 66012, 66013, 66014, 67001, 67002, 67003, 69999, 70999, 82000, 82001, 82002, 82003, 82004, 82005, 82006, 82007, 82008, 82009, 82010, 82011, 83000, 83001, 83002, 83003, 83004, 83005, 83006, 83007, 83008, 83009, 83010, 83011, 84000, 84001, 84002, 84003, 84004, 84005, 84006, 84007, 84008, 84009, 84010, 84011, 102999, 103999, 112999, 113999] ty h tyq443 hq443 := gSg.ss G444 sS465 (by decide)
              exact gz_wk (ihlp233 tyq443 hq443 zq443 (tn + 1) fq443_5 xq443_0 (gms lp233m (by omega) (by omega)) G467 uq464 t445 t446 t447 t448 t449 t450 t451 t452 t453 t454 ⟨by omega, by omega⟩ ⟨by omega, by omega⟩ ⟨by omega, by omega⟩ ⟨by omega, by omega⟩ (by omega) (by omega) (by omega) s455 s456 s457 s458 s459 s460 s461 s462 s463 efq443_5 yq443_0) (gLw.s (gLw.s (gLw.s (gLw.s gLw.z))))
            · refine gy_icF rfl (by decide) (by decide) (by omega) (by omega) hc466 ?_
              have hpq468 := yq443_0
              obtain ⟨_, bnp, cop, dmp, vvp, ⟨tbnp, tcop, tdmp⟩, ⟨er0p, er1p, er2p, er3p, er4p, er5p⟩, hvvp, hrrp, ⟨yy0p, yy1p, yy2p, yy3p, yy4p, yy5p, yy6p, yy7p⟩, ll0p, ll1p, ll2p, ll3p⟩ := hpq468
              have excnp : hq443.2.2.2.2 pic 7 = .int (zi (vvp 0)) := hvvp (0, 7, 0) (by decide)
              have rrcnp : 0 ≤ vvp 0 ∧ vvp 0 ≤ 3 := hrrp (0, 0, 3) (by decide)
              have lk469 : vvp 0 = fq443_0 := gv_i excnp efq443_0 (by omega) (by omega)
              have exucp : hq443.2.2.2.2 pic 12 = .int (zi (vvp 1)) := hvvp (0, 12, 1) (by decide)
              have rrucp : 0 ≤ vvp 1 ∧ vvp 1 ≤ 8 := hrrp (1, 0, 8) (by decide)
              have exurp : hq443.2.2.2.2 pic 13 = .int (zi (vvp 2)) := hvvp (0, 13, 2) (by decide)
              have rrurp : 0 ≤ vvp 2 ∧ vvp 2 ≤ 8 := hrrp (2, 0, 8) (by decide)
              have exblp : hq443.2.2.2.2 pic 8 = .int (zi (vvp 3)) := hvvp (0, 8, 3) (by decide)
              have rrblp : 0 ≤ vvp 3 ∧ vvp 3 ≤ 192 := hrrp (3, 0, 192) (by decide)
              have exwp : hq443.2.2.2.2 pic 5 = .int (zi (vvp 4)) := hvvp (0, 5, 4) (by decide)
              have rrwp : 0 ≤ vvp 4 ∧ vvp 4 ≤ 64 := hrrp (4, 0, 64) (by decide)
              have exhhp : hq443.2.2.2.2 pic 6 = .int (zi (vvp 5)) := hvvp (0, 6, 5) (by decide)
              have rrhhp : 0 ≤ vvp 5 ∧ vvp 5 ≤ 64 := hrrp (5, 0, 64) (by decide)
              have exghp : hq443.2.2.2.2 pic 10 = .int (zi (vvp 6)) := hvvp (0, 10, 6) (by decide)
              have rrghp : 1 ≤ vvp 6 ∧ vvp 6 ≤ 2 := hrrp (6, 1, 2) (by decide)
              have exgvp : hq443.2.2.2.2 pic 11 = .int (zi (vvp 7)) := hvvp (0, 11, 7) (by decide)
              have rrgvp : 1 ≤ vvp 7 ∧ vvp 7 ≤ 2 := hrrp (7, 1, 2) (by decide)
              have exhb0p : hq443.2.2.2.2 b0 1 = .int (zi (vvp 8)) := hvvp (1, 1, 8) (by decide)
              have rrhb0p : (-1) ≤ vvp 8 ∧ vvp 8 ≤ 15 := hrrp (8, (-1), 15) (by decide)
              have exvb0p : hq443.2.2.2.2 b0 2 = .int (zi (vvp 9)) := hvvp (1, 2, 9) (by decide)
              have rrvb0p : 0 ≤ vvp 9 ∧ vvp 9 ≤ 15 := hrrp (9, 0, 15) (by decide)
              have extq0p : hq443.2.2.2.2 b0 3 = .int (zi (vvp 10)) := hvvp (1, 3, 10) (by decide)
              have rrtq0p : (-1) ≤ vvp 10 ∧ vvp 10 ≤ 255 := hrrp (10, (-1), 255) (by decide)
              have exC0p : hq443.2.2.2.2 b0 4 = .int (zi (vvp 11)) := hvvp (1, 4, 11) (by decide)
              have rrC0p : 0 ≤ vvp 11 ∧ vvp 11 ≤ 16 := hrrp (11, 0, 16) (by decide)
              have exR0p : hq443.2.2.2.2 b0 5 = .int (zi (vvp 12)) := hvvp (1, 5, 12) (by decide)
              have rrR0p : 0 ≤ vvp 12 ∧ vvp 12 ≤ 16 := hrrp (12, 0, 16) (by decide)
              have exoc0p : hq443.2.2.2.2 b0 6 = .int (zi (vvp 13)) := hvvp (1, 6, 13) (by decide)
              have rroc0p : 0 ≤ vvp 13 ∧ vvp 13 ≤ 16 := hrrp (13, 0, 16) (by decide)
              have exor0p : hq443.2.2.2.2 b0 7 = .int (zi (vvp 14)) := hvvp (1, 7, 14) (by decide)
              have rror0p : 0 ≤ vvp 14 ∧ vvp 14 ≤ 16 := hrrp (14, 0, 16) (by decide)
              have exf0p : hq443.2.2.2.2 b0 8 = .int (zi (vvp 15)) := hvvp (1, 8, 15) (by decide)
              have rrf0p : 0 ≤ vvp 15 ∧ vvp 15 ≤ 192 := hrrp (15, 0, 192) (by decide)
              have exhb1p : hq443.2.2.2.2 b1 1 = .int (zi (vvp 16)) := hvvp (2, 1, 16) (by decide)
              have rrhb1p : (-1) ≤ vvp 16 ∧ vvp 16 ≤ 15 := hrrp (16, (-1), 15) (by decide)
              have exvb1p : hq443.2.2.2.2 b1 2 = .int (zi (vvp 17)) := hvvp (2, 2, 17) (by decide)
              have rrvb1p : 0 ≤ vvp 17 ∧ vvp 17 ≤ 15 := hrrp (17, 0, 15) (by decide)
              have extq1p : hq443.2.2.2.2 b1 3 = .int (zi (vvp 18)) := hvvp (2, 3, 18) (by decide)
              have rrtq1p : (-1) ≤ vvp 18 ∧ vvp 18 ≤ 255 := hrrp (18, (-1), 255) (by decide)
              have exC1p : hq443.2.2.2.2 b1 4 = .int (zi (vvp 19)) := hvvp (2, 4, 19) (by decide)
              have rrC1p : 0 ≤ vvp 19 ∧ vvp 19 ≤ 16 := hrrp (19, 0, 16) (by decide)
              have exR1p : hq443.2.2.2.2 b1 5 = .int (zi (vvp 20)) := hvvp (2, 5, 20) (by decide)
              have rrR1p : 0 ≤ vvp 20 ∧ vvp 20 ≤ 16 := hrrp (20, 0, 16) (by decide)
              have exoc1p : hq443.2.2.2.2 b1 6 = .int (zi (vvp 21)) := hvvp (2, 6, 21) (by decide)
              have rroc1p : 0 ≤ vvp 21 ∧ vvp 21 ≤ 16 := hrrp (21, 0, 16) (by decide)
              have exor1p : hq443.2.2.2.2 b1 7 = .int (zi (vvp 22)) := hvvp (2, 7, 22) (by decide)
              have rror1p : 0 ≤ vvp 22 ∧ vvp 22 ≤ 16 := hrrp (22, 0, 16) (by decide)
              have exf1p : hq443.2.2.2.2 b1 8 = .int (zi (vvp 23)) := hvvp (2, 8, 23) (by decide)
              have rrf1p : 0 ≤ vvp 23 ∧ vvp 23 ≤ 192 := hrrp (23, 0, 192) (by decide)
              have exhb2p : hq443.2.2.2.2 b2 1 = .int (zi (vvp 24)) := hvvp (3, 1, 24) (by decide)
              have rrhb2p : (-1) ≤ vvp 24 ∧ vvp 24 ≤ 15 := hrrp (24, (-1), 15) (by decide)
              have exvb2p : hq443.2.2.2.2 b2 2 = .int (zi (vvp 25)) := hvvp (3, 2, 25) (by decide)
              have rrvb2p : 0 ≤ vvp 25 ∧ vvp 25 ≤ 15 := hrrp (25, 0, 15) (by decide)
              have extq2p : hq443.2.2.2.2 b2 3 = .int (zi (vvp 26)) := hvvp (3, 3, 26) (by decide)
              have rrtq2p : (-1) ≤ vvp 26 ∧ vvp 26 ≤ 255 := hrrp (26, (-1), 255) (by decide)
              have exC2p : hq443.2.2.2.2 b2 4 = .int (zi (vvp 27)) := hvvp (3, 4, 27) (by decide)
              have rrC2p : 0 ≤ vvp 27 ∧ vvp 27 ≤ 16 := hrrp (27, 0, 16) (by decide)
              have exR2p : hq443.2.2.2.2 b2 5 = .int (zi (vvp 28)) := hvvp (3, 5, 28) (by decide)
              have rrR2p : 0 ≤ vvp 28 ∧ vvp 28 ≤ 16 := hrrp (28, 0, 16) (by decide)
              have exoc2p : hq443.2.2.2.2 b2 6 = .int (zi (vvp 29)) := hvvp (3, 6, 29) (by decide)
              have rroc2p : 0 ≤ vvp 29 ∧ vvp 29 ≤ 16 := hrrp (29, 0, 16) (by decide)
              have exor2p : hq443.2.2.2.2 b2 7 = .int (zi (vvp 30)) := hvvp (3, 7, 30) (by decide)
              have rror2p : 0 ≤ vvp 30 ∧ vvp 30 ≤ 16 := hrrp (30, 0, 16) (by decide)
              have exf2p : hq443.2.2.2.2 b2 8 = .int (zi (vvp 31)) := hvvp (3, 8, 31) (by decide)
              have rrf2p : 0 ≤ vvp 31 ∧ vvp 31 ≤ 192 := hrrp (31, 0, 192) (by decide)
              refine gz_s 1 (pc' := 85) (L' := [some (.ref x), some (.ref ft), some (.int (zi zq443)), some (.int (zi tn))]) (S' := [.ref x]) rfl ?_
              refine gs_gtk rfl (by decide) rfl sS465.1 t445 rfl rfl s461 ?_
              refine gz_s 1 (pc' := 89) (L' := [some (.ref x), some (.ref ft), some (.int (zi zq443)), some (.int (zi tn))]) (S' := [.ref x, .ref sc]) rfl ?_
              refine gs_gtk rfl (by decide) rfl sS465.1 t445 rfl rfl efq443_5 ?_
              obtain ⟨c470, ec470, tc470⟩ := gJ.ref (k := 0) (G := gGG) sS465.1 t453 rfl rfl rfl
              obtain ⟨c471, ec471, tc471⟩ := gJ.ref (k := 0) (G := gGG) sS465.1 tc470 rfl rfl rfl
              have ee472 : src = c471 := uq464 src c471 (t447.trans tc471.symm) (by rw [t447]; decide) (by rw [t447]; decide)
              subst ee472
              obtain ⟨c473, ec473, tc473⟩ := gJ.ref (k := 7) (G := gGG) sS465.1 t453 rfl rfl rfl
              have ee474 : pic = c473 := uq464 pic c473 (t448.trans tc473.symm) (by rw [t448]; decide) (by rw [t448]; decide)
              subst ee474
              have hl475 : hq443.2.2.2.1 cop = hq443.2.2.2.1 cop := congrFun sS465.2.2.2.2.1 cop
              have hl476 : hq443.2.2.2.1 dmp = hq443.2.2.2.1 dmp := congrFun sS465.2.2.2.2.1 dmp
              refine gz_call rfl (by decide) rfl (by decide) (by decide) (gcal_of rfl rfl rfl (Nat.le_of_ble_eq_true rfl) (gJ.recv (G := gGG) sS465.1 t453 rfl rfl)) (cl_ScanReader_readUnits _ sS465.1 sc t453 fq443_5 ⟨by omega, by omega⟩ c470 ec470 tc470 src ec471 t447 pic ec473 t448 cop er4p tcop bn s457 t449 b0 s458 t450 b1 s459 t451 b2 s460 t452 dmp er5p tdmp sz s462 ⟨by omega, by omega⟩ fq443_4 efq443_4 ⟨by omega, by omega⟩ fq443_3 efq443_3 ⟨by omega, by omega⟩ (vvp 0) excnp ⟨by omega, by omega⟩ (vvp 1) exucp ⟨by omega, by omega⟩ (vvp 2) exurp ⟨by omega, by omega⟩ (vvp 3) exblp ⟨by omega, by omega⟩ (vvp 8) exhb0p ⟨by omega, by omega⟩ (vvp 9) exvb0p ⟨by omega, by omega⟩ (vvp 11) exC0p ⟨by omega, by omega⟩ (vvp 12) exR0p ⟨by omega, by omega⟩ (vvp 13) exoc0p ⟨by omega, by omega⟩ (vvp 14) exor0p ⟨by omega, by omega⟩ (vvp 15) exf0p ⟨by omega, by omega⟩ (vvp 16) exhb1p ⟨by omega, by omega⟩ (vvp 17) exvb1p ⟨by omega, by omega⟩ (vvp 19) exC1p ⟨by omega, by omega⟩ (vvp 20) exR1p ⟨by omega, by omega⟩ (vvp 21) exoc1p ⟨by omega, by omega⟩ (vvp 22) exor1p ⟨by omega, by omega⟩ (vvp 23) exf1p ⟨by omega, by omega⟩ (vvp 24) exhb2p ⟨by omega, by omega⟩ (vvp 25) exvb2p ⟨by omega, by omega⟩ (vvp 27) exC2p ⟨by omega, by omega⟩ (vvp 28) exR2p ⟨by omega, by omega⟩ (vvp 29) exoc2p ⟨by omega, by omega⟩ (vvp 30) exor2p ⟨by omega, by omega⟩ (vvp 31) exf2p ⟨by omega, by omega⟩ fq443_1 efq443_1 ⟨by omega, by omega⟩ fq443_2 efq443_2 ⟨by omega, by omega⟩ (by omega) (by omega) (by omega) (by omega) (by omega) uq464 yy0p yy1p yy2p) (fun q477 _ wq477 => ?_)
              obtain ⟨pq477, oq477, hq477⟩ := q477
              obtain ⟨xq477, fq477_0, gq477, efq477_0, afq477_0, bfq477_0, uq477_0⟩ := wq477
              refine ⟨_, gq477, ?_⟩
              show gz gPP gGG gcn _ _ 95 [some (.ref x), some (.ref ft), some (.int (zi zq443)), some (.int (zi tn))] [] hq477 _
              have sq477 : gSs rT 1027 tyq443 [54002, 54003, 54004, 54005, 54006, 54007, 54008, 54009, 54010, 54011, 54012, 54013, 58999, 65003, 66001, 66002, 66003, 66004, 66005, 66010, 66011, 66012, 66013, 66014, 67001, 67002, 67003, 69999, 70999, 82000, 82001, 82002, 82003, 82004, 82005, 82006, 82007, 82008, 82009, 82010, 82011, 83000, 83001, 83002, 83003, 83004, 83005, 83006, 83007, 83008, 83009, 83010, 83011, 84000, 84001, 84002, 84003, 84004, 84005, 84006, 84007, 84008, 84009, 84010, 84011, 102999, 103999, 112999, 113999] hq443 hq477 := gSs.tr sS465 xq477 (by decide)
              have s478 := (xq477.2.2.2.2.2 x 0 (by rw [t445]; decide)).trans s455
              have s479 := (xq477.2.2.2.2.2 x 1 (by rw [t445]; decide)).trans s456
              have s480 := (xq477.2.2.2.2.2 pic 0 (by rw [t448]; decide)).trans s457
              have s481 := (xq477.2.2.2.2.2 bn 0 (by rw [t449]; decide)).trans s458
              have s482 := (xq477.2.2.2.2.2 bn 1 (by rw [t449]; decide)).trans s459
              have s483 := (xq477.2.2.2.2.2 bn 2 (by rw [t449]; decide)).trans s460
              have s484 := (xq477.2.2.2.2.2 x 2 (by rw [t445]; decide)).trans s461
              have s485 := (xq477.2.2.2.2.2 src 1 (by rw [t447]; decide)).trans s462
              have s486 := (xq477.2.2.2.2.2 pic 1 (by rw [t448]; decide)).trans s463
              have s487 := (xq477.2.2.2.2.2 pic 7 (by rw [t448]; decide)).trans excnp
              have s488 := (xq477.2.2.2.2.2 sc 11 (by rw [t453]; decide)).trans efq443_1
              have s489 := (xq477.2.2.2.2.2 sc 12 (by rw [t453]; decide)).trans efq443_2
              have s490 := (xq477.2.2.2.2.2 sc 2 (by rw [t453]; decide)).trans efq443_3
              have s491 := (xq477.2.2.2.2.2 sc 3 (by rw [t453]; decide)).trans efq443_4
              have s492 := (xq477.2.2.2.2.2 x 3 (by rw [t445]; decide)).trans efq443_5
              have s493 := (xq477.2.2.2.2.2 pic 2 (by rw [t448]; decide)).trans er4p
              have s494 := (xq477.2.2.2.2.2 pic 3 (by rw [t448]; decide)).trans er5p
              have s495 := (xq477.2.2.2.2.2 pic 12 (by rw [t448]; decide)).trans exucp
              have s496 := (xq477.2.2.2.2.2 pic 13 (by rw [t448]; decide)).trans exurp
              have s497 := (xq477.2.2.2.2.2 pic 8 (by rw [t448]; decide)).trans exblp
              have s498 := (xq477.2.2.2.2.2 pic 5 (by rw [t448]; decide)).trans exwp
              have s499 := (xq477.2.2.2.2.2 pic 6 (by rw [t448]; decide)).trans exhhp
              have s500 := (xq477.2.2.2.2.2 pic 10 (by rw [t448]; decide)).trans exghp
              have s501 := (xq477.2.2.2.2.2 pic 11 (by rw [t448]; decide)).trans exgvp
              have s502 := (xq477.2.2.2.2.2 b0 1 (by rw [t450]; decide)).trans exhb0p
              have s503 := (xq477.2.2.2.2.2 b0 2 (by rw [t450]; decide)).trans exvb0p
              have s504 := (xq477.2.2.2.2.2 b0 3 (by rw [t450]; decide)).trans extq0p
              have s505 := (xq477.2.2.2.2.2 b0 4 (by rw [t450]; decide)).trans exC0p
              have s506 := (xq477.2.2.2.2.2 b0 5 (by rw [t450]; decide)).trans exR0p
              have s507 := (xq477.2.2.2.2.2 b0 6 (by rw [t450]; decide)).trans exoc0p
              have s508 := (xq477.2.2.2.2.2 b0 7 (by rw [t450]; decide)).trans exor0p
              have s509 := (xq477.2.2.2.2.2 b0 8 (by rw [t450]; decide)).trans exf0p
              have s510 := (xq477.2.2.2.2.2 b1 1 (by rw [t451]; decide)).trans exhb1p
              have s511 := (xq477.2.2.2.2.2 b1 2 (by rw [t451]; decide)).trans exvb1p
              have s512 := (xq477.2.2.2.2.2 b1 3 (by rw [t451]; decide)).trans extq1p
              have s513 := (xq477.2.2.2.2.2 b1 4 (by rw [t451]; decide)).trans exC1p
              have s514 := (xq477.2.2.2.2.2 b1 5 (by rw [t451]; decide)).trans exR1p
              have s515 := (xq477.2.2.2.2.2 b1 6 (by rw [t451]; decide)).trans exoc1p
              have s516 := (xq477.2.2.2.2.2 b1 7 (by rw [t451]; decide)).trans exor1p
              have s517 := (xq477.2.2.2.2.2 b1 8 (by rw [t451]; decide)).trans exf1p
              have s518 := (xq477.2.2.2.2.2 b2 1 (by rw [t452]; decide)).trans exhb2p
              have s519 := (xq477.2.2.2.2.2 b2 2 (by rw [t452]; decide)).trans exvb2p
              have s520 := (xq477.2.2.2.2.2 b2 3 (by rw [t452]; decide)).trans extq2p
              have s521 := (xq477.2.2.2.2.2 b2 4 (by rw [t452]; decide)).trans exC2p
              have s522 := (xq477.2.2.2.2.2 b2 5 (by rw [t452]; decide)).trans exR2p
              have s523 := (xq477.2.2.2.2.2 b2 6 (by rw [t452]; decide)).trans exoc2p
              have s524 := (xq477.2.2.2.2.2 b2 7 (by rw [t452]; decide)).trans exor2p
              have s525 := (xq477.2.2.2.2.2 b2 8 (by rw [t452]; decide)).trans exf2p
              have s526 := (xq477.2.2.2.2.2 sc 0 (by rw [t453]; decide)).trans ec470
              have s527 := (xq477.2.2.2.2.2 c470 0 (by rw [tc470]; decide)).trans ec471
              have s528 := (xq477.2.2.2.2.2 sc 7 (by rw [t453]; decide)).trans ec473
              have pr529 := gPC.fr xq477.2 (by decide) yq443_0
              clear rrcnp rrucp rrurp rrblp rrwp rrhhp rrghp rrgvp rrhb0p rrvb0p rrtq0p rrC0p rrR0p rroc0p rror0p rrf0p rrhb1p rrvb1p rrtq1p rrC1p rrR1p rroc1p rror1p rrf1p rrhb2p rrvb2p rrtq2p rrC2p rrR2p rroc2p rror2p rrf2p yy0p yy1p yy2p yy3p yy4p yy5p yy6p yy7p
              refine gz_s 3 (pc' := 98) (L' := [some (.ref x), some (.ref ft), some (.int (zi zq443)), some (.int (zi tn))]) (S' := [.ref x, .ref x, .ref x]) rfl ?_
              refine gs_gtk rfl (by decide) rfl sq477.1 t445 rfl rfl s484 ?_
              refine gs_gtk rfl (by decide) rfl sq477.1 t453 rfl rfl s526 ?_
              refine gs_gtk rfl (by decide) rfl sq477.1 tc470 rfl rfl efq477_0 ?_
              refine gz_call rfl (by decide) rfl (by decide) (by decide) (gcal_of rfl rfl rfl (Nat.le_of_ble_eq_true rfl) (gJ.recv (G := gGG) sq477.1 t445 rfl rfl)) (cl_Reader_placeBehindScan _ sq477.1 x t445 fq477_0 ⟨by omega, by omega⟩ src s478 t447 sz s485 ⟨by omega, by omega⟩ uq464) (fun q530 _ wq530 => ?_)
              obtain ⟨pq530, oq530, hq530⟩ := q530
              obtain ⟨xq530, zq530, gq530, aq530, bq530, uq530_0, uq530_1⟩ := wq530
              refine ⟨_, gq530, ?_⟩
              show gz gPP gGG gcn _ _ 110 [some (.ref x), some (.ref ft), some (.int (zi zq443)), some (.int (zi tn))] [.int (zi zq530), .ref x] hq530 _
              have sq530 : gSs rT 1027 tyq443 [54002, 54003, 54004, 54005, 54006, 54007, 54008, 54009, 54010, 54011, 54012, 54013, 58999, 65003, 66001, 66002, 66003, 66004, 66005, 66010, 66011, 66012, 66013, 66014, 67001, 67002, 67003, 69999, 70999, 82000, 82001, 82002, 82003, 82004, 82005, 82006, 82007, 82008, 82009, 82010, 82011, 83000, 83001, 83002, 83003, 83004, 83005, 83006, 83007, 83008, 83009, 83010, 83011, 84000, 84001, 84002, 84003, 84004, 84005, 84006, 84007, 84008, 84009, 84010, 84011, 102999, 103999, 112999, 113999] hq443 hq530 := gSs.tr sq477 xq530 (by decide)
              have s531 := (xq530.2.2.2.2.2 x 0 (by rw [t445]; decide)).trans s478
              have s532 := (xq530.2.2.2.2.2 x 1 (by rw [t445]; decide)).trans s479
              have s533 := (xq530.2.2.2.2.2 pic 0 (by rw [t448]; decide)).trans s480
              have s534 := (xq530.2.2.2.2.2 bn 0 (by rw [t449]; decide)).trans s481
              have s535 := (xq530.2.2.2.2.2 bn 1 (by rw [t449]; decide)).trans s482
              have s536 := (xq530.2.2.2.2.2 bn 2 (by rw [t449]; decide)).trans s483
              have s537 := (xq530.2.2.2.2.2 x 2 (by rw [t445]; decide)).trans s484
              have s538 := (xq530.2.2.2.2.2 src 1 (by rw [t447]; decide)).trans s485
              have s539 := (xq530.2.2.2.2.2 pic 1 (by rw [t448]; decide)).trans s486
              have s540 := (xq530.2.2.2.2.2 pic 7 (by rw [t448]; decide)).trans s487
              have s541 := (xq530.2.2.2.2.2 sc 11 (by rw [t453]; decide)).trans s488
              have s542 := (xq530.2.2.2.2.2 sc 12 (by rw [t453]; decide)).trans s489
              have s543 := (xq530.2.2.2.2.2 sc 2 (by rw [t453]; decide)).trans s490
              have s544 := (xq530.2.2.2.2.2 sc 3 (by rw [t453]; decide)).trans s491
              have s545 := (xq530.2.2.2.2.2 x 3 (by rw [t445]; decide)).trans s492
              have s546 := (xq530.2.2.2.2.2 pic 2 (by rw [t448]; decide)).trans s493
              have s547 := (xq530.2.2.2.2.2 pic 3 (by rw [t448]; decide)).trans s494
              have s548 := (xq530.2.2.2.2.2 pic 12 (by rw [t448]; decide)).trans s495
              have s549 := (xq530.2.2.2.2.2 pic 13 (by rw [t448]; decide)).trans s496
              have s550 := (xq530.2.2.2.2.2 pic 8 (by rw [t448]; decide)).trans s497
              have s551 := (xq530.2.2.2.2.2 pic 5 (by rw [t448]; decide)).trans s498
              have s552 := (xq530.2.2.2.2.2 pic 6 (by rw [t448]; decide)).trans s499
              have s553 := (xq530.2.2.2.2.2 pic 10 (by rw [t448]; decide)).trans s500
              have s554 := (xq530.2.2.2.2.2 pic 11 (by rw [t448]; decide)).trans s501
              have s555 := (xq530.2.2.2.2.2 b0 1 (by rw [t450]; decide)).trans s502
              have s556 := (xq530.2.2.2.2.2 b0 2 (by rw [t450]; decide)).trans s503
              have s557 := (xq530.2.2.2.2.2 b0 3 (by rw [t450]; decide)).trans s504
              have s558 := (xq530.2.2.2.2.2 b0 4 (by rw [t450]; decide)).trans s505
              have s559 := (xq530.2.2.2.2.2 b0 5 (by rw [t450]; decide)).trans s506
              have s560 := (xq530.2.2.2.2.2 b0 6 (by rw [t450]; decide)).trans s507
              have s561 := (xq530.2.2.2.2.2 b0 7 (by rw [t450]; decide)).trans s508
              have s562 := (xq530.2.2.2.2.2 b0 8 (by rw [t450]; decide)).trans s509
              have s563 := (xq530.2.2.2.2.2 b1 1 (by rw [t451]; decide)).trans s510
              have s564 := (xq530.2.2.2.2.2 b1 2 (by rw [t451]; decide)).trans s511
              have s565 := (xq530.2.2.2.2.2 b1 3 (by rw [t451]; decide)).trans s512
              have s566 := (xq530.2.2.2.2.2 b1 4 (by rw [t451]; decide)).trans s513
              have s567 := (xq530.2.2.2.2.2 b1 5 (by rw [t451]; decide)).trans s514
              have s568 := (xq530.2.2.2.2.2 b1 6 (by rw [t451]; decide)).trans s515
              have s569 := (xq530.2.2.2.2.2 b1 7 (by rw [t451]; decide)).trans s516
              have s570 := (xq530.2.2.2.2.2 b1 8 (by rw [t451]; decide)).trans s517
              have s571 := (xq530.2.2.2.2.2 b2 1 (by rw [t452]; decide)).trans s518
              have s572 := (xq530.2.2.2.2.2 b2 2 (by rw [t452]; decide)).trans s519
              have s573 := (xq530.2.2.2.2.2 b2 3 (by rw [t452]; decide)).trans s520
              have s574 := (xq530.2.2.2.2.2 b2 4 (by rw [t452]; decide)).trans s521
              have s575 := (xq530.2.2.2.2.2 b2 5 (by rw [t452]; decide)).trans s522
              have s576 := (xq530.2.2.2.2.2 b2 6 (by rw [t452]; decide)).trans s523
              have s577 := (xq530.2.2.2.2.2 b2 7 (by rw [t452]; decide)).trans s524
              have s578 := (xq530.2.2.2.2.2 b2 8 (by rw [t452]; decide)).trans s525
              have s579 := (xq530.2.2.2.2.2 sc 0 (by rw [t453]; decide)).trans s526
              have s580 := (xq530.2.2.2.2.2 c470 0 (by rw [tc470]; decide)).trans s527
              have s581 := (xq530.2.2.2.2.2 sc 7 (by rw [t453]; decide)).trans s528
              have s582 := (xq530.2.2.2.2.2 c470 1 (by rw [tc470]; decide)).trans efq477_0
              have pr583 := gPC.fr xq530.2 (by decide) pr529
              refine gs_put rfl (by decide) rfl sq530 t445 rfl rfl rfl rfl (Or.inl rfl) (by decide) (by omega) (by omega) (fun h584 sh584 eh584 fh584 => ?_)
              have pr585 := gPC.pk fh584 (sh584.2.2.2.2.1.trans sq530.2.2.2.2.1.symm) t445 (by decide) pr583
              have s586 := (fh584 x 0 (fun q => absurd q.2 (by decide))).trans s531
              have s587 := (fh584 x 1 (fun q => absurd q.2 (by decide))).trans s532
              have s588 := (fh584 pic 0 (fun q => absurd q.2 (by decide))).trans s533
              have s589 := (fh584 bn 0 (fun q => absurd (((t449).symm.trans (congrArg tyq443 q.1)).trans t445) (by decide))).trans s534
              have s590 := (fh584 bn 1 (fun q => absurd (((t449).symm.trans (congrArg tyq443 q.1)).trans t445) (by decide))).trans s535
              have s591 := (fh584 bn 2 (fun q => absurd (((t449).symm.trans (congrArg tyq443 q.1)).trans t445) (by decide))).trans s536
              have s592 := (fh584 x 2 (fun q => absurd q.2 (by decide))).trans s537
              have s593 := (fh584 src 1 (fun q => absurd q.2 (by decide))).trans s538
              have s594 := (fh584 pic 1 (fun q => absurd q.2 (by decide))).trans s539
              have s595 := (fh584 pic 7 (fun q => absurd q.2 (by decide))).trans s540
              have s596 := (fh584 sc 11 (fun q => absurd q.2 (by decide))).trans s541
              have s597 := (fh584 sc 12 (fun q => absurd q.2 (by decide))).trans s542
              have s598 := (fh584 sc 2 (fun q => absurd q.2 (by decide))).trans s543
              have s599 := (fh584 sc 3 (fun q => absurd (((t453).symm.trans (congrArg tyq443 q.1)).trans t445) (by decide))).trans s544
              have s600 := (fh584 pic 2 (fun q => absurd q.2 (by decide))).trans s546
              have s601 := (fh584 pic 3 (fun q => absurd (((t448).symm.trans (congrArg tyq443 q.1)).trans t445) (by decide))).trans s547
              have s602 := (fh584 pic 12 (fun q => absurd q.2 (by decide))).trans s548
              have s603 := (fh584 pic 13 (fun q => absurd q.2 (by decide))).trans s549
              have s604 := (fh584 pic 8 (fun q => absurd q.2 (by decide))).trans s550
              have s605 := (fh584 pic 5 (fun q => absurd q.2 (by decide))).trans s551
              have s606 := (fh584 pic 6 (fun q => absurd q.2 (by decide))).trans s552
              have s607 := (fh584 pic 10 (fun q => absurd q.2 (by decide))).trans s553
              have s608 := (fh584 pic 11 (fun q => absurd q.2 (by decide))).trans s554
              have s609 := (fh584 b0 1 (fun q => absurd q.2 (by decide))).trans s555
              have s610 := (fh584 b0 2 (fun q => absurd q.2 (by decide))).trans s556
              have s611 := (fh584 b0 3 (fun q => absurd (((t450).symm.trans (congrArg tyq443 q.1)).trans t445) (by decide))).trans s557
              have s612 := (fh584 b0 4 (fun q => absurd q.2 (by decide))).trans s558
              have s613 := (fh584 b0 5 (fun q => absurd q.2 (by decide))).trans s559
              have s614 := (fh584 b0 6 (fun q => absurd q.2 (by decide))).trans s560
              have s615 := (fh584 b0 7 (fun q => absurd q.2 (by decide))).trans s561
              have s616 := (fh584 b0 8 (fun q => absurd q.2 (by decide))).trans s562
              have s617 := (fh584 b1 1 (fun q => absurd q.2 (by decide))).trans s563
              have s618 := (fh584 b1 2 (fun q => absurd q.2 (by decide))).trans s564
              have s619 := (fh584 b1 3 (fun q => absurd (((t451).symm.trans (congrArg tyq443 q.1)).trans t445) (by decide))).trans s565
              have s620 := (fh584 b1 4 (fun q => absurd q.2 (by decide))).trans s566
              have s621 := (fh584 b1 5 (fun q => absurd q.2 (by decide))).trans s567
              have s622 := (fh584 b1 6 (fun q => absurd q.2 (by decide))).trans s568
              have s623 := (fh584 b1 7 (fun q => absurd q.2 (by decide))).trans s569
              have s624 := (fh584 b1 8 (fun q => absurd q.2 (by decide))).trans s570
              have s625 := (fh584 b2 1 (fun q => absurd q.2 (by decide))).trans s571
              have s626 := (fh584 b2 2 (fun q => absurd q.2 (by decide))).trans s572
              have s627 := (fh584 b2 3 (fun q => absurd (((t452).symm.trans (congrArg tyq443 q.1)).trans t445) (by decide))).trans s573
              have s628 := (fh584 b2 4 (fun q => absurd q.2 (by decide))).trans s574
              have s629 := (fh584 b2 5 (fun q => absurd q.2 (by decide))).trans s575
              have s630 := (fh584 b2 6 (fun q => absurd q.2 (by decide))).trans s576
              have s631 := (fh584 b2 7 (fun q => absurd q.2 (by decide))).trans s577
              have s632 := (fh584 b2 8 (fun q => absurd q.2 (by decide))).trans s578
              have s633 := (fh584 sc 0 (fun q => absurd q.2 (by decide))).trans s579
              have s634 := (fh584 c470 0 (fun q => absurd q.2 (by decide))).trans s580
              have s635 := (fh584 sc 7 (fun q => absurd q.2 (by decide))).trans s581
              have s636 := (fh584 c470 1 (fun q => absurd q.2 (by decide))).trans s582
              refine gy_s 4 (pc' := 61) (L' := [some (.ref x), some (.ref ft), some (.int (zi (-1))), some (.int ((zi tn) + zi 1))]) (S' := []) (L2 := [some (.ref x), some (.ref ft), some (.int (zi (-1))), some (.int (zi (tn + 1)))]) (S2 := []) rfl (by simp only [zi_add, zi_sub, zi_mul, zi_neg, zi_and1, zi_and7, zi_and15, zi_and31, zi_and255]) (by simp only [zi_add, zi_sub, zi_mul, zi_neg, zi_and1, zi_and7, zi_and15, zi_and31, zi_and255]) ?_
              have k637 := sh584.2.1
              have k637b := sh584.2.2.1
              have hl638 : h584.2.2.2.1 cop = hq443.2.2.2.1 cop := congrFun sh584.2.2.2.2.1 cop
              have hl639 : h584.2.2.2.1 dmp = hq443.2.2.2.1 dmp := congrFun sh584.2.2.2.2.1 dmp
              have hl640 : 0 ≤ h584.2.2.2.1 cop ∧ h584.2.2.2.1 cop ≤ 12288 := gJ.rowl (G := gGG) sh584.1 tcop rfl
              have hl641 : 0 ≤ h584.2.2.2.1 dmp ∧ h584.2.2.2.1 dmp ≤ 192 := gJ.rowl (G := gGG) sh584.1 tdmp rfl
              have G642 : gSg [112, 113] [] [54002, 54003, 54004, 54005, 54006, 54007, 54008, 54009, 54010, 54011, 54012, 54013, 58999, 65003, 66001, 66002, 66003, 66004, 66005, 66010, 66011, 66012, 66013, 66014, 67001, 67002, 67003, 69999, 70999, 82000, 82001, 82002, 82003, 82004, 82005, 82006, 82007, 82008, 82009, 82010, 82011, 83000, 83001, 83002, 83003, 83004, 83005, 83006, 83007, 83008, 83009, 83010, 83011, 84000, 84001, 84002, 84003, 84004, 84005, 84006, 84007, 84008, 84009, 84010, 84011, 102999, 103999, 112999, 113999] ty h tyq443 h584 := gSg.ss G444 sh584 (by decide)
              exact gz_wk (ihlp233 tyq443 h584 (-1) (tn + 1) zq530 xq443_0 (gms lp233m (by omega) (by omega)) G642 uq464 t445 t446 t447 t448 t449 t450 t451 t452 t453 t454 ⟨by omega, by omega⟩ ⟨by omega, by omega⟩ ⟨by omega, by omega⟩ ⟨by omega, by omega⟩ (by omega) (by omega) (by omega) s586 s587 s588 s589 s590 s591 s592 s593 s594 eh584 pr585) (gLw.s (gLw.s (gLw.s (gLw.s gLw.z))))
    have k643 := sh188.2.1
    have k643b := sh188.2.2.1
    have hl644 : h188.2.2.2.1 coo = h.2.2.2.1 coo := congrFun sh188.2.2.2.2.1 coo
    have hl645 : h188.2.2.2.1 dmo = h.2.2.2.1 dmo := congrFun sh188.2.2.2.2.1 dmo
    have hl646 : 0 ≤ h188.2.2.2.1 coo ∧ h188.2.2.2.1 coo ≤ 12288 := gJ.rowl (G := gGG) sh188.1 tcoo rfl
    have hl647 : 0 ≤ h188.2.2.2.1 dmo ∧ h188.2.2.2.1 dmo ≤ 192 := gJ.rowl (G := gGG) sh188.1 tdmo rfl
    have G648 : gSg [112, 113] [] [54002, 54003, 54004, 54005, 54006, 54007, 54008, 54009, 54010, 54011, 54012, 54013, 58999, 65003, 66001, 66002, 66003, 66004, 66005, 66010, 66011, 66012, 66013, 66014, 67001, 67002, 67003, 69999, 70999, 82000, 82001, 82002, 82003, 82004, 82005, 82006, 82007, 82008, 82009, 82010, 82011, 83000, 83001, 83002, 83003, 83004, 83005, 83006, 83007, 83008, 83009, 83010, 83011, 84000, 84001, 84002, 84003, 84004, 84005, 84006, 84007, 84008, 84009, 84010, 84011, 102999, 103999, 112999, 113999] ty h ty h188 := gSg.ss G0 sh188 (by decide)
    exact gz_wk (lp233 _ ty h188 jn187v0 0 2 ld (Nat.lt_succ_self _) G648 uq tx tft tsrc tpic tbn tb0 tb1 tb2 tsc tc45 ⟨by omega, by omega⟩ ⟨by omega, by omega⟩ ⟨by omega, by omega⟩ ⟨by omega, by omega⟩ (by omega) (by omega) (by omega) s190 s191 s192 s193 s194 s195 s196 s197 s232 eh188 pr189) (gLw.s (gLw.s (gLw.s (gLw.s gLw.z))))
  by_cases hc649 : ¬ (zq142 : Int) = 65496
  · refine gy_icT (pc' := 52) rfl (by decide) (by decide) (by omega) (by omega) hc649 ?_
    refine gz_s 1 (pc' := 53) (L' := [some (.ref x), some (.ref ft), none, none]) (S' := [.int (zi 0)]) rfl ?_
    exact jn187 0 (by omega)
  · refine gy_icF rfl (by decide) (by decide) (by omega) (by omega) hc649 ?_
    refine gz_s 2 (pc' := 53) (L' := [some (.ref x), some (.ref ft), none, none]) (S' := [.int (zi (-1))]) rfl ?_
    exact jn187 (-1) (by omega)
