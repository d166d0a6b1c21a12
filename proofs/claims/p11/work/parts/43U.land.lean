/-! ===== methods of the landed text (by program) ===== -/
set_option maxRecDepth 20000 in
set_option maxHeartbeats 4000000 in
theorem cl_DctFilter_colourW (d : Nat) {ty : Nat → Nat} {h : gH} (hJ : gJ rT 1027 ty h) (bd : Int) (rbd : (-2147483648) ≤ bd ∧ bd ≤ 2147483647) (a : Int) (ra : (-2147483648) ≤ a ∧ a ≤ 2147483647) (b : Int) (rb : (-2147483648) ≤ b ∧ b ≤ 2147483647) (c : Int) (rc : (-2147483648) ≤ c ∧ c ≤ 2147483647) : gz gPP gGG gcn (d + 2) gt77 0 (gent [.int (zi bd), .int (zi a), .int (zi b), .int (zi c)] 4) [] h (fun q _ => gSs rT 1027 ty [] h q.2.2 ∧ ∃ z : Int, gfin gt77 q.1 q.2.1 = some (some (.int (zi z))) ∧ 0 ≤ z ∧ z ≤ 255) := by
  have hS : gSs rT 1027 ty [] h h := gSs.rf hJ
  refine gz_s 2 (pc' := 2) (L' := [some (.int (zi bd)), some (.int (zi a)), some (.int (zi b)), some (.int (zi c))]) (S' := [.int (zi 3), .int (zi bd)]) rfl ?_
  by_cases hc1 : ¬ (bd : Int) = 3
  · refine gy_icT (pc' := 21) rfl (by decide) (by decide) (by omega) (by omega) hc1 ?_
    refine gz_s 2 (pc' := 23) (L' := [some (.int (zi bd)), some (.int (zi a)), some (.int (zi b)), some (.int (zi c))]) (S' := [.int (zi 4), .int (zi bd)]) rfl ?_
    by_cases hc2 : ¬ (bd : Int) = 4
    · refine gy_icT (pc' := 48) rfl (by decide) (by decide) (by omega) (by omega) hc2 ?_
      refine gz_s 1 (pc' := 49) (L' := [some (.int (zi bd)), some (.int (zi a)), some (.int (zi b)), some (.int (zi c))]) (S' := [.int (zi a)]) rfl ?_
      refine gz_1 rfl (by decide) rfl rfl (pc' := 51) (S' := [.int (zi 116130), .int (zi a)]) (h' := h) rfl ?_
      refine gy_s 2 (pc' := 53) (L' := [some (.int (zi bd)), some (.int (zi a)), some (.int (zi b)), some (.int (zi c))]) (S' := [.int ((zi 116130) * (zi b)), .int (zi a)]) (L2 := [some (.int (zi bd)), some (.int (zi a)), some (.int (zi b)), some (.int (zi c))]) (S2 := [.int (zi (116130 * b)), .int (zi a)]) rfl (by simp only [zi_add, zi_sub, zi_mul, zi_neg, zi_and1, zi_and7, zi_and15, zi_and31, zi_and255]) (by simp only [zi_add, zi_sub, zi_mul, zi_neg, zi_and1, zi_and7, zi_and15, zi_and31, zi_and255]) ?_
      refine gy_any (fun z3 ez3 az3 bz3 => ?_)
      refine gz_1 rfl (by decide) rfl rfl (pc' := 55) (S' := [.int (zi 32768), .int (zi z3), .int (zi a)]) (h' := h) rfl ?_
      refine gy_s 1 (pc' := 56) (L' := [some (.int (zi bd)), some (.int (zi a)), some (.int (zi b)), some (.int (zi c))]) (S' := [.int ((zi z3) + (zi 32768)), .int (zi a)]) (L2 := [some (.int (zi bd)), some (.int (zi a)), some (.int (zi b)), some (.int (zi c))]) (S2 := [.int (zi (z3 + 32768)), .int (zi a)]) rfl (by simp only [zi_add, zi_sub, zi_mul, zi_neg, zi_and1, zi_and7, zi_and15, zi_and31, zi_and255]) (by simp only [zi_add, zi_sub, zi_mul, zi_neg, zi_and1, zi_and7, zi_and15, zi_and31, zi_and255]) ?_
      refine gy_any (fun z4 ez4 az4 bz4 => ?_)
      refine gz_s 1 (pc' := 58) (L' := [some (.int (zi bd)), some (.int (zi a)), some (.int (zi b)), some (.int (zi c))]) (S' := [.int (zi 16), .int (zi z4), .int (zi a)]) rfl ?_
      refine gy_shc (n := 16) (v := 65536) rfl (by decide) (by omega) (by decide) (by decide) rfl ?_
      refine gy_s 1 (pc' := 60) (L' := [some (.int (zi bd)), some (.int (zi a)), some (.int (zi b)), some (.int (zi c))]) (S' := [.int ((zi a) + (zi (z4 / 65536)))]) (L2 := [some (.int (zi bd)), some (.int (zi a)), some (.int (zi b)), some (.int (zi c))]) (S2 := [.int (zi (a + (z4 / 65536)))]) rfl (by simp only [zi_add, zi_sub, zi_mul, zi_neg, zi_and1, zi_and7, zi_and15, zi_and31, zi_and255]) (by simp only [zi_add, zi_sub, zi_mul, zi_neg, zi_and1, zi_and7, zi_and15, zi_and31, zi_and255]) ?_
      refine gy_any (fun z5 ez5 az5 bz5 => ?_)
      refine gz_call rfl (by decide) rfl (by decide) (by decide) (gcal_of rfl rfl rfl (Nat.le_of_ble_eq_true rfl) rfl) (cl_DctFilter_asByte _ hS.1 z5 (by omega) ) (fun q6 _ wq6 => ?_)
      obtain ⟨pq6, oq6, hq6⟩ := q6
      obtain ⟨xq6, zq6, gq6, aq6, bq6⟩ := wq6
      refine ⟨_, gq6, ?_⟩
      show gz gPP gGG gcn _ _ 63 [some (.int (zi bd)), some (.int (zi a)), some (.int (zi b)), some (.int (zi c))] [.int (zi zq6)] hq6 _
      have sq6 : gSs rT 1027 ty [] h hq6 := gSs.tr hS xq6 (by decide)
      exact gz_end (I := .ireturn) (len := 1) rfl (Or.inl rfl) ⟨sq6, zq6, rfl, (by omega), (by omega)⟩
    · refine gy_icF rfl (by decide) (by decide) (by omega) (by omega) hc2 ?_
      refine gy_s 4 (pc' := 32) (L' := [some (.int (zi bd)), some (.int (zi a)), some (.int (zi b)), some (.int (zi c))]) (S' := [.int ((zi 22554) * (zi b)), .int (zi a)]) (L2 := [some (.int (zi bd)), some (.int (zi a)), some (.int (zi b)), some (.int (zi c))]) (S2 := [.int (zi (22554 * b)), .int (zi a)]) rfl (by simp only [zi_add, zi_sub, zi_mul, zi_neg, zi_and1, zi_and7, zi_and15, zi_and31, zi_and255]) (by simp only [zi_add, zi_sub, zi_mul, zi_neg, zi_and1, zi_and7, zi_and15, zi_and31, zi_and255]) ?_
      refine gy_any (fun z7 ez7 az7 bz7 => ?_)
      refine gz_1 rfl (by decide) rfl rfl (pc' := 34) (S' := [.int (zi 46802), .int (zi z7), .int (zi a)]) (h' := h) rfl ?_
      refine gy_s 2 (pc' := 36) (L' := [some (.int (zi bd)), some (.int (zi a)), some (.int (zi b)), some (.int (zi c))]) (S' := [.int ((zi 46802) * (zi c)), .int (zi z7), .int (zi a)]) (L2 := [some (.int (zi bd)), some (.int (zi a)), some (.int (zi b)), some (.int (zi c))]) (S2 := [.int (zi (46802 * c)), .int (zi z7), .int (zi a)]) rfl (by simp only [zi_add, zi_sub, zi_mul, zi_neg, zi_and1, zi_and7, zi_and15, zi_and31, zi_and255]) (by simp only [zi_add, zi_sub, zi_mul, zi_neg, zi_and1, zi_and7, zi_and15, zi_and31, zi_and255]) ?_
      refine gy_any (fun z8 ez8 az8 bz8 => ?_)
      refine gy_s 1 (pc' := 37) (L' := [some (.int (zi bd)), some (.int (zi a)), some (.int (zi b)), some (.int (zi c))]) (S' := [.int ((zi z7) + (zi z8)), .int (zi a)]) (L2 := [some (.int (zi bd)), some (.int (zi a)), some (.int (zi b)), some (.int (zi c))]) (S2 := [.int (zi (z7 + z8)), .int (zi a)]) rfl (by simp only [zi_add, zi_sub, zi_mul, zi_neg, zi_and1, zi_and7, zi_and15, zi_and31, zi_and255]) (by simp only [zi_add, zi_sub, zi_mul, zi_neg, zi_and1, zi_and7, zi_and15, zi_and31, zi_and255]) ?_
      refine gy_any (fun z9 ez9 az9 bz9 => ?_)
      refine gz_1 rfl (by decide) rfl rfl (pc' := 39) (S' := [.int (zi 32768), .int (zi z9), .int (zi a)]) (h' := h) rfl ?_
      refine gy_s 1 (pc' := 40) (L' := [some (.int (zi bd)), some (.int (zi a)), some (.int (zi b)), some (.int (zi c))]) (S' := [.int ((zi z9) + (zi 32768)), .int (zi a)]) (L2 := [some (.int (zi bd)), some (.int (zi a)), some (.int (zi b)), some (.int (zi c))]) (S2 := [.int (zi (z9 + 32768)), .int (zi a)]) rfl (by simp only [zi_add, zi_sub, zi_mul, zi_neg, zi_and1, zi_and7, zi_and15, zi_and31, zi_and255]) (by simp only [zi_add, zi_sub, zi_mul, zi_neg, zi_and1, zi_and7, zi_and15, zi_and31, zi_and255]) ?_
      refine gy_any (fun z10 ez10 az10 bz10 => ?_)
      refine gz_s 1 (pc' := 42) (L' := [some (.int (zi bd)), some (.int (zi a)), some (.int (zi b)), some (.int (zi c))]) (S' := [.int (zi 16), .int (zi z10), .int (zi a)]) rfl ?_
      refine gy_shc (n := 16) (v := 65536) rfl (by decide) (by omega) (by decide) (by decide) rfl ?_
      refine gy_s 1 (pc' := 44) (L' := [some (.int (zi bd)), some (.int (zi a)), some (.int (zi b)), some (.int (zi c))]) (S' := [.int ((zi a) - (zi (z10 / 65536)))]) (L2 := [some (.int (zi bd)), some (.int (zi a)), some (.int (zi b)), some (.int (zi c))]) (S2 := [.int (zi (a - (z10 / 65536)))]) rfl (by simp only [zi_add, zi_sub, zi_mul, zi_neg, zi_and1, zi_and7, zi_and15, zi_and31, zi_and255]) (by simp only [zi_add, zi_sub, zi_mul, zi_neg, zi_and1, zi_and7, zi_and15, zi_and31, zi_and255]) ?_
      refine gy_any (fun z11 ez11 az11 bz11 => ?_)
      refine gz_call rfl (by decide) rfl (by decide) (by decide) (gcal_of rfl rfl rfl (Nat.le_of_ble_eq_true rfl) rfl) (cl_DctFilter_asByte _ hS.1 z11 (by omega) ) (fun q12 _ wq12 => ?_)
      obtain ⟨pq12, oq12, hq12⟩ := q12
      obtain ⟨xq12, zq12, gq12, aq12, bq12⟩ := wq12
      refine ⟨_, gq12, ?_⟩
      show gz gPP gGG gcn _ _ 47 [some (.int (zi bd)), some (.int (zi a)), some (.int (zi b)), some (.int (zi c))] [.int (zi zq12)] hq12 _
      have sq12 : gSs rT 1027 ty [] h hq12 := gSs.tr hS xq12 (by decide)
      exact gz_end (I := .ireturn) (len := 1) rfl (Or.inl rfl) ⟨sq12, zq12, rfl, (by omega), (by omega)⟩
  · refine gy_icF rfl (by decide) (by decide) (by omega) (by omega) hc1 ?_
    refine gz_s 1 (pc' := 6) (L' := [some (.int (zi bd)), some (.int (zi a)), some (.int (zi b)), some (.int (zi c))]) (S' := [.int (zi a)]) rfl ?_
    refine gz_1 rfl (by decide) rfl rfl (pc' := 8) (S' := [.int (zi 91881), .int (zi a)]) (h' := h) rfl ?_
    refine gy_s 2 (pc' := 10) (L' := [some (.int (zi bd)), some (.int (zi a)), some (.int (zi b)), some (.int (zi c))]) (S' := [.int ((zi 91881) * (zi c)), .int (zi a)]) (L2 := [some (.int (zi bd)), some (.int (zi a)), some (.int (zi b)), some (.int (zi c))]) (S2 := [.int (zi (91881 * c)), .int (zi a)]) rfl (by simp only [zi_add, zi_sub, zi_mul, zi_neg, zi_and1, zi_and7, zi_and15, zi_and31, zi_and255]) (by simp only [zi_add, zi_sub, zi_mul, zi_neg, zi_and1, zi_and7, zi_and15, zi_and31, zi_and255]) ?_
    refine gy_any (fun z13 ez13 az13 bz13 => ?_)
    refine gz_1 rfl (by decide) rfl rfl (pc' := 12) (S' := [.int (zi 32768), .int (zi z13), .int (zi a)]) (h' := h) rfl ?_
    refine gy_s 1 (pc' := 13) (L' := [some (.int (zi bd)), some (.int (zi a)), some (.int (zi b)), some (.int (zi c))]) (S' := [.int ((zi z13) + (zi 32768)), .int (zi a)]) (L2 := [some (.int (zi bd)), some (.int (zi a)), some (.int (zi b)), some (.int (zi c))]) (S2 := [.int (zi (z13 + 32768)), .int (zi a)]) rfl (by simp only [zi_add, zi_sub, zi_mul, zi_neg, zi_and1, zi_and7, zi_and15, zi_and31, zi_and255]) (by simp only [zi_add, zi_sub, zi_mul, zi_neg, zi_and1, zi_and7, zi_and15, zi_and31, zi_and255]) ?_
    refine gy_any (fun z14 ez14 az14 bz14 => ?_)
    refine gz_s 1 (pc' := 15) (L' := [some (.int (zi bd)), some (.int (zi a)), some (.int (zi b)), some (.int (zi c))]) (S' := [.int (zi 16), .int (zi z14), .int (zi a)]) rfl ?_
    refine gy_shc (n := 16) (v := 65536) rfl (by decide) (by omega) (by decide) (by decide) rfl ?_
    refine gy_s 1 (pc' := 17) (L' := [some (.int (zi bd)), some (.int (zi a)), some (.int (zi b)), some (.int (zi c))]) (S' := [.int ((zi a) + (zi (z14 / 65536)))]) (L2 := [some (.int (zi bd)), some (.int (zi a)), some (.int (zi b)), some (.int (zi c))]) (S2 := [.int (zi (a + (z14 / 65536)))]) rfl (by simp only [zi_add, zi_sub, zi_mul, zi_neg, zi_and1, zi_and7, zi_and15, zi_and31, zi_and255]) (by simp only [zi_add, zi_sub, zi_mul, zi_neg, zi_and1, zi_and7, zi_and15, zi_and31, zi_and255]) ?_
    refine gy_any (fun z15 ez15 az15 bz15 => ?_)
    refine gz_call rfl (by decide) rfl (by decide) (by decide) (gcal_of rfl rfl rfl (Nat.le_of_ble_eq_true rfl) rfl) (cl_DctFilter_asByte _ hS.1 z15 (by omega) ) (fun q16 _ wq16 => ?_)
    obtain ⟨pq16, oq16, hq16⟩ := q16
    obtain ⟨xq16, zq16, gq16, aq16, bq16⟩ := wq16
    refine ⟨_, gq16, ?_⟩
    show gz gPP gGG gcn _ _ 20 [some (.int (zi bd)), some (.int (zi a)), some (.int (zi b)), some (.int (zi c))] [.int (zi zq16)] hq16 _
    have sq16 : gSs rT 1027 ty [] h hq16 := gSs.tr hS xq16 (by decide)
    exact gz_end (I := .ireturn) (len := 1) rfl (Or.inl rfl) ⟨sq16, zq16, rfl, (by omega), (by omega)⟩
set_option maxRecDepth 20000 in
set_option maxHeartbeats 4000000 in
theorem cl_DctFilter_add (d : Nat) {ty : Nat → Nat} {h : gH} (hJ : gJ rT 1027 ty h) (x : Nat) (tx : ty x = 50) (b : Int) (rb : (-128) ≤ b ∧ b ≤ 127) (col : Nat) (ecol : h.2.2.2.2 x 0 = .ref col) (tcol : ty col = 51) (sz : Int) (esz : h.2.2.2.2 col 1 = .int (zi sz)) (rsz : 0 ≤ sz ∧ sz ≤ 2000) (uq : gUq ty) : gz gPP gGG gcn (d + 1) gt68 0 (gent [.ref x, .int (zi b)] 2) [] h (fun q _ => gSs rT 1027 ty [51001, 52999] h q.2.2 ∧ ((gfin gt68 q.1 q.2.1 = some none) ∨ (q.2.1 = [] ∧ ((q.1 = 13))))) := by
  have hS : gSs rT 1027 ty [51001, 52999] h h := gSs.rf hJ
  refine gz_s 1 (pc' := 1) (L' := [some (.ref x), some (.int (zi b))]) (S' := [.ref x]) rfl ?_
  refine gs_gtk rfl (by decide) rfl hS.1 tx rfl rfl ecol ?_
  refine gs_gtk rfl (by decide) rfl hS.1 tcol rfl rfl esz ?_
  refine gz_s 1 (pc' := 10) (L' := [some (.ref x), some (.int (zi b))]) (S' := [.int (zi 2000), .int (zi sz)]) rfl ?_
  by_cases hc1 : (sz : Int) < 2000
  · refine gy_icT (pc' := 23) rfl (by decide) (by decide) (by omega) (by omega) hc1 ?_
    refine gz_s 1 (pc' := 24) (L' := [some (.ref x), some (.int (zi b))]) (S' := [.ref x]) rfl ?_
    refine gs_gtk rfl (by decide) rfl hS.1 tx rfl rfl ecol ?_
    refine gz_s 1 (pc' := 28) (L' := [some (.ref x), some (.int (zi b))]) (S' := [.int (zi b), .ref col]) rfl ?_
    refine gz_call rfl (by decide) rfl (by decide) (by decide) (gcal_of rfl rfl rfl (Nat.le_of_ble_eq_true rfl) (gJ.recv (G := gGG) hS.1 tcol rfl rfl)) (cl_Collected_append _ hS.1 col tcol b (by omega) sz esz (by omega) uq) (fun q2 _ wq2 => ?_)
    obtain ⟨pq2, oq2, hq2⟩ := q2
    obtain ⟨xq2, gq2⟩ := wq2
    refine ⟨_, gq2, ?_⟩
    show gz gPP gGG gcn _ _ 31 [some (.ref x), some (.int (zi b))] [] hq2 _
    have sq2 : gSs rT 1027 ty [51001, 52999] h hq2 := gSs.tr hS xq2 (by decide)
    have s3 := (xq2.2.2.2.2.2 x 0 (by rw [tx]; decide)).trans ecol
    exact gz_end (I := .return_) (len := 1) rfl (Or.inl rfl) ⟨sq2, Or.inl rfl⟩
  · refine gy_icF rfl (by decide) (by decide) (by omega) (by omega) hc1 ?_
    exact gz_end (I := .new 51) (len := 3) rfl (Or.inr (by decide)) ⟨hS, Or.inr ⟨rfl, rfl⟩⟩
set_option maxRecDepth 20000 in
set_option maxHeartbeats 4000000 in
theorem cl_DctFilter_sample (d : Nat) {ty : Nat → Nat} {h : gH} (hJ : gJ rT 1027 ty h) (x : Nat) (tx : ty x = 50) (a : Int) (ra : (-2147483648) ≤ a ∧ a ≤ 2147483647) (b : Int) (rb : (-2147483648) ≤ b ∧ b ≤ 2147483647) (c : Int) (rc : (-2147483648) ≤ c ∧ c ≤ 2147483647) (pic : Nat) (epic : h.2.2.2.2 x 2 = .ref pic) (tpic : ty pic = 54) (bn : Nat) (ebn : h.2.2.2.2 pic 0 = .ref bn) (tbn : ty bn = 57) (b0 : Nat) (eb0 : h.2.2.2.2 bn 0 = .ref b0) (tb0 : ty b0 = 82) (b1 : Nat) (eb1 : h.2.2.2.2 bn 1 = .ref b1) (tb1 : ty b1 = 83) (b2 : Nat) (eb2 : h.2.2.2.2 bn 2 = .ref b2) (tb2 : ty b2 = 84) (hyst : gSta ty h) (ld : Int) (rld : 0 ≤ ld ∧ ld ≤ 192) (uq : gUq ty) (hypc : gPC ty pic b0 b1 b2 ld h) : gz gPP gGG gcn (d + 3) gt70 0 (gent [.ref x, .int (zi a), .int (zi b), .int (zi c)] 8) [] h (fun q _ => gSs rT 1027 ty [] h q.2.2 ∧ ((∃ z : Int, gfin gt70 q.1 q.2.1 = some (some (.int (zi z))) ∧ (-2147483648) ≤ z ∧ z ≤ 2147483647) ∨ (q.2.1 = [] ∧ ((q.1 = 67))))) := by
  have hS : gSs rT 1027 ty [] h h := gSs.rf hJ
  have hpq1 := hypc
  obtain ⟨_, bno, coo, dmo, vvo, ⟨tbno, tcoo, tdmo⟩, ⟨er0o, er1o, er2o, er3o, er4o, er5o⟩, hvvo, hrro, ⟨yy0o, yy1o, yy2o, yy3o, yy4o, yy5o, yy6o, yy7o⟩, ll0o, ll1o, ll2o, ll3o⟩ := hpq1
  have excno : h.2.2.2.2 pic 7 = .int (zi (vvo 0)) := hvvo (0, 7, 0) (by decide)
  have rrcno : 0 ≤ vvo 0 ∧ vvo 0 ≤ 3 := hrro (0, 0, 3) (by decide)
  have exuco : h.2.2.2.2 pic 12 = .int (zi (vvo 1)) := hvvo (0, 12, 1) (by decide)
  have rruco : 0 ≤ vvo 1 ∧ vvo 1 ≤ 8 := hrro (1, 0, 8) (by decide)
  have exuro : h.2.2.2.2 pic 13 = .int (zi (vvo 2)) := hvvo (0, 13, 2) (by decide)
  have rruro : 0 ≤ vvo 2 ∧ vvo 2 ≤ 8 := hrro (2, 0, 8) (by decide)
  have exblo : h.2.2.2.2 pic 8 = .int (zi (vvo 3)) := hvvo (0, 8, 3) (by decide)
  have rrblo : 0 ≤ vvo 3 ∧ vvo 3 ≤ 192 := hrro (3, 0, 192) (by decide)
  have exwo : h.2.2.2.2 pic 5 = .int (zi (vvo 4)) := hvvo (0, 5, 4) (by decide)
  have rrwo : 0 ≤ vvo 4 ∧ vvo 4 ≤ 64 := hrro (4, 0, 64) (by decide)
  have exhho : h.2.2.2.2 pic 6 = .int (zi (vvo 5)) := hvvo (0, 6, 5) (by decide)
  have rrhho : 0 ≤ vvo 5 ∧ vvo 5 ≤ 64 := hrro (5, 0, 64) (by decide)
  have exgho : h.2.2.2.2 pic 10 = .int (zi (vvo 6)) := hvvo (0, 10, 6) (by decide)
  have rrgho : 1 ≤ vvo 6 ∧ vvo 6 ≤ 2 := hrro (6, 1, 2) (by decide)
  have exgvo : h.2.2.2.2 pic 11 = .int (zi (vvo 7)) := hvvo (0, 11, 7) (by decide)
  have rrgvo : 1 ≤ vvo 7 ∧ vvo 7 ≤ 2 := hrro (7, 1, 2) (by decide)
  have exhb0o : h.2.2.2.2 b0 1 = .int (zi (vvo 8)) := hvvo (1, 1, 8) (by decide)
  have rrhb0o : (-1) ≤ vvo 8 ∧ vvo 8 ≤ 15 := hrro (8, (-1), 15) (by decide)
  have exvb0o : h.2.2.2.2 b0 2 = .int (zi (vvo 9)) := hvvo (1, 2, 9) (by decide)
  have rrvb0o : 0 ≤ vvo 9 ∧ vvo 9 ≤ 15 := hrro (9, 0, 15) (by decide)
  have extq0o : h.2.2.2.2 b0 3 = .int (zi (vvo 10)) := hvvo (1, 3, 10) (by decide)
  have rrtq0o : (-1) ≤ vvo 10 ∧ vvo 10 ≤ 255 := hrro (10, (-1), 255) (by decide)
  have exC0o : h.2.2.2.2 b0 4 = .int (zi (vvo 11)) := hvvo (1, 4, 11) (by decide)
  have rrC0o : 0 ≤ vvo 11 ∧ vvo 11 ≤ 16 := hrro (11, 0, 16) (by decide)
  have exR0o : h.2.2.2.2 b0 5 = .int (zi (vvo 12)) := hvvo (1, 5, 12) (by decide)
  have rrR0o : 0 ≤ vvo 12 ∧ vvo 12 ≤ 16 := hrro (12, 0, 16) (by decide)
  have exoc0o : h.2.2.2.2 b0 6 = .int (zi (vvo 13)) := hvvo (1, 6, 13) (by decide)
  have rroc0o : 0 ≤ vvo 13 ∧ vvo 13 ≤ 16 := hrro (13, 0, 16) (by decide)
  have exor0o : h.2.2.2.2 b0 7 = .int (zi (vvo 14)) := hvvo (1, 7, 14) (by decide)
  have rror0o : 0 ≤ vvo 14 ∧ vvo 14 ≤ 16 := hrro (14, 0, 16) (by decide)
  have exf0o : h.2.2.2.2 b0 8 = .int (zi (vvo 15)) := hvvo (1, 8, 15) (by decide)
  have rrf0o : 0 ≤ vvo 15 ∧ vvo 15 ≤ 192 := hrro (15, 0, 192) (by decide)
  have exhb1o : h.2.2.2.2 b1 1 = .int (zi (vvo 16)) := hvvo (2, 1, 16) (by decide)
  have rrhb1o : (-1) ≤ vvo 16 ∧ vvo 16 ≤ 15 := hrro (16, (-1), 15) (by decide)
  have exvb1o : h.2.2.2.2 b1 2 = .int (zi (vvo 17)) := hvvo (2, 2, 17) (by decide)
  have rrvb1o : 0 ≤ vvo 17 ∧ vvo 17 ≤ 15 := hrro (17, 0, 15) (by decide)
  have extq1o : h.2.2.2.2 b1 3 = .int (zi (vvo 18)) := hvvo (2, 3, 18) (by decide)
  have rrtq1o : (-1) ≤ vvo 18 ∧ vvo 18 ≤ 255 := hrro (18, (-1), 255) (by decide)
  have exC1o : h.2.2.2.2 b1 4 = .int (zi (vvo 19)) := hvvo (2, 4, 19) (by decide)
  have rrC1o : 0 ≤ vvo 19 ∧ vvo 19 ≤ 16 := hrro (19, 0, 16) (by decide)
  have exR1o : h.2.2.2.2 b1 5 = .int (zi (vvo 20)) := hvvo (2, 5, 20) (by decide)
  have rrR1o : 0 ≤ vvo 20 ∧ vvo 20 ≤ 16 := hrro (20, 0, 16) (by decide)
  have exoc1o : h.2.2.2.2 b1 6 = .int (zi (vvo 21)) := hvvo (2, 6, 21) (by decide)
  have rroc1o : 0 ≤ vvo 21 ∧ vvo 21 ≤ 16 := hrro (21, 0, 16) (by decide)
  have exor1o : h.2.2.2.2 b1 7 = .int (zi (vvo 22)) := hvvo (2, 7, 22) (by decide)
  have rror1o : 0 ≤ vvo 22 ∧ vvo 22 ≤ 16 := hrro (22, 0, 16) (by decide)
  have exf1o : h.2.2.2.2 b1 8 = .int (zi (vvo 23)) := hvvo (2, 8, 23) (by decide)
  have rrf1o : 0 ≤ vvo 23 ∧ vvo 23 ≤ 192 := hrro (23, 0, 192) (by decide)
  have exhb2o : h.2.2.2.2 b2 1 = .int (zi (vvo 24)) := hvvo (3, 1, 24) (by decide)
  have rrhb2o : (-1) ≤ vvo 24 ∧ vvo 24 ≤ 15 := hrro (24, (-1), 15) (by decide)
  have exvb2o : h.2.2.2.2 b2 2 = .int (zi (vvo 25)) := hvvo (3, 2, 25) (by decide)
  have rrvb2o : 0 ≤ vvo 25 ∧ vvo 25 ≤ 15 := hrro (25, 0, 15) (by decide)
  have extq2o : h.2.2.2.2 b2 3 = .int (zi (vvo 26)) := hvvo (3, 3, 26) (by decide)
  have rrtq2o : (-1) ≤ vvo 26 ∧ vvo 26 ≤ 255 := hrro (26, (-1), 255) (by decide)
  have exC2o : h.2.2.2.2 b2 4 = .int (zi (vvo 27)) := hvvo (3, 4, 27) (by decide)
  have rrC2o : 0 ≤ vvo 27 ∧ vvo 27 ≤ 16 := hrro (27, 0, 16) (by decide)
  have exR2o : h.2.2.2.2 b2 5 = .int (zi (vvo 28)) := hvvo (3, 5, 28) (by decide)
  have rrR2o : 0 ≤ vvo 28 ∧ vvo 28 ≤ 16 := hrro (28, 0, 16) (by decide)
  have exoc2o : h.2.2.2.2 b2 6 = .int (zi (vvo 29)) := hvvo (3, 6, 29) (by decide)
  have rroc2o : 0 ≤ vvo 29 ∧ vvo 29 ≤ 16 := hrro (29, 0, 16) (by decide)
  have exor2o : h.2.2.2.2 b2 7 = .int (zi (vvo 30)) := hvvo (3, 7, 30) (by decide)
  have rror2o : 0 ≤ vvo 30 ∧ vvo 30 ≤ 16 := hrro (30, 0, 16) (by decide)
  have exf2o : h.2.2.2.2 b2 8 = .int (zi (vvo 31)) := hvvo (3, 8, 31) (by decide)
  have rrf2o : 0 ≤ vvo 31 ∧ vvo 31 ≤ 192 := hrro (31, 0, 192) (by decide)
  refine gz_s 1 (pc' := 1) (L' := [some (.ref x), some (.int (zi a)), some (.int (zi b)), some (.int (zi c)), none, none, none, none]) (S' := [.int (zi c)]) rfl ?_
  have jn2 : ∀ (jn2v0 : Int), ((0 ≤ jn2v0) ∧ (jn2v0 ≤ 1) ∧ (jn2v0 = 1 → (0 ≤ c ∧ (c < vvo 0 ∨ (3 ≤ c ∧ c ≤ 5))))) → gz gPP gGG gcn (d + 3) gt70 30 [some (.ref x), some (.int (zi a)), some (.int (zi b)), some (.int (zi c)), none, none, none, none] [.int (zi jn2v0)] h (fun q _ => gSs rT 1027 ty [] h q.2.2 ∧ ((∃ z : Int, gfin gt70 q.1 q.2.1 = some (some (.int (zi z))) ∧ (-2147483648) ≤ z ∧ z ≤ 2147483647) ∨ (q.2.1 = [] ∧ ((q.1 = 67))))) := by
    intro jn2v0 jn2d
    refine gz_s 2 (pc' := 34) (L' := [some (.ref x), some (.int (zi a)), some (.int (zi b)), some (.int (zi c)), some (.int (zi jn2v0)), none, none, none]) (S' := [.int (zi jn2v0)]) rfl ?_
    by_cases hc3 : (jn2v0 : Int) = 0
    · refine gy_ifT (pc' := 67) rfl (by decide) (by decide) (by omega) hc3 ?_
      exact gz_end (I := .new 84) (len := 3) rfl (Or.inr (by decide)) ⟨hS, Or.inr ⟨rfl, rfl⟩⟩
    · refine gy_ifF rfl (by decide) (by decide) (by omega) hc3 ?_
      refine gz_s 1 (pc' := 38) (L' := [some (.ref x), some (.int (zi a)), some (.int (zi b)), some (.int (zi c)), some (.int (zi jn2v0)), none, none, none]) (S' := [.int (zi a)]) rfl ?_
      by_cases hc4 : (a : Int) < 0
      · refine gy_ifT (pc' := 67) rfl (by decide) (by decide) (by omega) hc4 ?_
        exact gz_end (I := .new 84) (len := 3) rfl (Or.inr (by decide)) ⟨hS, Or.inr ⟨rfl, rfl⟩⟩
      · refine gy_ifF rfl (by decide) (by decide) (by omega) hc4 ?_
        refine gz_s 2 (pc' := 43) (L' := [some (.ref x), some (.int (zi a)), some (.int (zi b)), some (.int (zi c)), some (.int (zi jn2v0)), none, none, none]) (S' := [.ref x, .int (zi a)]) rfl ?_
        refine gs_gtk rfl (by decide) rfl hS.1 tx rfl rfl epic ?_
        refine gs_gtk rfl (by decide) rfl hS.1 tpic rfl rfl exwo ?_
        by_cases hc5 : (vvo 4 : Int) ≤ a
        · refine gy_icT (pc' := 67) rfl (by decide) (by decide) (by omega) (by omega) hc5 ?_
          exact gz_end (I := .new 84) (len := 3) rfl (Or.inr (by decide)) ⟨hS, Or.inr ⟨rfl, rfl⟩⟩
        · refine gy_icF rfl (by decide) (by decide) (by omega) (by omega) hc5 ?_
          refine gz_s 1 (pc' := 53) (L' := [some (.ref x), some (.int (zi a)), some (.int (zi b)), some (.int (zi c)), some (.int (zi jn2v0)), none, none, none]) (S' := [.int (zi b)]) rfl ?_
          by_cases hc6 : (b : Int) < 0
          · refine gy_ifT (pc' := 67) rfl (by decide) (by decide) (by omega) hc6 ?_
            exact gz_end (I := .new 84) (len := 3) rfl (Or.inr (by decide)) ⟨hS, Or.inr ⟨rfl, rfl⟩⟩
          · refine gy_ifF rfl (by decide) (by decide) (by omega) hc6 ?_
            refine gz_s 2 (pc' := 58) (L' := [some (.ref x), some (.int (zi a)), some (.int (zi b)), some (.int (zi c)), some (.int (zi jn2v0)), none, none, none]) (S' := [.ref x, .int (zi b)]) rfl ?_
            refine gs_gtk rfl (by decide) rfl hS.1 tx rfl rfl epic ?_
            refine gs_gtk rfl (by decide) rfl hS.1 tpic rfl rfl exhho ?_
            by_cases hc7 : (b : Int) < vvo 5
            · refine gy_icT (pc' := 77) rfl (by decide) (by decide) (by omega) (by omega) hc7 ?_
              refine gz_s 2 (pc' := 79) (L' := [some (.ref x), some (.int (zi a)), some (.int (zi b)), some (.int (zi c)), some (.int (zi jn2v0)), none, none, none]) (S' := [.ref x, .int (zi c)]) rfl ?_
              refine gs_gtk rfl (by decide) rfl hS.1 tx rfl rfl epic ?_
              refine gs_gtk rfl (by decide) rfl hS.1 tpic rfl rfl excno ?_
              by_cases hc8 : (vvo 0 : Int) ≤ c
              · refine gy_icT (pc' := 99) rfl (by decide) (by decide) (by omega) (by omega) hc8 ?_
                refine gz_s 1 (pc' := 100) (L' := [some (.ref x), some (.int (zi a)), some (.int (zi b)), some (.int (zi c)), some (.int (zi jn2v0)), none, none, none]) (S' := [.ref x]) rfl ?_
                refine gs_gtk rfl (by decide) rfl hS.1 tx rfl rfl epic ?_
                refine gz_s 3 (pc' := 106) (L' := [some (.ref x), some (.int (zi a)), some (.int (zi b)), some (.int (zi c)), some (.int (zi jn2v0)), none, none, none]) (S' := [.int (zi b), .int (zi a), .int (zi 0), .ref pic]) rfl ?_
                have hl9 : h.2.2.2.1 coo = h.2.2.2.1 coo := congrFun hS.2.2.2.2.1 coo
                refine gz_call rfl (by decide) rfl (by decide) (by decide) (gcal_of rfl rfl rfl (Nat.le_of_ble_eq_true rfl) (gJ.recv (G := gGG) hS.1 tpic rfl rfl)) (cl_Picture_sampleAt _ hS.1 pic tpic 0 (by omega) a (by omega) b (by omega) bn ebn tbn b0 eb0 tb0 b1 eb1 tb1 b2 eb2 tb2 coo er4o tcoo (gSta.fr hS.2 (by decide) hyst) (vvo 0) excno (by omega) (vvo 1) exuco (by omega) (vvo 2) exuro (by omega) (vvo 3) exblo (by omega) (vvo 4) exwo (by omega) (vvo 5) exhho (by omega) (vvo 6) exgho (by omega) (vvo 7) exgvo (by omega) (vvo 8) exhb0o (by omega) (vvo 9) exvb0o (by omega) (vvo 11) exC0o (by omega) (vvo 12) exR0o (by omega) (vvo 13) exoc0o (by omega) (vvo 14) exor0o (by omega) (vvo 15) exf0o (by omega) (vvo 16) exhb1o (by omega) (vvo 17) exvb1o (by omega) (vvo 19) exC1o (by omega) (vvo 20) exR1o (by omega) (vvo 21) exoc1o (by omega) (vvo 22) exor1o (by omega) (vvo 23) exf1o (by omega) (vvo 24) exhb2o (by omega) (vvo 25) exvb2o (by omega) (vvo 27) exC2o (by omega) (vvo 28) exR2o (by omega) (vvo 29) exoc2o (by omega) (vvo 30) exor2o (by omega) (vvo 31) exf2o (by omega) (vvo 10) extq0o (by omega) (vvo 18) extq1o (by omega) (vvo 26) extq2o (by omega) (by omega) (by omega) (by omega) (by omega) uq yy0o yy1o yy2o yy3o yy4o yy5o yy7o) (fun q10 _ wq10 => ?_)
                obtain ⟨pq10, oq10, hq10⟩ := q10
                obtain ⟨xq10, zq10, gq10, aq10, bq10⟩ := wq10
                refine ⟨_, gq10, ?_⟩
                show gz gPP gGG gcn _ _ 109 [some (.ref x), some (.int (zi a)), some (.int (zi b)), some (.int (zi c)), some (.int (zi jn2v0)), none, none, none] [.int (zi zq10)] hq10 _
                have sq10 : gSs rT 1027 ty [] h hq10 := gSs.tr hS xq10 (by decide)
                have s11 := (xq10.2.2.2.2.2 x 2 (by rw [tx]; decide)).trans epic
                have s12 := (xq10.2.2.2.2.2 pic 0 (by rw [tpic]; decide)).trans ebn
                have s13 := (xq10.2.2.2.2.2 bn 0 (by rw [tbn]; decide)).trans eb0
                have s14 := (xq10.2.2.2.2.2 bn 1 (by rw [tbn]; decide)).trans eb1
                have s15 := (xq10.2.2.2.2.2 bn 2 (by rw [tbn]; decide)).trans eb2
                have s16 := (xq10.2.2.2.2.2 pic 2 (by rw [tpic]; decide)).trans er4o
                have s17 := (xq10.2.2.2.2.2 pic 3 (by rw [tpic]; decide)).trans er5o
                have s18 := (xq10.2.2.2.2.2 pic 7 (by rw [tpic]; decide)).trans excno
                have s19 := (xq10.2.2.2.2.2 pic 12 (by rw [tpic]; decide)).trans exuco
                have s20 := (xq10.2.2.2.2.2 pic 13 (by rw [tpic]; decide)).trans exuro
                have s21 := (xq10.2.2.2.2.2 pic 8 (by rw [tpic]; decide)).trans exblo
                have s22 := (xq10.2.2.2.2.2 pic 5 (by rw [tpic]; decide)).trans exwo
                have s23 := (xq10.2.2.2.2.2 pic 6 (by rw [tpic]; decide)).trans exhho
                have s24 := (xq10.2.2.2.2.2 pic 10 (by rw [tpic]; decide)).trans exgho
                have s25 := (xq10.2.2.2.2.2 pic 11 (by rw [tpic]; decide)).trans exgvo
                have s26 := (xq10.2.2.2.2.2 b0 1 (by rw [tb0]; decide)).trans exhb0o
                have s27 := (xq10.2.2.2.2.2 b0 2 (by rw [tb0]; decide)).trans exvb0o
                have s28 := (xq10.2.2.2.2.2 b0 3 (by rw [tb0]; decide)).trans extq0o
                have s29 := (xq10.2.2.2.2.2 b0 4 (by rw [tb0]; decide)).trans exC0o
                have s30 := (xq10.2.2.2.2.2 b0 5 (by rw [tb0]; decide)).trans exR0o
                have s31 := (xq10.2.2.2.2.2 b0 6 (by rw [tb0]; decide)).trans exoc0o
                have s32 := (xq10.2.2.2.2.2 b0 7 (by rw [tb0]; decide)).trans exor0o
                have s33 := (xq10.2.2.2.2.2 b0 8 (by rw [tb0]; decide)).trans exf0o
                have s34 := (xq10.2.2.2.2.2 b1 1 (by rw [tb1]; decide)).trans exhb1o
                have s35 := (xq10.2.2.2.2.2 b1 2 (by rw [tb1]; decide)).trans exvb1o
                have s36 := (xq10.2.2.2.2.2 b1 3 (by rw [tb1]; decide)).trans extq1o
                have s37 := (xq10.2.2.2.2.2 b1 4 (by rw [tb1]; decide)).trans exC1o
                have s38 := (xq10.2.2.2.2.2 b1 5 (by rw [tb1]; decide)).trans exR1o
                have s39 := (xq10.2.2.2.2.2 b1 6 (by rw [tb1]; decide)).trans exoc1o
                have s40 := (xq10.2.2.2.2.2 b1 7 (by rw [tb1]; decide)).trans exor1o
                have s41 := (xq10.2.2.2.2.2 b1 8 (by rw [tb1]; decide)).trans exf1o
                have s42 := (xq10.2.2.2.2.2 b2 1 (by rw [tb2]; decide)).trans exhb2o
                have s43 := (xq10.2.2.2.2.2 b2 2 (by rw [tb2]; decide)).trans exvb2o
                have s44 := (xq10.2.2.2.2.2 b2 3 (by rw [tb2]; decide)).trans extq2o
                have s45 := (xq10.2.2.2.2.2 b2 4 (by rw [tb2]; decide)).trans exC2o
                have s46 := (xq10.2.2.2.2.2 b2 5 (by rw [tb2]; decide)).trans exR2o
                have s47 := (xq10.2.2.2.2.2 b2 6 (by rw [tb2]; decide)).trans exoc2o
                have s48 := (xq10.2.2.2.2.2 b2 7 (by rw [tb2]; decide)).trans exor2o
                have s49 := (xq10.2.2.2.2.2 b2 8 (by rw [tb2]; decide)).trans exf2o
                have pr50 := gPC.fr xq10.2 (by decide) hypc
                refine gz_s 2 (pc' := 112) (L' := [some (.ref x), some (.int (zi a)), some (.int (zi b)), some (.int (zi c)), some (.int (zi jn2v0)), some (.int (zi zq10)), none, none]) (S' := [.ref x]) rfl ?_
                refine gs_gtk rfl (by decide) rfl sq10.1 tx rfl rfl s11 ?_
                refine gs_gtk rfl (by decide) rfl sq10.1 tpic rfl rfl s18 ?_
                refine gz_s 1 (pc' := 119) (L' := [some (.ref x), some (.int (zi a)), some (.int (zi b)), some (.int (zi c)), some (.int (zi jn2v0)), some (.int (zi zq10)), none, none]) (S' := [.int (zi 3), .int (zi (vvo 0))]) rfl ?_
                by_cases hc51 : (3 : Int) ≤ vvo 0
                · refine gy_icT (pc' := 125) rfl (by decide) (by decide) (by omega) (by omega) hc51 ?_
                  refine gz_s 1 (pc' := 126) (L' := [some (.ref x), some (.int (zi a)), some (.int (zi b)), some (.int (zi c)), some (.int (zi jn2v0)), some (.int (zi zq10)), none, none]) (S' := [.ref x]) rfl ?_
                  refine gs_gtk rfl (by decide) rfl sq10.1 tx rfl rfl s11 ?_
                  refine gz_s 3 (pc' := 132) (L' := [some (.ref x), some (.int (zi a)), some (.int (zi b)), some (.int (zi c)), some (.int (zi jn2v0)), some (.int (zi zq10)), none, none]) (S' := [.int (zi b), .int (zi a), .int (zi 1), .ref pic]) rfl ?_
                  have hl52 : hq10.2.2.2.1 coo = h.2.2.2.1 coo := congrFun sq10.2.2.2.2.1 coo
                  refine gz_call rfl (by decide) rfl (by decide) (by decide) (gcal_of rfl rfl rfl (Nat.le_of_ble_eq_true rfl) (gJ.recv (G := gGG) sq10.1 tpic rfl rfl)) (cl_Picture_sampleAt _ sq10.1 pic tpic 1 (by omega) a (by omega) b (by omega) bn s12 tbn b0 s13 tb0 b1 s14 tb1 b2 s15 tb2 coo s16 tcoo (gSta.fr sq10.2 (by decide) hyst) (vvo 0) s18 (by omega) (vvo 1) s19 (by omega) (vvo 2) s20 (by omega) (vvo 3) s21 (by omega) (vvo 4) s22 (by omega) (vvo 5) s23 (by omega) (vvo 6) s24 (by omega) (vvo 7) s25 (by omega) (vvo 8) s26 (by omega) (vvo 9) s27 (by omega) (vvo 11) s29 (by omega) (vvo 12) s30 (by omega) (vvo 13) s31 (by omega) (vvo 14) s32 (by omega) (vvo 15) s33 (by omega) (vvo 16) s34 (by omega) (vvo 17) s35 (by omega) (vvo 19) s37 (by omega) (vvo 20) s38 (by omega) (vvo 21) s39 (by omega) (vvo 22) s40 (by omega) (vvo 23) s41 (by omega) (vvo 24) s42 (by omega) (vvo 25) s43 (by omega) (vvo 27) s45 (by omega) (vvo 28) s46 (by omega) (vvo 29) s47 (by omega) (vvo 30) s48 (by omega) (vvo 31) s49 (by omega) (vvo 10) s28 (by omega) (vvo 18) s36 (by omega) (vvo 26) s44 (by omega) (by omega) (by omega) (by omega) (by omega) uq yy0o yy1o yy2o yy3o yy4o yy5o yy7o) (fun q53 _ wq53 => ?_)
                  obtain ⟨pq53, oq53, hq53⟩ := q53
                  obtain ⟨xq53, zq53, gq53, aq53, bq53⟩ := wq53
                  refine ⟨_, gq53, ?_⟩
                  show gz gPP gGG gcn _ _ 135 [some (.ref x), some (.int (zi a)), some (.int (zi b)), some (.int (zi c)), some (.int (zi jn2v0)), some (.int (zi zq10)), none, none] [.int (zi zq53)] hq53 _
                  have sq53 : gSs rT 1027 ty [] h hq53 := gSs.tr sq10 xq53 (by decide)
                  have s54 := (xq53.2.2.2.2.2 x 2 (by rw [tx]; decide)).trans s11
                  have s55 := (xq53.2.2.2.2.2 pic 0 (by rw [tpic]; decide)).trans s12
                  have s56 := (xq53.2.2.2.2.2 bn 0 (by rw [tbn]; decide)).trans s13
                  have s57 := (xq53.2.2.2.2.2 bn 1 (by rw [tbn]; decide)).trans s14
                  have s58 := (xq53.2.2.2.2.2 bn 2 (by rw [tbn]; decide)).trans s15
                  have s59 := (xq53.2.2.2.2.2 pic 2 (by rw [tpic]; decide)).trans s16
                  have s60 := (xq53.2.2.2.2.2 pic 3 (by rw [tpic]; decide)).trans s17
                  have s61 := (xq53.2.2.2.2.2 pic 7 (by rw [tpic]; decide)).trans s18
                  have s62 := (xq53.2.2.2.2.2 pic 12 (by rw [tpic]; decide)).trans s19
                  have s63 := (xq53.2.2.2.2.2 pic 13 (by rw [tpic]; decide)).trans s20
                  have s64 := (xq53.2.2.2.2.2 pic 8 (by rw [tpic]; decide)).trans s21
                  have s65 := (xq53.2.2.2.2.2 pic 5 (by rw [tpic]; decide)).trans s22
                  have s66 := (xq53.2.2.2.2.2 pic 6 (by rw [tpic]; decide)).trans s23
                  have s67 := (xq53.2.2.2.2.2 pic 10 (by rw [tpic]; decide)).trans s24
                  have s68 := (xq53.2.2.2.2.2 pic 11 (by rw [tpic]; decide)).trans s25
                  have s69 := (xq53.2.2.2.2.2 b0 1 (by rw [tb0]; decide)).trans s26
                  have s70 := (xq53.2.2.2.2.2 b0 2 (by rw [tb0]; decide)).trans s27
                  have s71 := (xq53.2.2.2.2.2 b0 3 (by rw [tb0]; decide)).trans s28
                  have s72 := (xq53.2.2.2.2.2 b0 4 (by rw [tb0]; decide)).trans s29
                  have s73 := (xq53.2.2.2.2.2 b0 5 (by rw [tb0]; decide)).trans s30
                  have s74 := (xq53.2.2.2.2.2 b0 6 (by rw [tb0]; decide)).trans s31
                  have s75 := (xq53.2.2.2.2.2 b0 7 (by rw [tb0]; decide)).trans s32
                  have s76 := (xq53.2.2.2.2.2 b0 8 (by rw [tb0]; decide)).trans s33
                  have s77 := (xq53.2.2.2.2.2 b1 1 (by rw [tb1]; decide)).trans s34
                  have s78 := (xq53.2.2.2.2.2 b1 2 (by rw [tb1]; decide)).trans s35
                  have s79 := (xq53.2.2.2.2.2 b1 3 (by rw [tb1]; decide)).trans s36
                  have s80 := (xq53.2.2.2.2.2 b1 4 (by rw [tb1]; decide)).trans s37
                  have s81 := (xq53.2.2.2.2.2 b1 5 (by rw [tb1]; decide)).trans s38
                  have s82 := (xq53.2.2.2.2.2 b1 6 (by rw [tb1]; decide)).trans s39
                  have s83 := (xq53.2.2.2.2.2 b1 7 (by rw [tb1]; decide)).trans s40
                  have s84 := (xq53.2.2.2.2.2 b1 8 (by rw [tb1]; decide)).trans s41
                  have s85 := (xq53.2.2.2.2.2 b2 1 (by rw [tb2]; decide)).trans s42
                  have s86 := (xq53.2.2.2.2.2 b2 2 (by rw [tb2]; decide)).trans s43
                  have s87 := (xq53.2.2.2.2.2 b2 3 (by rw [tb2]; decide)).trans s44
                  have s88 := (xq53.2.2.2.2.2 b2 4 (by rw [tb2]; decide)).trans s45
                  have s89 := (xq53.2.2.2.2.2 b2 5 (by rw [tb2]; decide)).trans s46
                  have s90 := (xq53.2.2.2.2.2 b2 6 (by rw [tb2]; decide)).trans s47
                  have s91 := (xq53.2.2.2.2.2 b2 7 (by rw [tb2]; decide)).trans s48
                  have s92 := (xq53.2.2.2.2.2 b2 8 (by rw [tb2]; decide)).trans s49
                  have pr93 := gPC.fr xq53.2 (by decide) pr50
                  refine gy_s 2 (pc' := 139) (L' := [some (.ref x), some (.int (zi a)), some (.int (zi b)), some (.int (zi c)), some (.int (zi jn2v0)), some (.int (zi zq10)), none, none]) (S' := [.int ((zi zq53) - (zi 128))]) (L2 := [some (.ref x), some (.int (zi a)), some (.int (zi b)), some (.int (zi c)), some (.int (zi jn2v0)), some (.int (zi zq10)), none, none]) (S2 := [.int (zi (zq53 - 128))]) rfl (by simp only [zi_add, zi_sub, zi_mul, zi_neg, zi_and1, zi_and7, zi_and15, zi_and31, zi_and255]) (by simp only [zi_add, zi_sub, zi_mul, zi_neg, zi_and1, zi_and7, zi_and15, zi_and31, zi_and255]) ?_
                  refine gy_any (fun z94 ez94 az94 bz94 => ?_)
                  refine gz_s 2 (pc' := 142) (L' := [some (.ref x), some (.int (zi a)), some (.int (zi b)), some (.int (zi c)), some (.int (zi jn2v0)), some (.int (zi zq10)), some (.int (zi z94)), none]) (S' := [.ref x]) rfl ?_
                  refine gs_gtk rfl (by decide) rfl sq53.1 tx rfl rfl s54 ?_
                  refine gz_s 3 (pc' := 148) (L' := [some (.ref x), some (.int (zi a)), some (.int (zi b)), some (.int (zi c)), some (.int (zi jn2v0)), some (.int (zi zq10)), some (.int (zi z94)), none]) (S' := [.int (zi b), .int (zi a), .int (zi 2), .ref pic]) rfl ?_
                  have hl95 : hq53.2.2.2.1 coo = h.2.2.2.1 coo := congrFun sq53.2.2.2.2.1 coo
                  refine gz_call rfl (by decide) rfl (by decide) (by decide) (gcal_of rfl rfl rfl (Nat.le_of_ble_eq_true rfl) (gJ.recv (G := gGG) sq53.1 tpic rfl rfl)) (cl_Picture_sampleAt _ sq53.1 pic tpic 2 (by omega) a (by omega) b (by omega) bn s55 tbn b0 s56 tb0 b1 s57 tb1 b2 s58 tb2 coo s59 tcoo (gSta.fr sq53.2 (by decide) hyst) (vvo 0) s61 (by omega) (vvo 1) s62 (by omega) (vvo 2) s63 (by omega) (vvo 3) s64 (by omega) (vvo 4) s65 (by omega) (vvo 5) s66 (by omega) (vvo 6) s67 (by omega) (vvo 7) s68 (by omega) (vvo 8) s69 (by omega) (vvo 9) s70 (by omega) (vvo 11) s72 (by omega) (vvo 12) s73 (by omega) (vvo 13) s74 (by omega) (vvo 14) s75 (by omega) (vvo 15) s76 (by omega) (vvo 16) s77 (by omega) (vvo 17) s78 (by omega) (vvo 19) s80 (by omega) (vvo 20) s81 (by omega) (vvo 21) s82 (by omega) (vvo 22) s83 (by omega) (vvo 23) s84 (by omega) (vvo 24) s85 (by omega) (vvo 25) s86 (by omega) (vvo 27) s88 (by omega) (vvo 28) s89 (by omega) (vvo 29) s90 (by omega) (vvo 30) s91 (by omega) (vvo 31) s92 (by omega) (vvo 10) s71 (by omega) (vvo 18) s79 (by omega) (vvo 26) s87 (by omega) (by omega) (by omega) (by omega) (by omega) uq yy0o yy1o yy2o yy3o yy4o yy5o yy7o) (fun q96 _ wq96 => ?_)
                  obtain ⟨pq96, oq96, hq96⟩ := q96
                  obtain ⟨xq96, zq96, gq96, aq96, bq96⟩ := wq96
                  refine ⟨_, gq96, ?_⟩
                  show gz gPP gGG gcn _ _ 151 [some (.ref x), some (.int (zi a)), some (.int (zi b)), some (.int (zi c)), some (.int (zi jn2v0)), some (.int (zi zq10)), some (.int (zi z94)), none] [.int (zi zq96)] hq96 _
                  have sq96 : gSs rT 1027 ty [] h hq96 := gSs.tr sq53 xq96 (by decide)
                  have s97 := (xq96.2.2.2.2.2 x 2 (by rw [tx]; decide)).trans s54
                  have s98 := (xq96.2.2.2.2.2 pic 0 (by rw [tpic]; decide)).trans s55
                  have s99 := (xq96.2.2.2.2.2 bn 0 (by rw [tbn]; decide)).trans s56
                  have s100 := (xq96.2.2.2.2.2 bn 1 (by rw [tbn]; decide)).trans s57
                  have s101 := (xq96.2.2.2.2.2 bn 2 (by rw [tbn]; decide)).trans s58
                  have s102 := (xq96.2.2.2.2.2 pic 2 (by rw [tpic]; decide)).trans s59
                  have s103 := (xq96.2.2.2.2.2 pic 3 (by rw [tpic]; decide)).trans s60
                  have s104 := (xq96.2.2.2.2.2 pic 7 (by rw [tpic]; decide)).trans s61
                  have s105 := (xq96.2.2.2.2.2 pic 12 (by rw [tpic]; decide)).trans s62
                  have s106 := (xq96.2.2.2.2.2 pic 13 (by rw [tpic]; decide)).trans s63
                  have s107 := (xq96.2.2.2.2.2 pic 8 (by rw [tpic]; decide)).trans s64
                  have s108 := (xq96.2.2.2.2.2 pic 5 (by rw [tpic]; decide)).trans s65
                  have s109 := (xq96.2.2.2.2.2 pic 6 (by rw [tpic]; decide)).trans s66
                  have s110 := (xq96.2.2.2.2.2 pic 10 (by rw [tpic]; decide)).trans s67
                  have s111 := (xq96.2.2.2.2.2 pic 11 (by rw [tpic]; decide)).trans s68
                  have s112 := (xq96.2.2.2.2.2 b0 1 (by rw [tb0]; decide)).trans s69
                  have s113 := (xq96.2.2.2.2.2 b0 2 (by rw [tb0]; decide)).trans s70
                  have s114 := (xq96.2.2.2.2.2 b0 3 (by rw [tb0]; decide)).trans s71
                  have s115 := (xq96.2.2.2.2.2 b0 4 (by rw [tb0]; decide)).trans s72
                  have s116 := (xq96.2.2.2.2.2 b0 5 (by rw [tb0]; decide)).trans s73
                  have s117 := (xq96.2.2.2.2.2 b0 6 (by rw [tb0]; decide)).trans s74
                  have s118 := (xq96.2.2.2.2.2 b0 7 (by rw [tb0]; decide)).trans s75
                  have s119 := (xq96.2.2.2.2.2 b0 8 (by rw [tb0]; decide)).trans s76
                  have s120 := (xq96.2.2.2.2.2 b1 1 (by rw [tb1]; decide)).trans s77
                  have s121 := (xq96.2.2.2.2.2 b1 2 (by rw [tb1]; decide)).trans s78
                  have s122 := (xq96.2.2.2.2.2 b1 3 (by rw [tb1]; decide)).trans s79
                  have s123 := (xq96.2.2.2.2.2 b1 4 (by rw [tb1]; decide)).trans s80
                  have s124 := (xq96.2.2.2.2.2 b1 5 (by rw [tb1]; decide)).trans s81
                  have s125 := (xq96.2.2.2.2.2 b1 6 (by rw [tb1]; decide)).trans s82
                  have s126 := (xq96.2.2.2.2.2 b1 7 (by rw [tb1]; decide)).trans s83
                  have s127 := (xq96.2.2.2.2.2 b1 8 (by rw [tb1]; decide)).trans s84
                  have s128 := (xq96.2.2.2.2.2 b2 1 (by rw [tb2]; decide)).trans s85
                  have s129 := (xq96.2.2.2.2.2 b2 2 (by rw [tb2]; decide)).trans s86
                  have s130 := (xq96.2.2.2.2.2 b2 3 (by rw [tb2]; decide)).trans s87
                  have s131 := (xq96.2.2.2.2.2 b2 4 (by rw [tb2]; decide)).trans s88
                  have s132 := (xq96.2.2.2.2.2 b2 5 (by rw [tb2]; decide)).trans s89
                  have s133 := (xq96.2.2.2.2.2 b2 6 (by rw [tb2]; decide)).trans s90
                  have s134 := (xq96.2.2.2.2.2 b2 7 (by rw [tb2]; decide)).trans s91
                  have s135 := (xq96.2.2.2.2.2 b2 8 (by rw [tb2]; decide)).trans s92
                  have pr136 := gPC.fr xq96.2 (by decide) pr93
                  refine gy_s 2 (pc' := 155) (L' := [some (.ref x), some (.int (zi a)), some (.int (zi b)), some (.int (zi c)), some (.int (zi jn2v0)), some (.int (zi zq10)), some (.int (zi z94)), none]) (S' := [.int ((zi zq96) - (zi 128))]) (L2 := [some (.ref x), some (.int (zi a)), some (.int (zi b)), some (.int (zi c)), some (.int (zi jn2v0)), some (.int (zi zq10)), some (.int (zi z94)), none]) (S2 := [.int (zi (zq96 - 128))]) rfl (by simp only [zi_add, zi_sub, zi_mul, zi_neg, zi_and1, zi_and7, zi_and15, zi_and31, zi_and255]) (by simp only [zi_add, zi_sub, zi_mul, zi_neg, zi_and1, zi_and7, zi_and15, zi_and31, zi_and255]) ?_
                  refine gy_any (fun z137 ez137 az137 bz137 => ?_)
                  refine gz_s 5 (pc' := 164) (L' := [some (.ref x), some (.int (zi a)), some (.int (zi b)), some (.int (zi c)), some (.int (zi jn2v0)), some (.int (zi zq10)), some (.int (zi z94)), some (.int (zi z137))]) (S' := [.int (zi z137), .int (zi z94), .int (zi zq10), .int (zi c)]) rfl ?_
                  refine gz_call rfl (by decide) rfl (by decide) (by decide) (gcal_of rfl rfl rfl (Nat.le_of_ble_eq_true rfl) rfl) (cl_DctFilter_colourW _ sq96.1 c (by omega) zq10 (by omega) z94 (by omega) z137 (by omega) ) (fun q138 _ wq138 => ?_)
                  obtain ⟨pq138, oq138, hq138⟩ := q138
                  obtain ⟨xq138, zq138, gq138, aq138, bq138⟩ := wq138
                  refine ⟨_, gq138, ?_⟩
                  show gz gPP gGG gcn _ _ 167 [some (.ref x), some (.int (zi a)), some (.int (zi b)), some (.int (zi c)), some (.int (zi jn2v0)), some (.int (zi zq10)), some (.int (zi z94)), some (.int (zi z137))] [.int (zi zq138)] hq138 _
                  have sq138 : gSs rT 1027 ty [] h hq138 := gSs.tr sq96 xq138 (by decide)
                  have s139 := (xq138.2.2.2.2.2 x 2 (by rw [tx]; decide)).trans s97
                  have s140 := (xq138.2.2.2.2.2 pic 0 (by rw [tpic]; decide)).trans s98
                  have s141 := (xq138.2.2.2.2.2 bn 0 (by rw [tbn]; decide)).trans s99
                  have s142 := (xq138.2.2.2.2.2 bn 1 (by rw [tbn]; decide)).trans s100
                  have s143 := (xq138.2.2.2.2.2 bn 2 (by rw [tbn]; decide)).trans s101
                  have s144 := (xq138.2.2.2.2.2 pic 2 (by rw [tpic]; decide)).trans s102
                  have s145 := (xq138.2.2.2.2.2 pic 3 (by rw [tpic]; decide)).trans s103
                  have s146 := (xq138.2.2.2.2.2 pic 7 (by rw [tpic]; decide)).trans s104
                  have s147 := (xq138.2.2.2.2.2 pic 12 (by rw [tpic]; decide)).trans s105
                  have s148 := (xq138.2.2.2.2.2 pic 13 (by rw [tpic]; decide)).trans s106
                  have s149 := (xq138.2.2.2.2.2 pic 8 (by rw [tpic]; decide)).trans s107
                  have s150 := (xq138.2.2.2.2.2 pic 5 (by rw [tpic]; decide)).trans s108
                  have s151 := (xq138.2.2.2.2.2 pic 6 (by rw [tpic]; decide)).trans s109
                  have s152 := (xq138.2.2.2.2.2 pic 10 (by rw [tpic]; decide)).trans s110
                  have s153 := (xq138.2.2.2.2.2 pic 11 (by rw [tpic]; decide)).trans s111
                  have s154 := (xq138.2.2.2.2.2 b0 1 (by rw [tb0]; decide)).trans s112
                  have s155 := (xq138.2.2.2.2.2 b0 2 (by rw [tb0]; decide)).trans s113
                  have s156 := (xq138.2.2.2.2.2 b0 3 (by rw [tb0]; decide)).trans s114
                  have s157 := (xq138.2.2.2.2.2 b0 4 (by rw [tb0]; decide)).trans s115
                  have s158 := (xq138.2.2.2.2.2 b0 5 (by rw [tb0]; decide)).trans s116
                  have s159 := (xq138.2.2.2.2.2 b0 6 (by rw [tb0]; decide)).trans s117
                  have s160 := (xq138.2.2.2.2.2 b0 7 (by rw [tb0]; decide)).trans s118
                  have s161 := (xq138.2.2.2.2.2 b0 8 (by rw [tb0]; decide)).trans s119
                  have s162 := (xq138.2.2.2.2.2 b1 1 (by rw [tb1]; decide)).trans s120
                  have s163 := (xq138.2.2.2.2.2 b1 2 (by rw [tb1]; decide)).trans s121
                  have s164 := (xq138.2.2.2.2.2 b1 3 (by rw [tb1]; decide)).trans s122
                  have s165 := (xq138.2.2.2.2.2 b1 4 (by rw [tb1]; decide)).trans s123
                  have s166 := (xq138.2.2.2.2.2 b1 5 (by rw [tb1]; decide)).trans s124
                  have s167 := (xq138.2.2.2.2.2 b1 6 (by rw [tb1]; decide)).trans s125
                  have s168 := (xq138.2.2.2.2.2 b1 7 (by rw [tb1]; decide)).trans s126
                  have s169 := (xq138.2.2.2.2.2 b1 8 (by rw [tb1]; decide)).trans s127
                  have s170 := (xq138.2.2.2.2.2 b2 1 (by rw [tb2]; decide)).trans s128
                  have s171 := (xq138.2.2.2.2.2 b2 2 (by rw [tb2]; decide)).trans s129
                  have s172 := (xq138.2.2.2.2.2 b2 3 (by rw [tb2]; decide)).trans s130
                  have s173 := (xq138.2.2.2.2.2 b2 4 (by rw [tb2]; decide)).trans s131
                  have s174 := (xq138.2.2.2.2.2 b2 5 (by rw [tb2]; decide)).trans s132
                  have s175 := (xq138.2.2.2.2.2 b2 6 (by rw [tb2]; decide)).trans s133
                  have s176 := (xq138.2.2.2.2.2 b2 7 (by rw [tb2]; decide)).trans s134
                  have s177 := (xq138.2.2.2.2.2 b2 8 (by rw [tb2]; decide)).trans s135
                  have pr178 := gPC.fr xq138.2 (by decide) pr136
                  exact gz_end (I := .ireturn) (len := 1) rfl (Or.inl rfl) ⟨sq138, Or.inl ⟨zq138, rfl, (by omega), (by omega)⟩⟩
                · refine gy_icF rfl (by decide) (by decide) (by omega) (by omega) hc51 ?_
                  refine gz_s 1 (pc' := 124) (L' := [some (.ref x), some (.int (zi a)), some (.int (zi b)), some (.int (zi c)), some (.int (zi jn2v0)), some (.int (zi zq10)), none, none]) (S' := [.int (zi zq10)]) rfl ?_
                  exact gz_end (I := .ireturn) (len := 1) rfl (Or.inl rfl) ⟨sq10, Or.inl ⟨zq10, rfl, (by omega), (by omega)⟩⟩
              · refine gy_icF rfl (by decide) (by decide) (by omega) (by omega) hc8 ?_
                refine gz_s 1 (pc' := 89) (L' := [some (.ref x), some (.int (zi a)), some (.int (zi b)), some (.int (zi c)), some (.int (zi jn2v0)), none, none, none]) (S' := [.ref x]) rfl ?_
                refine gs_gtk rfl (by decide) rfl hS.1 tx rfl rfl epic ?_
                refine gz_s 3 (pc' := 95) (L' := [some (.ref x), some (.int (zi a)), some (.int (zi b)), some (.int (zi c)), some (.int (zi jn2v0)), none, none, none]) (S' := [.int (zi b), .int (zi a), .int (zi c), .ref pic]) rfl ?_
                have hl179 : h.2.2.2.1 coo = h.2.2.2.1 coo := congrFun hS.2.2.2.2.1 coo
                refine gz_call rfl (by decide) rfl (by decide) (by decide) (gcal_of rfl rfl rfl (Nat.le_of_ble_eq_true rfl) (gJ.recv (G := gGG) hS.1 tpic rfl rfl)) (cl_Picture_sampleAt _ hS.1 pic tpic c (by omega) a (by omega) b (by omega) bn ebn tbn b0 eb0 tb0 b1 eb1 tb1 b2 eb2 tb2 coo er4o tcoo (gSta.fr hS.2 (by decide) hyst) (vvo 0) excno (by omega) (vvo 1) exuco (by omega) (vvo 2) exuro (by omega) (vvo 3) exblo (by omega) (vvo 4) exwo (by omega) (vvo 5) exhho (by omega) (vvo 6) exgho (by omega) (vvo 7) exgvo (by omega) (vvo 8) exhb0o (by omega) (vvo 9) exvb0o (by omega) (vvo 11) exC0o (by omega) (vvo 12) exR0o (by omega) (vvo 13) exoc0o (by omega) (vvo 14) exor0o (by omega) (vvo 15) exf0o (by omega) (vvo 16) exhb1o (by omega) (vvo 17) exvb1o (by omega) (vvo 19) exC1o (by omega) (vvo 20) exR1o (by omega) (vvo 21) exoc1o (by omega) (vvo 22) exor1o (by omega) (vvo 23) exf1o (by omega) (vvo 24) exhb2o (by omega) (vvo 25) exvb2o (by omega) (vvo 27) exC2o (by omega) (vvo 28) exR2o (by omega) (vvo 29) exoc2o (by omega) (vvo 30) exor2o (by omega) (vvo 31) exf2o (by omega) (vvo 10) extq0o (by omega) (vvo 18) extq1o (by omega) (vvo 26) extq2o (by omega) (by omega) (by omega) (by omega) (by omega) uq yy0o yy1o yy2o yy3o yy4o yy5o yy7o) (fun q180 _ wq180 => ?_)
                obtain ⟨pq180, oq180, hq180⟩ := q180
                obtain ⟨xq180, zq180, gq180, aq180, bq180⟩ := wq180
                refine ⟨_, gq180, ?_⟩
                show gz gPP gGG gcn _ _ 98 [some (.ref x), some (.int (zi a)), some (.int (zi b)), some (.int (zi c)), some (.int (zi jn2v0)), none, none, none] [.int (zi zq180)] hq180 _
                have sq180 : gSs rT 1027 ty [] h hq180 := gSs.tr hS xq180 (by decide)
                have s181 := (xq180.2.2.2.2.2 x 2 (by rw [tx]; decide)).trans epic
                have s182 := (xq180.2.2.2.2.2 pic 0 (by rw [tpic]; decide)).trans ebn
                have s183 := (xq180.2.2.2.2.2 bn 0 (by rw [tbn]; decide)).trans eb0
                have s184 := (xq180.2.2.2.2.2 bn 1 (by rw [tbn]; decide)).trans eb1
                have s185 := (xq180.2.2.2.2.2 bn 2 (by rw [tbn]; decide)).trans eb2
                have s186 := (xq180.2.2.2.2.2 pic 2 (by rw [tpic]; decide)).trans er4o
                have s187 := (xq180.2.2.2.2.2 pic 3 (by rw [tpic]; decide)).trans er5o
                have s188 := (xq180.2.2.2.2.2 pic 7 (by rw [tpic]; decide)).trans excno
                have s189 := (xq180.2.2.2.2.2 pic 12 (by rw [tpic]; decide)).trans exuco
                have s190 := (xq180.2.2.2.2.2 pic 13 (by rw [tpic]; decide)).trans exuro
                have s191 := (xq180.2.2.2.2.2 pic 8 (by rw [tpic]; decide)).trans exblo
                have s192 := (xq180.2.2.2.2.2 pic 5 (by rw [tpic]; decide)).trans exwo
                have s193 := (xq180.2.2.2.2.2 pic 6 (by rw [tpic]; decide)).trans exhho
                have s194 := (xq180.2.2.2.2.2 pic 10 (by rw [tpic]; decide)).trans exgho
                have s195 := (xq180.2.2.2.2.2 pic 11 (by rw [tpic]; decide)).trans exgvo
                have s196 := (xq180.2.2.2.2.2 b0 1 (by rw [tb0]; decide)).trans exhb0o
                have s197 := (xq180.2.2.2.2.2 b0 2 (by rw [tb0]; decide)).trans exvb0o
                have s198 := (xq180.2.2.2.2.2 b0 3 (by rw [tb0]; decide)).trans extq0o
                have s199 := (xq180.2.2.2.2.2 b0 4 (by rw [tb0]; decide)).trans exC0o
                have s200 := (xq180.2.2.2.2.2 b0 5 (by rw [tb0]; decide)).trans exR0o
                have s201 := (xq180.2.2.2.2.2 b0 6 (by rw [tb0]; decide)).trans exoc0o
                have s202 := (xq180.2.2.2.2.2 b0 7 (by rw [tb0]; decide)).trans exor0o
                have s203 := (xq180.2.2.2.2.2 b0 8 (by rw [tb0]; decide)).trans exf0o
                have s204 := (xq180.2.2.2.2.2 b1 1 (by rw [tb1]; decide)).trans exhb1o
                have s205 := (xq180.2.2.2.2.2 b1 2 (by rw [tb1]; decide)).trans exvb1o
                have s206 := (xq180.2.2.2.2.2 b1 3 (by rw [tb1]; decide)).trans extq1o
                have s207 := (xq180.2.2.2.2.2 b1 4 (by rw [tb1]; decide)).trans exC1o
                have s208 := (xq180.2.2.2.2.2 b1 5 (by rw [tb1]; decide)).trans exR1o
                have s209 := (xq180.2.2.2.2.2 b1 6 (by rw [tb1]; decide)).trans exoc1o
                have s210 := (xq180.2.2.2.2.2 b1 7 (by rw [tb1]; decide)).trans exor1o
                have s211 := (xq180.2.2.2.2.2 b1 8 (by rw [tb1]; decide)).trans exf1o
                have s212 := (xq180.2.2.2.2.2 b2 1 (by rw [tb2]; decide)).trans exhb2o
                have s213 := (xq180.2.2.2.2.2 b2 2 (by rw [tb2]; decide)).trans exvb2o
                have s214 := (xq180.2.2.2.2.2 b2 3 (by rw [tb2]; decide)).trans extq2o
                have s215 := (xq180.2.2.2.2.2 b2 4 (by rw [tb2]; decide)).trans exC2o
                have s216 := (xq180.2.2.2.2.2 b2 5 (by rw [tb2]; decide)).trans exR2o
                have s217 := (xq180.2.2.2.2.2 b2 6 (by rw [tb2]; decide)).trans exoc2o
                have s218 := (xq180.2.2.2.2.2 b2 7 (by rw [tb2]; decide)).trans exor2o
                have s219 := (xq180.2.2.2.2.2 b2 8 (by rw [tb2]; decide)).trans exf2o
                have pr220 := gPC.fr xq180.2 (by decide) hypc
                exact gz_end (I := .ireturn) (len := 1) rfl (Or.inl rfl) ⟨sq180, Or.inl ⟨zq180, rfl, (by omega), (by omega)⟩⟩
            · refine gy_icF rfl (by decide) (by decide) (by omega) (by omega) hc7 ?_
              exact gz_end (I := .new 84) (len := 3) rfl (Or.inr (by decide)) ⟨hS, Or.inr ⟨rfl, rfl⟩⟩
  by_cases hc221 : (c : Int) < 0
  · refine gy_ifT (pc' := 29) rfl (by decide) (by decide) (by omega) hc221 ?_
    refine gz_s 1 (pc' := 30) (L' := [some (.ref x), some (.int (zi a)), some (.int (zi b)), some (.int (zi c)), none, none, none, none]) (S' := [.int (zi 0)]) rfl ?_
    exact jn2 0 (by omega)
  · refine gy_ifF rfl (by decide) (by decide) (by omega) hc221 ?_
    refine gz_s 2 (pc' := 6) (L' := [some (.ref x), some (.int (zi a)), some (.int (zi b)), some (.int (zi c)), none, none, none, none]) (S' := [.ref x, .int (zi c)]) rfl ?_
    refine gs_gtk rfl (by decide) rfl hS.1 tx rfl rfl epic ?_
    refine gs_gtk rfl (by decide) rfl hS.1 tpic rfl rfl excno ?_
    by_cases hc222 : (c : Int) < vvo 0
    · refine gy_icT (pc' := 25) rfl (by decide) (by decide) (by omega) (by omega) hc222 ?_
      refine gz_s 2 (pc' := 30) (L' := [some (.ref x), some (.int (zi a)), some (.int (zi b)), some (.int (zi c)), none, none, none, none]) (S' := [.int (zi 1)]) rfl ?_
      exact jn2 1 (by omega)
    · refine gy_icF rfl (by decide) (by decide) (by omega) (by omega) hc222 ?_
      refine gz_s 2 (pc' := 17) (L' := [some (.ref x), some (.int (zi a)), some (.int (zi b)), some (.int (zi c)), none, none, none, none]) (S' := [.int (zi 3), .int (zi c)]) rfl ?_
      by_cases hc223 : (c : Int) < 3
      · refine gy_icT (pc' := 29) rfl (by decide) (by decide) (by omega) (by omega) hc223 ?_
        refine gz_s 1 (pc' := 30) (L' := [some (.ref x), some (.int (zi a)), some (.int (zi b)), some (.int (zi c)), none, none, none, none]) (S' := [.int (zi 0)]) rfl ?_
        exact jn2 0 (by omega)
      · refine gy_icF rfl (by decide) (by decide) (by omega) (by omega) hc223 ?_
        refine gz_s 2 (pc' := 22) (L' := [some (.ref x), some (.int (zi a)), some (.int (zi b)), some (.int (zi c)), none, none, none, none]) (S' := [.int (zi 5), .int (zi c)]) rfl ?_
        by_cases hc224 : (5 : Int) < c
        · refine gy_icT (pc' := 29) rfl (by decide) (by decide) (by omega) (by omega) hc224 ?_
          refine gz_s 1 (pc' := 30) (L' := [some (.ref x), some (.int (zi a)), some (.int (zi b)), some (.int (zi c)), none, none, none, none]) (S' := [.int (zi 0)]) rfl ?_
          exact jn2 0 (by omega)
        · refine gy_icF rfl (by decide) (by decide) (by omega) (by omega) hc224 ?_
          refine gz_s 2 (pc' := 30) (L' := [some (.ref x), some (.int (zi a)), some (.int (zi b)), some (.int (zi c)), none, none, none, none]) (S' := [.int (zi 1)]) rfl ?_
          exact jn2 1 (by omega)
set_option maxRecDepth 20000 in
set_option maxHeartbeats 4000000 in
theorem cl_DctFilter_coefficient (d : Nat) {ty : Nat → Nat} {h : gH} (hJ : gJ rT 1027 ty h) (x : Nat) (tx : ty x = 50) (a : Int) (ra : (-2147483648) ≤ a ∧ a ≤ 2147483647) (b : Int) (rb : (-2147483648) ≤ b ∧ b ≤ 2147483647) (pic : Nat) (epic : h.2.2.2.2 x 2 = .ref pic) (tpic : ty pic = 54) (bn : Nat) (ebn : h.2.2.2.2 pic 0 = .ref bn) (tbn : ty bn = 57) (b0 : Nat) (eb0 : h.2.2.2.2 bn 0 = .ref b0) (tb0 : ty b0 = 82) (b1 : Nat) (eb1 : h.2.2.2.2 bn 1 = .ref b1) (tb1 : ty b1 = 83) (b2 : Nat) (eb2 : h.2.2.2.2 bn 2 = .ref b2) (tb2 : ty b2 = 84) (ld : Int) (rld : 0 ≤ ld ∧ ld ≤ 192) (uq : gUq ty) (hypc : gPC ty pic b0 b1 b2 ld h) : gz gPP gGG gcn (d + 0) gt79 0 (gent [.ref x, .int (zi a), .int (zi b)] 3) [] h (fun q _ => gSs rT 1027 ty [] h q.2.2 ∧ ((∃ z : Int, gfin gt79 q.1 q.2.1 = some (some (.int (zi z))) ∧ (-2147483648) ≤ z ∧ z ≤ 2147483647) ∨ (q.2.1 = [] ∧ ((q.1 = 25))))) := by
  have hS : gSs rT 1027 ty [] h h := gSs.rf hJ
  have hpq1 := hypc
  obtain ⟨_, bno, coo, dmo, vvo, ⟨tbno, tcoo, tdmo⟩, ⟨er0o, er1o, er2o, er3o, er4o, er5o⟩, hvvo, hrro, ⟨yy0o, yy1o, yy2o, yy3o, yy4o, yy5o, yy6o, yy7o⟩, ll0o, ll1o, ll2o, ll3o⟩ := hpq1
  have excno : h.2.2.2.2 pic 7 = .int (zi (vvo 0)) := hvvo (0, 7, 0) (by decide)
  have rrcno : 0 ≤ vvo 0 ∧ vvo 0 ≤ 3 := hrro (0, 0, 3) (by decide)
  have exuco : h.2.2.2.2 pic 12 = .int (zi (vvo 1)) := hvvo (0, 12, 1) (by decide)
  have rruco : 0 ≤ vvo 1 ∧ vvo 1 ≤ 8 := hrro (1, 0, 8) (by decide)
  have exuro : h.2.2.2.2 pic 13 = .int (zi (vvo 2)) := hvvo (0, 13, 2) (by decide)
  have rruro : 0 ≤ vvo 2 ∧ vvo 2 ≤ 8 := hrro (2, 0, 8) (by decide)
  have exblo : h.2.2.2.2 pic 8 = .int (zi (vvo 3)) := hvvo (0, 8, 3) (by decide)
  have rrblo : 0 ≤ vvo 3 ∧ vvo 3 ≤ 192 := hrro (3, 0, 192) (by decide)
  have exwo : h.2.2.2.2 pic 5 = .int (zi (vvo 4)) := hvvo (0, 5, 4) (by decide)
  have rrwo : 0 ≤ vvo 4 ∧ vvo 4 ≤ 64 := hrro (4, 0, 64) (by decide)
  have exhho : h.2.2.2.2 pic 6 = .int (zi (vvo 5)) := hvvo (0, 6, 5) (by decide)
  have rrhho : 0 ≤ vvo 5 ∧ vvo 5 ≤ 64 := hrro (5, 0, 64) (by decide)
  have exgho : h.2.2.2.2 pic 10 = .int (zi (vvo 6)) := hvvo (0, 10, 6) (by decide)
  have rrgho : 1 ≤ vvo 6 ∧ vvo 6 ≤ 2 := hrro (6, 1, 2) (by decide)
  have exgvo : h.2.2.2.2 pic 11 = .int (zi (vvo 7)) := hvvo (0, 11, 7) (by decide)
  have rrgvo : 1 ≤ vvo 7 ∧ vvo 7 ≤ 2 := hrro (7, 1, 2) (by decide)
  have exhb0o : h.2.2.2.2 b0 1 = .int (zi (vvo 8)) := hvvo (1, 1, 8) (by decide)
  have rrhb0o : (-1) ≤ vvo 8 ∧ vvo 8 ≤ 15 := hrro (8, (-1), 15) (by decide)
  have exvb0o : h.2.2.2.2 b0 2 = .int (zi (vvo 9)) := hvvo (1, 2, 9) (by decide)
  have rrvb0o : 0 ≤ vvo 9 ∧ vvo 9 ≤ 15 := hrro (9, 0, 15) (by decide)
  have extq0o : h.2.2.2.2 b0 3 = .int (zi (vvo 10)) := hvvo (1, 3, 10) (by decide)
  have rrtq0o : (-1) ≤ vvo 10 ∧ vvo 10 ≤ 255 := hrro (10, (-1), 255) (by decide)
  have exC0o : h.2.2.2.2 b0 4 = .int (zi (vvo 11)) := hvvo (1, 4, 11) (by decide)
  have rrC0o : 0 ≤ vvo 11 ∧ vvo 11 ≤ 16 := hrro (11, 0, 16) (by decide)
  have exR0o : h.2.2.2.2 b0 5 = .int (zi (vvo 12)) := hvvo (1, 5, 12) (by decide)
  have rrR0o : 0 ≤ vvo 12 ∧ vvo 12 ≤ 16 := hrro (12, 0, 16) (by decide)
  have exoc0o : h.2.2.2.2 b0 6 = .int (zi (vvo 13)) := hvvo (1, 6, 13) (by decide)
  have rroc0o : 0 ≤ vvo 13 ∧ vvo 13 ≤ 16 := hrro (13, 0, 16) (by decide)
  have exor0o : h.2.2.2.2 b0 7 = .int (zi (vvo 14)) := hvvo (1, 7, 14) (by decide)
  have rror0o : 0 ≤ vvo 14 ∧ vvo 14 ≤ 16 := hrro (14, 0, 16) (by decide)
  have exf0o : h.2.2.2.2 b0 8 = .int (zi (vvo 15)) := hvvo (1, 8, 15) (by decide)
  have rrf0o : 0 ≤ vvo 15 ∧ vvo 15 ≤ 192 := hrro (15, 0, 192) (by decide)
  have exhb1o : h.2.2.2.2 b1 1 = .int (zi (vvo 16)) := hvvo (2, 1, 16) (by decide)
  have rrhb1o : (-1) ≤ vvo 16 ∧ vvo 16 ≤ 15 := hrro (16, (-1), 15) (by decide)
  have exvb1o : h.2.2.2.2 b1 2 = .int (zi (vvo 17)) := hvvo (2, 2, 17) (by decide)
  have rrvb1o : 0 ≤ vvo 17 ∧ vvo 17 ≤ 15 := hrro (17, 0, 15) (by decide)
  have extq1o : h.2.2.2.2 b1 3 = .int (zi (vvo 18)) := hvvo (2, 3, 18) (by decide)
  have rrtq1o : (-1) ≤ vvo 18 ∧ vvo 18 ≤ 255 := hrro (18, (-1), 255) (by decide)
  have exC1o : h.2.2.2.2 b1 4 = .int (zi (vvo 19)) := hvvo (2, 4, 19) (by decide)
  have rrC1o : 0 ≤ vvo 19 ∧ vvo 19 ≤ 16 := hrro (19, 0, 16) (by decide)
  have exR1o : h.2.2.2.2 b1 5 = .int (zi (vvo 20)) := hvvo (2, 5, 20) (by decide)
  have rrR1o : 0 ≤ vvo 20 ∧ vvo 20 ≤ 16 := hrro (20, 0, 16) (by decide)
  have exoc1o : h.2.2.2.2 b1 6 = .int (zi (vvo 21)) := hvvo (2, 6, 21) (by decide)
  have rroc1o : 0 ≤ vvo 21 ∧ vvo 21 ≤ 16 := hrro (21, 0, 16) (by decide)
  have exor1o : h.2.2.2.2 b1 7 = .int (zi (vvo 22)) := hvvo (2, 7, 22) (by decide)
  have rror1o : 0 ≤ vvo 22 ∧ vvo 22 ≤ 16 := hrro (22, 0, 16) (by decide)
  have exf1o : h.2.2.2.2 b1 8 = .int (zi (vvo 23)) := hvvo (2, 8, 23) (by decide)
  have rrf1o : 0 ≤ vvo 23 ∧ vvo 23 ≤ 192 := hrro (23, 0, 192) (by decide)
  have exhb2o : h.2.2.2.2 b2 1 = .int (zi (vvo 24)) := hvvo (3, 1, 24) (by decide)
  have rrhb2o : (-1) ≤ vvo 24 ∧ vvo 24 ≤ 15 := hrro (24, (-1), 15) (by decide)
  have exvb2o : h.2.2.2.2 b2 2 = .int (zi (vvo 25)) := hvvo (3, 2, 25) (by decide)
  have rrvb2o : 0 ≤ vvo 25 ∧ vvo 25 ≤ 15 := hrro (25, 0, 15) (by decide)
  have extq2o : h.2.2.2.2 b2 3 = .int (zi (vvo 26)) := hvvo (3, 3, 26) (by decide)
  have rrtq2o : (-1) ≤ vvo 26 ∧ vvo 26 ≤ 255 := hrro (26, (-1), 255) (by decide)
  have exC2o : h.2.2.2.2 b2 4 = .int (zi (vvo 27)) := hvvo (3, 4, 27) (by decide)
  have rrC2o : 0 ≤ vvo 27 ∧ vvo 27 ≤ 16 := hrro (27, 0, 16) (by decide)
  have exR2o : h.2.2.2.2 b2 5 = .int (zi (vvo 28)) := hvvo (3, 5, 28) (by decide)
  have rrR2o : 0 ≤ vvo 28 ∧ vvo 28 ≤ 16 := hrro (28, 0, 16) (by decide)
  have exoc2o : h.2.2.2.2 b2 6 = .int (zi (vvo 29)) := hvvo (3, 6, 29) (by decide)
  have rroc2o : 0 ≤ vvo 29 ∧ vvo 29 ≤ 16 := hrro (29, 0, 16) (by decide)
  have exor2o : h.2.2.2.2 b2 7 = .int (zi (vvo 30)) := hvvo (3, 7, 30) (by decide)
  have rror2o : 0 ≤ vvo 30 ∧ vvo 30 ≤ 16 := hrro (30, 0, 16) (by decide)
  have exf2o : h.2.2.2.2 b2 8 = .int (zi (vvo 31)) := hvvo (3, 8, 31) (by decide)
  have rrf2o : 0 ≤ vvo 31 ∧ vvo 31 ≤ 192 := hrro (31, 0, 192) (by decide)
  refine gz_s 1 (pc' := 1) (L' := [some (.ref x), some (.int (zi a)), some (.int (zi b))]) (S' := [.int (zi a)]) rfl ?_
  by_cases hc2 : (a : Int) < 0
  · refine gy_ifT (pc' := 25) rfl (by decide) (by decide) (by omega) hc2 ?_
    exact gz_end (I := .new 108) (len := 3) rfl (Or.inr (by decide)) ⟨hS, Or.inr ⟨rfl, rfl⟩⟩
  · refine gy_ifF rfl (by decide) (by decide) (by omega) hc2 ?_
    refine gz_s 2 (pc' := 6) (L' := [some (.ref x), some (.int (zi a)), some (.int (zi b))]) (S' := [.ref x, .int (zi a)]) rfl ?_
    refine gs_gtk rfl (by decide) rfl hS.1 tx rfl rfl epic ?_
    refine gs_gtk rfl (by decide) rfl hS.1 tpic rfl rfl exblo ?_
    by_cases hc3 : (vvo 3 : Int) ≤ a
    · refine gy_icT (pc' := 25) rfl (by decide) (by decide) (by omega) (by omega) hc3 ?_
      exact gz_end (I := .new 108) (len := 3) rfl (Or.inr (by decide)) ⟨hS, Or.inr ⟨rfl, rfl⟩⟩
    · refine gy_icF rfl (by decide) (by decide) (by omega) (by omega) hc3 ?_
      refine gz_s 1 (pc' := 16) (L' := [some (.ref x), some (.int (zi a)), some (.int (zi b))]) (S' := [.int (zi b)]) rfl ?_
      by_cases hc4 : (b : Int) < 0
      · refine gy_ifT (pc' := 25) rfl (by decide) (by decide) (by omega) hc4 ?_
        exact gz_end (I := .new 108) (len := 3) rfl (Or.inr (by decide)) ⟨hS, Or.inr ⟨rfl, rfl⟩⟩
      · refine gy_ifF rfl (by decide) (by decide) (by omega) hc4 ?_
        refine gz_s 2 (pc' := 22) (L' := [some (.ref x), some (.int (zi a)), some (.int (zi b))]) (S' := [.int (zi 63), .int (zi b)]) rfl ?_
        by_cases hc5 : (b : Int) ≤ 63
        · refine gy_icT (pc' := 35) rfl (by decide) (by decide) (by omega) (by omega) hc5 ?_
          refine gz_s 1 (pc' := 36) (L' := [some (.ref x), some (.int (zi a)), some (.int (zi b))]) (S' := [.ref x]) rfl ?_
          refine gs_gtk rfl (by decide) rfl hS.1 tx rfl rfl epic ?_
          refine gs_gtk rfl (by decide) rfl hS.1 tpic rfl rfl er4o ?_
          refine gy_s 5 (pc' := 48) (L' := [some (.ref x), some (.int (zi a)), some (.int (zi b))]) (S' := [.int (((zi a) * (zi 64)) + (zi b)), .ref coo]) (L2 := [some (.ref x), some (.int (zi a)), some (.int (zi b))]) (S2 := [.int (zi ((a * 64) + b)), .ref coo]) rfl (by simp only [zi_add, zi_sub, zi_mul, zi_neg, zi_and1, zi_and7, zi_and15, zi_and31, zi_and255]) (by simp only [zi_add, zi_sub, zi_mul, zi_neg, zi_and1, zi_and7, zi_and15, zi_and31, zi_and255]) ?_
          have hl6 : 0 ≤ h.2.2.2.1 coo ∧ h.2.2.2.1 coo ≤ 12288 := gJ.rowl (G := gGG) hS.1 tcoo rfl
          have hl7 : h.2.2.2.1 coo = h.2.2.2.1 coo := congrFun hS.2.2.2.2.1 coo
          refine gs_ald rfl (by decide) hS.1 tcoo rfl rfl rfl (by decide) (fun _ => rfl) (by omega) (by omega) (fun z8 ez8 az8 bz8 => ?_)
          exact gz_end (I := .ireturn) (len := 1) rfl (Or.inl rfl) ⟨hS, Or.inl ⟨z8, rfl, (by omega), (by omega)⟩⟩
        · refine gy_icF rfl (by decide) (by decide) (by omega) (by omega) hc5 ?_
          exact gz_end (I := .new 108) (len := 3) rfl (Or.inr (by decide)) ⟨hS, Or.inr ⟨rfl, rfl⟩⟩
set_option maxRecDepth 20000 in
set_option maxHeartbeats 4000000 in
theorem cl_DctFilter_exact (d : Nat) {ty : Nat → Nat} {h : gH} (hJ : gJ rT 1027 ty h) (x : Nat) (tx : ty x = 50) (a : Int) (ra : (-2147483648) ≤ a ∧ a ≤ 2147483647) (b : Int) (rb : (-2147483648) ≤ b ∧ b ≤ 2147483647) (pic : Nat) (epic : h.2.2.2.2 x 2 = .ref pic) (tpic : ty pic = 54) (bn : Nat) (ebn : h.2.2.2.2 pic 0 = .ref bn) (tbn : ty bn = 57) (b0 : Nat) (eb0 : h.2.2.2.2 bn 0 = .ref b0) (tb0 : ty b0 = 82) (b1 : Nat) (eb1 : h.2.2.2.2 bn 1 = .ref b1) (tb1 : ty b1 = 83) (b2 : Nat) (eb2 : h.2.2.2.2 bn 2 = .ref b2) (tb2 : ty b2 = 84) (hyst : gSta ty h) (ld : Int) (rld : 0 ≤ ld ∧ ld ≤ 192) (uq : gUq ty) (hypc : gPC ty pic b0 b1 b2 ld h) : gz gPP gGG gcn (d + 2) gt80 0 (gent [.ref x, .int (zi a), .int (zi b)] 3) [] h (fun q _ => gSs rT 1027 ty [] h q.2.2 ∧ ((∃ z : Int, gfin gt80 q.1 q.2.1 = some (some (.long (zl z))) ∧ (-9223372036854775808) ≤ z ∧ z ≤ 9223372036854775807) ∨ (q.2.1 = [] ∧ ((q.1 = 25))))) := by
  have hS : gSs rT 1027 ty [] h h := gSs.rf hJ
  have hpq1 := hypc
  obtain ⟨_, bno, coo, dmo, vvo, ⟨tbno, tcoo, tdmo⟩, ⟨er0o, er1o, er2o, er3o, er4o, er5o⟩, hvvo, hrro, ⟨yy0o, yy1o, yy2o, yy3o, yy4o, yy5o, yy6o, yy7o⟩, ll0o, ll1o, ll2o, ll3o⟩ := hpq1
  have excno : h.2.2.2.2 pic 7 = .int (zi (vvo 0)) := hvvo (0, 7, 0) (by decide)
  have rrcno : 0 ≤ vvo 0 ∧ vvo 0 ≤ 3 := hrro (0, 0, 3) (by decide)
  have exuco : h.2.2.2.2 pic 12 = .int (zi (vvo 1)) := hvvo (0, 12, 1) (by decide)
  have rruco : 0 ≤ vvo 1 ∧ vvo 1 ≤ 8 := hrro (1, 0, 8) (by decide)
  have exuro : h.2.2.2.2 pic 13 = .int (zi (vvo 2)) := hvvo (0, 13, 2) (by decide)
  have rruro : 0 ≤ vvo 2 ∧ vvo 2 ≤ 8 := hrro (2, 0, 8) (by decide)
  have exblo : h.2.2.2.2 pic 8 = .int (zi (vvo 3)) := hvvo (0, 8, 3) (by decide)
  have rrblo : 0 ≤ vvo 3 ∧ vvo 3 ≤ 192 := hrro (3, 0, 192) (by decide)
  have exwo : h.2.2.2.2 pic 5 = .int (zi (vvo 4)) := hvvo (0, 5, 4) (by decide)
  have rrwo : 0 ≤ vvo 4 ∧ vvo 4 ≤ 64 := hrro (4, 0, 64) (by decide)
  have exhho : h.2.2.2.2 pic 6 = .int (zi (vvo 5)) := hvvo (0, 6, 5) (by decide)
  have rrhho : 0 ≤ vvo 5 ∧ vvo 5 ≤ 64 := hrro (5, 0, 64) (by decide)
  have exgho : h.2.2.2.2 pic 10 = .int (zi (vvo 6)) := hvvo (0, 10, 6) (by decide)
  have rrgho : 1 ≤ vvo 6 ∧ vvo 6 ≤ 2 := hrro (6, 1, 2) (by decide)
  have exgvo : h.2.2.2.2 pic 11 = .int (zi (vvo 7)) := hvvo (0, 11, 7) (by decide)
  have rrgvo : 1 ≤ vvo 7 ∧ vvo 7 ≤ 2 := hrro (7, 1, 2) (by decide)
  have exhb0o : h.2.2.2.2 b0 1 = .int (zi (vvo 8)) := hvvo (1, 1, 8) (by decide)
  have rrhb0o : (-1) ≤ vvo 8 ∧ vvo 8 ≤ 15 := hrro (8, (-1), 15) (by decide)
  have exvb0o : h.2.2.2.2 b0 2 = .int (zi (vvo 9)) := hvvo (1, 2, 9) (by decide)
  have rrvb0o : 0 ≤ vvo 9 ∧ vvo 9 ≤ 15 := hrro (9, 0, 15) (by decide)
  have extq0o : h.2.2.2.2 b0 3 = .int (zi (vvo 10)) := hvvo (1, 3, 10) (by decide)
  have rrtq0o : (-1) ≤ vvo 10 ∧ vvo 10 ≤ 255 := hrro (10, (-1), 255) (by decide)
  have exC0o : h.2.2.2.2 b0 4 = .int (zi (vvo 11)) := hvvo (1, 4, 11) (by decide)
  have rrC0o : 0 ≤ vvo 11 ∧ vvo 11 ≤ 16 := hrro (11, 0, 16) (by decide)
  have exR0o : h.2.2.2.2 b0 5 = .int (zi (vvo 12)) := hvvo (1, 5, 12) (by decide)
  have rrR0o : 0 ≤ vvo 12 ∧ vvo 12 ≤ 16 := hrro (12, 0, 16) (by decide)
  have exoc0o : h.2.2.2.2 b0 6 = .int (zi (vvo 13)) := hvvo (1, 6, 13) (by decide)
  have rroc0o : 0 ≤ vvo 13 ∧ vvo 13 ≤ 16 := hrro (13, 0, 16) (by decide)
  have exor0o : h.2.2.2.2 b0 7 = .int (zi (vvo 14)) := hvvo (1, 7, 14) (by decide)
  have rror0o : 0 ≤ vvo 14 ∧ vvo 14 ≤ 16 := hrro (14, 0, 16) (by decide)
  have exf0o : h.2.2.2.2 b0 8 = .int (zi (vvo 15)) := hvvo (1, 8, 15) (by decide)
  have rrf0o : 0 ≤ vvo 15 ∧ vvo 15 ≤ 192 := hrro (15, 0, 192) (by decide)
  have exhb1o : h.2.2.2.2 b1 1 = .int (zi (vvo 16)) := hvvo (2, 1, 16) (by decide)
  have rrhb1o : (-1) ≤ vvo 16 ∧ vvo 16 ≤ 15 := hrro (16, (-1), 15) (by decide)
  have exvb1o : h.2.2.2.2 b1 2 = .int (zi (vvo 17)) := hvvo (2, 2, 17) (by decide)
  have rrvb1o : 0 ≤ vvo 17 ∧ vvo 17 ≤ 15 := hrro (17, 0, 15) (by decide)
  have extq1o : h.2.2.2.2 b1 3 = .int (zi (vvo 18)) := hvvo (2, 3, 18) (by decide)
  have rrtq1o : (-1) ≤ vvo 18 ∧ vvo 18 ≤ 255 := hrro (18, (-1), 255) (by decide)
  have exC1o : h.2.2.2.2 b1 4 = .int (zi (vvo 19)) := hvvo (2, 4, 19) (by decide)
  have rrC1o : 0 ≤ vvo 19 ∧ vvo 19 ≤ 16 := hrro (19, 0, 16) (by decide)
  have exR1o : h.2.2.2.2 b1 5 = .int (zi (vvo 20)) := hvvo (2, 5, 20) (by decide)
  have rrR1o : 0 ≤ vvo 20 ∧ vvo 20 ≤ 16 := hrro (20, 0, 16) (by decide)
  have exoc1o : h.2.2.2.2 b1 6 = .int (zi (vvo 21)) := hvvo (2, 6, 21) (by decide)
  have rroc1o : 0 ≤ vvo 21 ∧ vvo 21 ≤ 16 := hrro (21, 0, 16) (by decide)
  have exor1o : h.2.2.2.2 b1 7 = .int (zi (vvo 22)) := hvvo (2, 7, 22) (by decide)
  have rror1o : 0 ≤ vvo 22 ∧ vvo 22 ≤ 16 := hrro (22, 0, 16) (by decide)
  have exf1o : h.2.2.2.2 b1 8 = .int (zi (vvo 23)) := hvvo (2, 8, 23) (by decide)
  have rrf1o : 0 ≤ vvo 23 ∧ vvo 23 ≤ 192 := hrro (23, 0, 192) (by decide)
  have exhb2o : h.2.2.2.2 b2 1 = .int (zi (vvo 24)) := hvvo (3, 1, 24) (by decide)
  have rrhb2o : (-1) ≤ vvo 24 ∧ vvo 24 ≤ 15 := hrro (24, (-1), 15) (by decide)
  have exvb2o : h.2.2.2.2 b2 2 = .int (zi (vvo 25)) := hvvo (3, 2, 25) (by decide)
  have rrvb2o : 0 ≤ vvo 25 ∧ vvo 25 ≤ 15 := hrro (25, 0, 15) (by decide)
  have extq2o : h.2.2.2.2 b2 3 = .int (zi (vvo 26)) := hvvo (3, 3, 26) (by decide)
  have rrtq2o : (-1) ≤ vvo 26 ∧ vvo 26 ≤ 255 := hrro (26, (-1), 255) (by decide)
  have exC2o : h.2.2.2.2 b2 4 = .int (zi (vvo 27)) := hvvo (3, 4, 27) (by decide)
  have rrC2o : 0 ≤ vvo 27 ∧ vvo 27 ≤ 16 := hrro (27, 0, 16) (by decide)
  have exR2o : h.2.2.2.2 b2 5 = .int (zi (vvo 28)) := hvvo (3, 5, 28) (by decide)
  have rrR2o : 0 ≤ vvo 28 ∧ vvo 28 ≤ 16 := hrro (28, 0, 16) (by decide)
  have exoc2o : h.2.2.2.2 b2 6 = .int (zi (vvo 29)) := hvvo (3, 6, 29) (by decide)
  have rroc2o : 0 ≤ vvo 29 ∧ vvo 29 ≤ 16 := hrro (29, 0, 16) (by decide)
  have exor2o : h.2.2.2.2 b2 7 = .int (zi (vvo 30)) := hvvo (3, 7, 30) (by decide)
  have rror2o : 0 ≤ vvo 30 ∧ vvo 30 ≤ 16 := hrro (30, 0, 16) (by decide)
  have exf2o : h.2.2.2.2 b2 8 = .int (zi (vvo 31)) := hvvo (3, 8, 31) (by decide)
  have rrf2o : 0 ≤ vvo 31 ∧ vvo 31 ≤ 192 := hrro (31, 0, 192) (by decide)
  refine gz_s 1 (pc' := 1) (L' := [some (.ref x), some (.int (zi a)), some (.int (zi b))]) (S' := [.int (zi a)]) rfl ?_
  by_cases hc2 : (a : Int) < 0
  · refine gy_ifT (pc' := 25) rfl (by decide) (by decide) (by omega) hc2 ?_
    exact gz_end (I := .new 108) (len := 3) rfl (Or.inr (by decide)) ⟨hS, Or.inr ⟨rfl, rfl⟩⟩
  · refine gy_ifF rfl (by decide) (by decide) (by omega) hc2 ?_
    refine gz_s 2 (pc' := 6) (L' := [some (.ref x), some (.int (zi a)), some (.int (zi b))]) (S' := [.ref x, .int (zi a)]) rfl ?_
    refine gs_gtk rfl (by decide) rfl hS.1 tx rfl rfl epic ?_
    refine gs_gtk rfl (by decide) rfl hS.1 tpic rfl rfl exblo ?_
    by_cases hc3 : (vvo 3 : Int) ≤ a
    · refine gy_icT (pc' := 25) rfl (by decide) (by decide) (by omega) (by omega) hc3 ?_
      exact gz_end (I := .new 108) (len := 3) rfl (Or.inr (by decide)) ⟨hS, Or.inr ⟨rfl, rfl⟩⟩
    · refine gy_icF rfl (by decide) (by decide) (by omega) (by omega) hc3 ?_
      refine gz_s 1 (pc' := 16) (L' := [some (.ref x), some (.int (zi a)), some (.int (zi b))]) (S' := [.int (zi b)]) rfl ?_
      by_cases hc4 : (b : Int) < 0
      · refine gy_ifT (pc' := 25) rfl (by decide) (by decide) (by omega) hc4 ?_
        exact gz_end (I := .new 108) (len := 3) rfl (Or.inr (by decide)) ⟨hS, Or.inr ⟨rfl, rfl⟩⟩
      · refine gy_ifF rfl (by decide) (by decide) (by omega) hc4 ?_
        refine gz_s 2 (pc' := 22) (L' := [some (.ref x), some (.int (zi a)), some (.int (zi b))]) (S' := [.int (zi 63), .int (zi b)]) rfl ?_
        by_cases hc5 : (b : Int) ≤ 63
        · refine gy_icT (pc' := 35) rfl (by decide) (by decide) (by omega) (by omega) hc5 ?_
          refine gz_s 1 (pc' := 36) (L' := [some (.ref x), some (.int (zi a)), some (.int (zi b))]) (S' := [.ref x]) rfl ?_
          refine gs_gtk rfl (by decide) rfl hS.1 tx rfl rfl epic ?_
          refine gy_s 6 (pc' := 46) (L' := [some (.ref x), some (.int (zi a)), some (.int (zi b))]) (S' := [.int (zi 3), .int (zi b), .int ((zi b) &&& (zi 7)), .int (zi a), .ref pic]) (L2 := [some (.ref x), some (.int (zi a)), some (.int (zi b))]) (S2 := [.int (zi 3), .int (zi b), .int (zi (b % 8)), .int (zi a), .ref pic]) rfl (by simp only [zi_add, zi_sub, zi_mul, zi_neg, zi_and1, zi_and7, zi_and15, zi_and31, zi_and255]) (by simp only [zi_add, zi_sub, zi_mul, zi_neg, zi_and1, zi_and7, zi_and15, zi_and31, zi_and255]) ?_
          refine gy_shc (n := 3) (v := 8) rfl (by decide) (by omega) (by decide) (by decide) rfl ?_
          have hl6 : h.2.2.2.1 coo = h.2.2.2.1 coo := congrFun hS.2.2.2.2.1 coo
          refine gz_call rfl (by decide) rfl (by decide) (by decide) (gcal_of rfl rfl rfl (Nat.le_of_ble_eq_true rfl) (gJ.recv (G := gGG) hS.1 tpic rfl rfl)) (cl_Picture_exactAt _ hS.1 pic tpic a (by omega) (b % 8) (by omega) (b / 8) (by omega) bn ebn tbn b0 eb0 tb0 b1 eb1 tb1 b2 eb2 tb2 coo er4o tcoo (gSta.fr hS.2 (by decide) hyst) (vvo 0) excno (by omega) (vvo 10) extq0o (by omega) (vvo 18) extq1o (by omega) (vvo 26) extq2o (by omega) (by omega) (by omega) (by omega) (by omega) uq) (fun q7 _ wq7 => ?_)
          obtain ⟨pq7, oq7, hq7⟩ := q7
          obtain ⟨xq7, zq7, gq7, aq7, bq7⟩ := wq7
          refine ⟨_, gq7, ?_⟩
          show gz gPP gGG gcn _ _ 50 [some (.ref x), some (.int (zi a)), some (.int (zi b))] [.long (zl zq7)] hq7 _
          have sq7 : gSs rT 1027 ty [] h hq7 := gSs.tr hS xq7 (by decide)
          have s8 := (xq7.2.2.2.2.2 x 2 (by rw [tx]; decide)).trans epic
          have s9 := (xq7.2.2.2.2.2 pic 0 (by rw [tpic]; decide)).trans ebn
          have s10 := (xq7.2.2.2.2.2 bn 0 (by rw [tbn]; decide)).trans eb0
          have s11 := (xq7.2.2.2.2.2 bn 1 (by rw [tbn]; decide)).trans eb1
          have s12 := (xq7.2.2.2.2.2 bn 2 (by rw [tbn]; decide)).trans eb2
          have s13 := (xq7.2.2.2.2.2 pic 2 (by rw [tpic]; decide)).trans er4o
          have s14 := (xq7.2.2.2.2.2 pic 3 (by rw [tpic]; decide)).trans er5o
          have s15 := (xq7.2.2.2.2.2 pic 7 (by rw [tpic]; decide)).trans excno
          have s16 := (xq7.2.2.2.2.2 pic 12 (by rw [tpic]; decide)).trans exuco
          have s17 := (xq7.2.2.2.2.2 pic 13 (by rw [tpic]; decide)).trans exuro
          have s18 := (xq7.2.2.2.2.2 pic 8 (by rw [tpic]; decide)).trans exblo
          have s19 := (xq7.2.2.2.2.2 pic 5 (by rw [tpic]; decide)).trans exwo
          have s20 := (xq7.2.2.2.2.2 pic 6 (by rw [tpic]; decide)).trans exhho
          have s21 := (xq7.2.2.2.2.2 pic 10 (by rw [tpic]; decide)).trans exgho
          have s22 := (xq7.2.2.2.2.2 pic 11 (by rw [tpic]; decide)).trans exgvo
          have s23 := (xq7.2.2.2.2.2 b0 1 (by rw [tb0]; decide)).trans exhb0o
          have s24 := (xq7.2.2.2.2.2 b0 2 (by rw [tb0]; decide)).trans exvb0o
          have s25 := (xq7.2.2.2.2.2 b0 3 (by rw [tb0]; decide)).trans extq0o
          have s26 := (xq7.2.2.2.2.2 b0 4 (by rw [tb0]; decide)).trans exC0o
          have s27 := (xq7.2.2.2.2.2 b0 5 (by rw [tb0]; decide)).trans exR0o
          have s28 := (xq7.2.2.2.2.2 b0 6 (by rw [tb0]; decide)).trans exoc0o
          have s29 := (xq7.2.2.2.2.2 b0 7 (by rw [tb0]; decide)).trans exor0o
          have s30 := (xq7.2.2.2.2.2 b0 8 (by rw [tb0]; decide)).trans exf0o
          have s31 := (xq7.2.2.2.2.2 b1 1 (by rw [tb1]; decide)).trans exhb1o
          have s32 := (xq7.2.2.2.2.2 b1 2 (by rw [tb1]; decide)).trans exvb1o
          have s33 := (xq7.2.2.2.2.2 b1 3 (by rw [tb1]; decide)).trans extq1o
          have s34 := (xq7.2.2.2.2.2 b1 4 (by rw [tb1]; decide)).trans exC1o
          have s35 := (xq7.2.2.2.2.2 b1 5 (by rw [tb1]; decide)).trans exR1o
          have s36 := (xq7.2.2.2.2.2 b1 6 (by rw [tb1]; decide)).trans exoc1o
          have s37 := (xq7.2.2.2.2.2 b1 7 (by rw [tb1]; decide)).trans exor1o
          have s38 := (xq7.2.2.2.2.2 b1 8 (by rw [tb1]; decide)).trans exf1o
          have s39 := (xq7.2.2.2.2.2 b2 1 (by rw [tb2]; decide)).trans exhb2o
          have s40 := (xq7.2.2.2.2.2 b2 2 (by rw [tb2]; decide)).trans exvb2o
          have s41 := (xq7.2.2.2.2.2 b2 3 (by rw [tb2]; decide)).trans extq2o
          have s42 := (xq7.2.2.2.2.2 b2 4 (by rw [tb2]; decide)).trans exC2o
          have s43 := (xq7.2.2.2.2.2 b2 5 (by rw [tb2]; decide)).trans exR2o
          have s44 := (xq7.2.2.2.2.2 b2 6 (by rw [tb2]; decide)).trans exoc2o
          have s45 := (xq7.2.2.2.2.2 b2 7 (by rw [tb2]; decide)).trans exor2o
          have s46 := (xq7.2.2.2.2.2 b2 8 (by rw [tb2]; decide)).trans exf2o
          have pr47 := gPC.fr xq7.2 (by decide) hypc
          exact gz_end (I := .lreturn) (len := 1) rfl (Or.inl rfl) ⟨sq7, Or.inl ⟨zq7, rfl, (by omega), (by omega)⟩⟩
        · refine gy_icF rfl (by decide) (by decide) (by omega) (by omega) hc5 ?_
          exact gz_end (I := .new 108) (len := 3) rfl (Or.inr (by decide)) ⟨hS, Or.inr ⟨rfl, rfl⟩⟩
set_option maxRecDepth 20000 in
set_option maxHeartbeats 4000000 in
theorem cl_DctFilter_told (d : Nat) {ty : Nat → Nat} {h : gH} (hJ : gJ rT 1027 ty h) (x : Nat) (tx : ty x = 50) (a : Int) (ra : (-2147483648) ≤ a ∧ a ≤ 2147483647) (b : Int) (rb : (-2147483648) ≤ b ∧ b ≤ 2147483647) (pic : Nat) (epic : h.2.2.2.2 x 2 = .ref pic) (tpic : ty pic = 54) (bn : Nat) (ebn : h.2.2.2.2 pic 0 = .ref bn) (tbn : ty bn = 57) (b0 : Nat) (eb0 : h.2.2.2.2 bn 0 = .ref b0) (tb0 : ty b0 = 82) (b1 : Nat) (eb1 : h.2.2.2.2 bn 1 = .ref b1) (tb1 : ty b1 = 83) (b2 : Nat) (eb2 : h.2.2.2.2 bn 2 = .ref b2) (tb2 : ty b2 = 84) (ld : Int) (rld : 0 ≤ ld ∧ ld ≤ 192) (uq : gUq ty) (hypc : gPC ty pic b0 b1 b2 ld h) : gz gPP gGG gcn (d + 2) gt81 0 (gent [.ref x, .int (zi a), .int (zi b)] 4) [] h (fun q _ => gSs rT 1027 ty [] h q.2.2 ∧ ((∃ z : Int, gfin gt81 q.1 q.2.1 = some (some (.int (zi z))) ∧ (-2147483648) ≤ z ∧ z ≤ 2147483647) ∨ (q.2.1 = [] ∧ ((q.1 = 36))))) := by
  have hS : gSs rT 1027 ty [] h h := gSs.rf hJ
  have hpq1 := hypc
  obtain ⟨_, bno, coo, dmo, vvo, ⟨tbno, tcoo, tdmo⟩, ⟨er0o, er1o, er2o, er3o, er4o, er5o⟩, hvvo, hrro, ⟨yy0o, yy1o, yy2o, yy3o, yy4o, yy5o, yy6o, yy7o⟩, ll0o, ll1o, ll2o, ll3o⟩ := hpq1
  have excno : h.2.2.2.2 pic 7 = .int (zi (vvo 0)) := hvvo (0, 7, 0) (by decide)
  have rrcno : 0 ≤ vvo 0 ∧ vvo 0 ≤ 3 := hrro (0, 0, 3) (by decide)
  have exuco : h.2.2.2.2 pic 12 = .int (zi (vvo 1)) := hvvo (0, 12, 1) (by decide)
  have rruco : 0 ≤ vvo 1 ∧ vvo 1 ≤ 8 := hrro (1, 0, 8) (by decide)
  have exuro : h.2.2.2.2 pic 13 = .int (zi (vvo 2)) := hvvo (0, 13, 2) (by decide)
  have rruro : 0 ≤ vvo 2 ∧ vvo 2 ≤ 8 := hrro (2, 0, 8) (by decide)
  have exblo : h.2.2.2.2 pic 8 = .int (zi (vvo 3)) := hvvo (0, 8, 3) (by decide)
  have rrblo : 0 ≤ vvo 3 ∧ vvo 3 ≤ 192 := hrro (3, 0, 192) (by decide)
  have exwo : h.2.2.2.2 pic 5 = .int (zi (vvo 4)) := hvvo (0, 5, 4) (by decide)
  have rrwo : 0 ≤ vvo 4 ∧ vvo 4 ≤ 64 := hrro (4, 0, 64) (by decide)
  have exhho : h.2.2.2.2 pic 6 = .int (zi (vvo 5)) := hvvo (0, 6, 5) (by decide)
  have rrhho : 0 ≤ vvo 5 ∧ vvo 5 ≤ 64 := hrro (5, 0, 64) (by decide)
  have exgho : h.2.2.2.2 pic 10 = .int (zi (vvo 6)) := hvvo (0, 10, 6) (by decide)
  have rrgho : 1 ≤ vvo 6 ∧ vvo 6 ≤ 2 := hrro (6, 1, 2) (by decide)
  have exgvo : h.2.2.2.2 pic 11 = .int (zi (vvo 7)) := hvvo (0, 11, 7) (by decide)
  have rrgvo : 1 ≤ vvo 7 ∧ vvo 7 ≤ 2 := hrro (7, 1, 2) (by decide)
  have exhb0o : h.2.2.2.2 b0 1 = .int (zi (vvo 8)) := hvvo (1, 1, 8) (by decide)
  have rrhb0o : (-1) ≤ vvo 8 ∧ vvo 8 ≤ 15 := hrro (8, (-1), 15) (by decide)
  have exvb0o : h.2.2.2.2 b0 2 = .int (zi (vvo 9)) := hvvo (1, 2, 9) (by decide)
  have rrvb0o : 0 ≤ vvo 9 ∧ vvo 9 ≤ 15 := hrro (9, 0, 15) (by decide)
  have extq0o : h.2.2.2.2 b0 3 = .int (zi (vvo 10)) := hvvo (1, 3, 10) (by decide)
  have rrtq0o : (-1) ≤ vvo 10 ∧ vvo 10 ≤ 255 := hrro (10, (-1), 255) (by decide)
  have exC0o : h.2.2.2.2 b0 4 = .int (zi (vvo 11)) := hvvo (1, 4, 11) (by decide)
  have rrC0o : 0 ≤ vvo 11 ∧ vvo 11 ≤ 16 := hrro (11, 0, 16) (by decide)
  have exR0o : h.2.2.2.2 b0 5 = .int (zi (vvo 12)) := hvvo (1, 5, 12) (by decide)
  have rrR0o : 0 ≤ vvo 12 ∧ vvo 12 ≤ 16 := hrro (12, 0, 16) (by decide)
  have exoc0o : h.2.2.2.2 b0 6 = .int (zi (vvo 13)) := hvvo (1, 6, 13) (by decide)
  have rroc0o : 0 ≤ vvo 13 ∧ vvo 13 ≤ 16 := hrro (13, 0, 16) (by decide)
  have exor0o : h.2.2.2.2 b0 7 = .int (zi (vvo 14)) := hvvo (1, 7, 14) (by decide)
  have rror0o : 0 ≤ vvo 14 ∧ vvo 14 ≤ 16 := hrro (14, 0, 16) (by decide)
  have exf0o : h.2.2.2.2 b0 8 = .int (zi (vvo 15)) := hvvo (1, 8, 15) (by decide)
  have rrf0o : 0 ≤ vvo 15 ∧ vvo 15 ≤ 192 := hrro (15, 0, 192) (by decide)
  have exhb1o : h.2.2.2.2 b1 1 = .int (zi (vvo 16)) := hvvo (2, 1, 16) (by decide)
  have rrhb1o : (-1) ≤ vvo 16 ∧ vvo 16 ≤ 15 := hrro (16, (-1), 15) (by decide)
  have exvb1o : h.2.2.2.2 b1 2 = .int (zi (vvo 17)) := hvvo (2, 2, 17) (by decide)
  have rrvb1o : 0 ≤ vvo 17 ∧ vvo 17 ≤ 15 := hrro (17, 0, 15) (by decide)
  have extq1o : h.2.2.2.2 b1 3 = .int (zi (vvo 18)) := hvvo (2, 3, 18) (by decide)
  have rrtq1o : (-1) ≤ vvo 18 ∧ vvo 18 ≤ 255 := hrro (18, (-1), 255) (by decide)
  have exC1o : h.2.2.2.2 b1 4 = .int (zi (vvo 19)) := hvvo (2, 4, 19) (by decide)
  have rrC1o : 0 ≤ vvo 19 ∧ vvo 19 ≤ 16 := hrro (19, 0, 16) (by decide)
  have exR1o : h.2.2.2.2 b1 5 = .int (zi (vvo 20)) := hvvo (2, 5, 20) (by decide)
  have rrR1o : 0 ≤ vvo 20 ∧ vvo 20 ≤ 16 := hrro (20, 0, 16) (by decide)
  have exoc1o : h.2.2.2.2 b1 6 = .int (zi (vvo 21)) := hvvo (2, 6, 21) (by decide)
  have rroc1o : 0 ≤ vvo 21 ∧ vvo 21 ≤ 16 := hrro (21, 0, 16) (by decide)
  have exor1o : h.2.2.2.2 b1 7 = .int (zi (vvo 22)) := hvvo (2, 7, 22) (by decide)
  have rror1o : 0 ≤ vvo 22 ∧ vvo 22 ≤ 16 := hrro (22, 0, 16) (by decide)
  have exf1o : h.2.2.2.2 b1 8 = .int (zi (vvo 23)) := hvvo (2, 8, 23) (by decide)
  have rrf1o : 0 ≤ vvo 23 ∧ vvo 23 ≤ 192 := hrro (23, 0, 192) (by decide)
  have exhb2o : h.2.2.2.2 b2 1 = .int (zi (vvo 24)) := hvvo (3, 1, 24) (by decide)
  have rrhb2o : (-1) ≤ vvo 24 ∧ vvo 24 ≤ 15 := hrro (24, (-1), 15) (by decide)
  have exvb2o : h.2.2.2.2 b2 2 = .int (zi (vvo 25)) := hvvo (3, 2, 25) (by decide)
  have rrvb2o : 0 ≤ vvo 25 ∧ vvo 25 ≤ 15 := hrro (25, 0, 15) (by decide)
  have extq2o : h.2.2.2.2 b2 3 = .int (zi (vvo 26)) := hvvo (3, 3, 26) (by decide)
  have rrtq2o : (-1) ≤ vvo 26 ∧ vvo 26 ≤ 255 := hrro (26, (-1), 255) (by decide)
  have exC2o : h.2.2.2.2 b2 4 = .int (zi (vvo 27)) := hvvo (3, 4, 27) (by decide)
  have rrC2o : 0 ≤ vvo 27 ∧ vvo 27 ≤ 16 := hrro (27, 0, 16) (by decide)
  have exR2o : h.2.2.2.2 b2 5 = .int (zi (vvo 28)) := hvvo (3, 5, 28) (by decide)
  have rrR2o : 0 ≤ vvo 28 ∧ vvo 28 ≤ 16 := hrro (28, 0, 16) (by decide)
  have exoc2o : h.2.2.2.2 b2 6 = .int (zi (vvo 29)) := hvvo (3, 6, 29) (by decide)
  have rroc2o : 0 ≤ vvo 29 ∧ vvo 29 ≤ 16 := hrro (29, 0, 16) (by decide)
  have exor2o : h.2.2.2.2 b2 7 = .int (zi (vvo 30)) := hvvo (3, 7, 30) (by decide)
  have rror2o : 0 ≤ vvo 30 ∧ vvo 30 ≤ 16 := hrro (30, 0, 16) (by decide)
  have exf2o : h.2.2.2.2 b2 8 = .int (zi (vvo 31)) := hvvo (3, 8, 31) (by decide)
  have rrf2o : 0 ≤ vvo 31 ∧ vvo 31 ≤ 192 := hrro (31, 0, 192) (by decide)
  refine gz_s 1 (pc' := 1) (L' := [some (.ref x), some (.int (zi a)), some (.int (zi b)), none]) (S' := [.int (zi a)]) rfl ?_
  have jn2 : ∀ (jn2v0 : Int), ((3 ≤ jn2v0) ∧ (jn2v0 ≤ 6) ∧ (a < 0 → jn2v0 = 6) ∧ (0 ≤ a → jn2v0 = 3)) → gz gPP gGG gcn (d + 2) gt81 10 [some (.ref x), some (.int (zi a)), some (.int (zi b)), none] [.int (zi jn2v0)] h (fun q _ => gSs rT 1027 ty [] h q.2.2 ∧ ((∃ z : Int, gfin gt81 q.1 q.2.1 = some (some (.int (zi z))) ∧ (-2147483648) ≤ z ∧ z ≤ 2147483647) ∨ (q.2.1 = [] ∧ ((q.1 = 36))))) := by
    intro jn2v0 jn2d
    refine gz_s 3 (pc' := 13) (L' := [some (.ref x), some (.int (zi a)), some (.int (zi b)), some (.int (zi jn2v0))]) (S' := [.int (zi (-1)), .int (zi a)]) rfl ?_
    by_cases hc3 : (a : Int) < (-1)
    · refine gy_icT (pc' := 36) rfl (by decide) (by decide) (by omega) (by omega) hc3 ?_
      exact gz_end (I := .new 84) (len := 3) rfl (Or.inr (by decide)) ⟨hS, Or.inr ⟨rfl, rfl⟩⟩
    · refine gy_icF rfl (by decide) (by decide) (by omega) (by omega) hc3 ?_
      refine gz_s 2 (pc' := 18) (L' := [some (.ref x), some (.int (zi a)), some (.int (zi b)), some (.int (zi jn2v0))]) (S' := [.ref x, .int (zi a)]) rfl ?_
      refine gs_gtk rfl (by decide) rfl hS.1 tx rfl rfl epic ?_
      refine gs_gtk rfl (by decide) rfl hS.1 tpic rfl rfl exblo ?_
      by_cases hc4 : (vvo 3 : Int) ≤ a
      · refine gy_icT (pc' := 36) rfl (by decide) (by decide) (by omega) (by omega) hc4 ?_
        exact gz_end (I := .new 84) (len := 3) rfl (Or.inr (by decide)) ⟨hS, Or.inr ⟨rfl, rfl⟩⟩
      · refine gy_icF rfl (by decide) (by decide) (by omega) (by omega) hc4 ?_
        refine gz_s 1 (pc' := 28) (L' := [some (.ref x), some (.int (zi a)), some (.int (zi b)), some (.int (zi jn2v0))]) (S' := [.int (zi b)]) rfl ?_
        by_cases hc5 : (b : Int) < 0
        · refine gy_ifT (pc' := 36) rfl (by decide) (by decide) (by omega) hc5 ?_
          exact gz_end (I := .new 84) (len := 3) rfl (Or.inr (by decide)) ⟨hS, Or.inr ⟨rfl, rfl⟩⟩
        · refine gy_ifF rfl (by decide) (by decide) (by omega) hc5 ?_
          refine gz_s 2 (pc' := 33) (L' := [some (.ref x), some (.int (zi a)), some (.int (zi b)), some (.int (zi jn2v0))]) (S' := [.int (zi jn2v0), .int (zi b)]) rfl ?_
          by_cases hc6 : (b : Int) ≤ jn2v0
          · refine gy_icT (pc' := 46) rfl (by decide) (by decide) (by omega) (by omega) hc6 ?_
            refine gz_s 1 (pc' := 47) (L' := [some (.ref x), some (.int (zi a)), some (.int (zi b)), some (.int (zi jn2v0))]) (S' := [.int (zi a)]) rfl ?_
            by_cases hc7 : (0 : Int) ≤ a
            · refine gy_ifT (pc' := 75) rfl (by decide) (by decide) (by omega) hc7 ?_
              refine gz_s 1 (pc' := 76) (L' := [some (.ref x), some (.int (zi a)), some (.int (zi b)), some (.int (zi jn2v0))]) (S' := [.ref x]) rfl ?_
              refine gs_gtk rfl (by decide) rfl hS.1 tx rfl rfl epic ?_
              refine gz_s 2 (pc' := 81) (L' := [some (.ref x), some (.int (zi a)), some (.int (zi b)), some (.int (zi jn2v0))]) (S' := [.int (zi b), .int (zi a), .ref pic]) rfl ?_
              have hl8 : h.2.2.2.1 dmo = h.2.2.2.1 dmo := congrFun hS.2.2.2.2.1 dmo
              refine gz_call rfl (by decide) rfl (by decide) (by decide) (gcal_of rfl rfl rfl (Nat.le_of_ble_eq_true rfl) (gJ.recv (G := gGG) hS.1 tpic rfl rfl)) (cl_Picture_toldOfBlock _ hS.1 pic tpic a (by omega) b (by omega) bn ebn tbn b0 eb0 tb0 b1 eb1 tb1 b2 eb2 tb2 dmo er5o tdmo (vvo 0) excno (by omega) (vvo 3) exblo (by omega) (by omega) (by omega) uq) (fun q9 _ wq9 => ?_)
              obtain ⟨pq9, oq9, hq9⟩ := q9
              obtain ⟨xq9, zq9, gq9, aq9, bq9⟩ := wq9
              refine ⟨_, gq9, ?_⟩
              show gz gPP gGG gcn _ _ 84 [some (.ref x), some (.int (zi a)), some (.int (zi b)), some (.int (zi jn2v0))] [.int (zi zq9)] hq9 _
              have sq9 : gSs rT 1027 ty [] h hq9 := gSs.tr hS xq9 (by decide)
              have s10 := (xq9.2.2.2.2.2 x 2 (by rw [tx]; decide)).trans epic
              have s11 := (xq9.2.2.2.2.2 pic 0 (by rw [tpic]; decide)).trans ebn
              have s12 := (xq9.2.2.2.2.2 bn 0 (by rw [tbn]; decide)).trans eb0
              have s13 := (xq9.2.2.2.2.2 bn 1 (by rw [tbn]; decide)).trans eb1
              have s14 := (xq9.2.2.2.2.2 bn 2 (by rw [tbn]; decide)).trans eb2
              have s15 := (xq9.2.2.2.2.2 pic 2 (by rw [tpic]; decide)).trans er4o
              have s16 := (xq9.2.2.2.2.2 pic 3 (by rw [tpic]; decide)).trans er5o
              have s17 := (xq9.2.2.2.2.2 pic 7 (by rw [tpic]; decide)).trans excno
              have s18 := (xq9.2.2.2.2.2 pic 12 (by rw [tpic]; decide)).trans exuco
              have s19 := (xq9.2.2.2.2.2 pic 13 (by rw [tpic]; decide)).trans exuro
              have s20 := (xq9.2.2.2.2.2 pic 8 (by rw [tpic]; decide)).trans exblo
              have s21 := (xq9.2.2.2.2.2 pic 5 (by rw [tpic]; decide)).trans exwo
              have s22 := (xq9.2.2.2.2.2 pic 6 (by rw [tpic]; decide)).trans exhho
              have s23 := (xq9.2.2.2.2.2 pic 10 (by rw [tpic]; decide)).trans exgho
              have s24 := (xq9.2.2.2.2.2 pic 11 (by rw [tpic]; decide)).trans exgvo
              have s25 := (xq9.2.2.2.2.2 b0 1 (by rw [tb0]; decide)).trans exhb0o
              have s26 := (xq9.2.2.2.2.2 b0 2 (by rw [tb0]; decide)).trans exvb0o
              have s27 := (xq9.2.2.2.2.2 b0 3 (by rw [tb0]; decide)).trans extq0o
              have s28 := (xq9.2.2.2.2.2 b0 4 (by rw [tb0]; decide)).trans exC0o
              have s29 := (xq9.2.2.2.2.2 b0 5 (by rw [tb0]; decide)).trans exR0o
              have s30 := (xq9.2.2.2.2.2 b0 6 (by rw [tb0]; decide)).trans exoc0o
              have s31 := (xq9.2.2.2.2.2 b0 7 (by rw [tb0]; decide)).trans exor0o
              have s32 := (xq9.2.2.2.2.2 b0 8 (by rw [tb0]; decide)).trans exf0o
              have s33 := (xq9.2.2.2.2.2 b1 1 (by rw [tb1]; decide)).trans exhb1o
              have s34 := (xq9.2.2.2.2.2 b1 2 (by rw [tb1]; decide)).trans exvb1o
              have s35 := (xq9.2.2.2.2.2 b1 3 (by rw [tb1]; decide)).trans extq1o
              have s36 := (xq9.2.2.2.2.2 b1 4 (by rw [tb1]; decide)).trans exC1o
              have s37 := (xq9.2.2.2.2.2 b1 5 (by rw [tb1]; decide)).trans exR1o
              have s38 := (xq9.2.2.2.2.2 b1 6 (by rw [tb1]; decide)).trans exoc1o
              have s39 := (xq9.2.2.2.2.2 b1 7 (by rw [tb1]; decide)).trans exor1o
              have s40 := (xq9.2.2.2.2.2 b1 8 (by rw [tb1]; decide)).trans exf1o
              have s41 := (xq9.2.2.2.2.2 b2 1 (by rw [tb2]; decide)).trans exhb2o
              have s42 := (xq9.2.2.2.2.2 b2 2 (by rw [tb2]; decide)).trans exvb2o
              have s43 := (xq9.2.2.2.2.2 b2 3 (by rw [tb2]; decide)).trans extq2o
              have s44 := (xq9.2.2.2.2.2 b2 4 (by rw [tb2]; decide)).trans exC2o
              have s45 := (xq9.2.2.2.2.2 b2 5 (by rw [tb2]; decide)).trans exR2o
              have s46 := (xq9.2.2.2.2.2 b2 6 (by rw [tb2]; decide)).trans exoc2o
              have s47 := (xq9.2.2.2.2.2 b2 7 (by rw [tb2]; decide)).trans exor2o
              have s48 := (xq9.2.2.2.2.2 b2 8 (by rw [tb2]; decide)).trans exf2o
              have pr49 := gPC.fr xq9.2 (by decide) hypc
              exact gz_end (I := .ireturn) (len := 1) rfl (Or.inl rfl) ⟨sq9, Or.inl ⟨zq9, rfl, (by omega), (by omega)⟩⟩
            · refine gy_ifF rfl (by decide) (by decide) (by omega) hc7 ?_
              refine gz_s 2 (pc' := 53) (L' := [some (.ref x), some (.int (zi a)), some (.int (zi b)), some (.int (zi jn2v0))]) (S' := [.int (zi 6), .int (zi b)]) rfl ?_
              by_cases hc50 : ¬ (b : Int) = 6
              · refine gy_icT (pc' := 66) rfl (by decide) (by decide) (by omega) (by omega) hc50 ?_
                refine gz_s 1 (pc' := 67) (L' := [some (.ref x), some (.int (zi a)), some (.int (zi b)), some (.int (zi jn2v0))]) (S' := [.ref x]) rfl ?_
                refine gs_gtk rfl (by decide) rfl hS.1 tx rfl rfl epic ?_
                refine gz_s 1 (pc' := 71) (L' := [some (.ref x), some (.int (zi a)), some (.int (zi b)), some (.int (zi jn2v0))]) (S' := [.int (zi b), .ref pic]) rfl ?_
                have hl51 : h.2.2.2.1 dmo = h.2.2.2.1 dmo := congrFun hS.2.2.2.2.1 dmo
                refine gz_call rfl (by decide) rfl (by decide) (by decide) (gcal_of rfl rfl rfl (Nat.le_of_ble_eq_true rfl) (gJ.recv (G := gGG) hS.1 tpic rfl rfl)) (cl_Picture_toldOfAll _ hS.1 pic tpic b (by omega) dmo er5o tdmo (vvo 3) exblo (by omega) (by omega) uq) (fun q52 _ wq52 => ?_)
                obtain ⟨pq52, oq52, hq52⟩ := q52
                obtain ⟨xq52, zq52, gq52, aq52, bq52⟩ := wq52
                refine ⟨_, gq52, ?_⟩
                show gz gPP gGG gcn _ _ 74 [some (.ref x), some (.int (zi a)), some (.int (zi b)), some (.int (zi jn2v0))] [.int (zi zq52)] hq52 _
                have sq52 : gSs rT 1027 ty [] h hq52 := gSs.tr hS xq52 (by decide)
                have s53 := (xq52.2.2.2.2.2 x 2 (by rw [tx]; decide)).trans epic
                have s54 := (xq52.2.2.2.2.2 pic 0 (by rw [tpic]; decide)).trans ebn
                have s55 := (xq52.2.2.2.2.2 bn 0 (by rw [tbn]; decide)).trans eb0
                have s56 := (xq52.2.2.2.2.2 bn 1 (by rw [tbn]; decide)).trans eb1
                have s57 := (xq52.2.2.2.2.2 bn 2 (by rw [tbn]; decide)).trans eb2
                have s58 := (xq52.2.2.2.2.2 pic 2 (by rw [tpic]; decide)).trans er4o
                have s59 := (xq52.2.2.2.2.2 pic 3 (by rw [tpic]; decide)).trans er5o
                have s60 := (xq52.2.2.2.2.2 pic 7 (by rw [tpic]; decide)).trans excno
                have s61 := (xq52.2.2.2.2.2 pic 12 (by rw [tpic]; decide)).trans exuco
                have s62 := (xq52.2.2.2.2.2 pic 13 (by rw [tpic]; decide)).trans exuro
                have s63 := (xq52.2.2.2.2.2 pic 8 (by rw [tpic]; decide)).trans exblo
                have s64 := (xq52.2.2.2.2.2 pic 5 (by rw [tpic]; decide)).trans exwo
                have s65 := (xq52.2.2.2.2.2 pic 6 (by rw [tpic]; decide)).trans exhho
                have s66 := (xq52.2.2.2.2.2 pic 10 (by rw [tpic]; decide)).trans exgho
                have s67 := (xq52.2.2.2.2.2 pic 11 (by rw [tpic]; decide)).trans exgvo
                have s68 := (xq52.2.2.2.2.2 b0 1 (by rw [tb0]; decide)).trans exhb0o
                have s69 := (xq52.2.2.2.2.2 b0 2 (by rw [tb0]; decide)).trans exvb0o
                have s70 := (xq52.2.2.2.2.2 b0 3 (by rw [tb0]; decide)).trans extq0o
                have s71 := (xq52.2.2.2.2.2 b0 4 (by rw [tb0]; decide)).trans exC0o
                have s72 := (xq52.2.2.2.2.2 b0 5 (by rw [tb0]; decide)).trans exR0o
                have s73 := (xq52.2.2.2.2.2 b0 6 (by rw [tb0]; decide)).trans exoc0o
                have s74 := (xq52.2.2.2.2.2 b0 7 (by rw [tb0]; decide)).trans exor0o
                have s75 := (xq52.2.2.2.2.2 b0 8 (by rw [tb0]; decide)).trans exf0o
                have s76 := (xq52.2.2.2.2.2 b1 1 (by rw [tb1]; decide)).trans exhb1o
                have s77 := (xq52.2.2.2.2.2 b1 2 (by rw [tb1]; decide)).trans exvb1o
                have s78 := (xq52.2.2.2.2.2 b1 3 (by rw [tb1]; decide)).trans extq1o
                have s79 := (xq52.2.2.2.2.2 b1 4 (by rw [tb1]; decide)).trans exC1o
                have s80 := (xq52.2.2.2.2.2 b1 5 (by rw [tb1]; decide)).trans exR1o
                have s81 := (xq52.2.2.2.2.2 b1 6 (by rw [tb1]; decide)).trans exoc1o
                have s82 := (xq52.2.2.2.2.2 b1 7 (by rw [tb1]; decide)).trans exor1o
                have s83 := (xq52.2.2.2.2.2 b1 8 (by rw [tb1]; decide)).trans exf1o
                have s84 := (xq52.2.2.2.2.2 b2 1 (by rw [tb2]; decide)).trans exhb2o
                have s85 := (xq52.2.2.2.2.2 b2 2 (by rw [tb2]; decide)).trans exvb2o
                have s86 := (xq52.2.2.2.2.2 b2 3 (by rw [tb2]; decide)).trans extq2o
                have s87 := (xq52.2.2.2.2.2 b2 4 (by rw [tb2]; decide)).trans exC2o
                have s88 := (xq52.2.2.2.2.2 b2 5 (by rw [tb2]; decide)).trans exR2o
                have s89 := (xq52.2.2.2.2.2 b2 6 (by rw [tb2]; decide)).trans exoc2o
                have s90 := (xq52.2.2.2.2.2 b2 7 (by rw [tb2]; decide)).trans exor2o
                have s91 := (xq52.2.2.2.2.2 b2 8 (by rw [tb2]; decide)).trans exf2o
                have pr92 := gPC.fr xq52.2 (by decide) hypc
                exact gz_end (I := .ireturn) (len := 1) rfl (Or.inl rfl) ⟨sq52, Or.inl ⟨zq52, rfl, (by omega), (by omega)⟩⟩
              · refine gy_icF rfl (by decide) (by decide) (by omega) (by omega) hc50 ?_
                refine gz_s 1 (pc' := 57) (L' := [some (.ref x), some (.int (zi a)), some (.int (zi b)), some (.int (zi jn2v0))]) (S' := [.ref x]) rfl ?_
                refine gs_gtr rfl (by decide) rfl hS.1 tx rfl rfl rfl (fun c93 ec93 tc93 => ?_)
                refine gs_get rfl (by decide) rfl hS.1 tc93 rfl rfl rfl (fun z94 ez94 az94 bz94 => ?_)
                refine gz_s 1 (pc' := 74) (L' := [some (.ref x), some (.int (zi a)), some (.int (zi b)), some (.int (zi jn2v0))]) (S' := [.int (zi z94)]) rfl ?_
                exact gz_end (I := .ireturn) (len := 1) rfl (Or.inl rfl) ⟨hS, Or.inl ⟨z94, rfl, (by omega), (by omega)⟩⟩
          · refine gy_icF rfl (by decide) (by decide) (by omega) (by omega) hc6 ?_
            exact gz_end (I := .new 84) (len := 3) rfl (Or.inr (by decide)) ⟨hS, Or.inr ⟨rfl, rfl⟩⟩
  by_cases hc95 : (0 : Int) ≤ a
  · refine gy_ifT (pc' := 9) rfl (by decide) (by decide) (by omega) hc95 ?_
    refine gz_s 1 (pc' := 10) (L' := [some (.ref x), some (.int (zi a)), some (.int (zi b)), none]) (S' := [.int (zi 3)]) rfl ?_
    exact jn2 3 (by omega)
  · refine gy_ifF rfl (by decide) (by decide) (by omega) hc95 ?_
    refine gz_s 2 (pc' := 10) (L' := [some (.ref x), some (.int (zi a)), some (.int (zi b)), none]) (S' := [.int (zi 6)]) rfl ?_
    exact jn2 6 (by omega)
set_option maxRecDepth 20000 in
set_option maxHeartbeats 4000000 in
theorem cl_DctFilter_table (d : Nat) {ty : Nat → Nat} {h : gH} (hJ : gJ rT 1027 ty h) (x : Nat) (tx : ty x = 50) (a : Int) (ra : (-2147483648) ≤ a ∧ a ≤ 2147483647) (b : Int) (rb : (-2147483648) ≤ b ∧ b ≤ 2147483647) (v : Int) (rv : (-2147483648) ≤ v ∧ v ≤ 2147483647) (uq : gUq ty) : gz gPP gGG gcn (d + 0) gt85 0 (gent [.ref x, .int (zi a), .int (zi b), .int (zi v)] 5) [] h (fun q _ => gSs rT 1027 ty [53999] h q.2.2 ∧ ((∃ z : Int, gfin gt85 q.1 q.2.1 = some (some (.int (zi z))) ∧ 0 ≤ z ∧ z ≤ 255) ∨ (q.2.1 = [] ∧ ((q.1 = 19) ∨ (q.1 = 46))))) := by
  have hS : gSs rT 1027 ty [53999] h h := gSs.rf hJ
  refine gz_s 1 (pc' := 1) (L' := [some (.ref x), some (.int (zi a)), some (.int (zi b)), some (.int (zi v)), none]) (S' := [.int (zi a)]) rfl ?_
  by_cases hc1 : (a : Int) < 0
  · refine gy_ifT (pc' := 19) rfl (by decide) (by decide) (by omega) hc1 ?_
    exact gz_end (I := .new 84) (len := 3) rfl (Or.inr (by decide)) ⟨hS, Or.inr ⟨rfl, Or.inl rfl⟩⟩
  · refine gy_ifF rfl (by decide) (by decide) (by omega) hc1 ?_
    refine gz_s 2 (pc' := 6) (L' := [some (.ref x), some (.int (zi a)), some (.int (zi b)), some (.int (zi v)), none]) (S' := [.int (zi 4), .int (zi a)]) rfl ?_
    by_cases hc2 : (4 : Int) ≤ a
    · refine gy_icT (pc' := 19) rfl (by decide) (by decide) (by omega) (by omega) hc2 ?_
      exact gz_end (I := .new 84) (len := 3) rfl (Or.inr (by decide)) ⟨hS, Or.inr ⟨rfl, Or.inl rfl⟩⟩
    · refine gy_icF rfl (by decide) (by decide) (by omega) (by omega) hc2 ?_
      refine gz_s 1 (pc' := 10) (L' := [some (.ref x), some (.int (zi a)), some (.int (zi b)), some (.int (zi v)), none]) (S' := [.int (zi b)]) rfl ?_
      by_cases hc3 : (b : Int) < 0
      · refine gy_ifT (pc' := 19) rfl (by decide) (by decide) (by omega) hc3 ?_
        exact gz_end (I := .new 84) (len := 3) rfl (Or.inr (by decide)) ⟨hS, Or.inr ⟨rfl, Or.inl rfl⟩⟩
      · refine gy_ifF rfl (by decide) (by decide) (by omega) hc3 ?_
        refine gz_s 2 (pc' := 16) (L' := [some (.ref x), some (.int (zi a)), some (.int (zi b)), some (.int (zi v)), none]) (S' := [.int (zi 63), .int (zi b)]) rfl ?_
        by_cases hc4 : (b : Int) ≤ 63
        · refine gy_icT (pc' := 29) rfl (by decide) (by decide) (by omega) (by omega) hc4 ?_
          refine gz_s 2 (pc' := 31) (L' := [some (.ref x), some (.int (zi a)), some (.int (zi b)), some (.int (zi v)), none]) (S' := [.int (zi (-1)), .int (zi v)]) rfl ?_
          by_cases hc5 : (v : Int) = (-1)
          · refine gy_icT (pc' := 56) rfl (by decide) (by decide) (by omega) (by omega) hc5 ?_
            refine gz_s 1 (pc' := 57) (L' := [some (.ref x), some (.int (zi a)), some (.int (zi b)), some (.int (zi v)), none]) (S' := [.ref x]) rfl ?_
            refine gs_gtr rfl (by decide) rfl hS.1 tx rfl rfl rfl (fun c6 ec6 tc6 => ?_)
            refine gy_s 5 (pc' := 66) (L' := [some (.ref x), some (.int (zi a)), some (.int (zi b)), some (.int (zi v)), none]) (S' := [.int (((zi a) * (zi 64)) + (zi b)), .ref c6]) (L2 := [some (.ref x), some (.int (zi a)), some (.int (zi b)), some (.int (zi v)), none]) (S2 := [.int (zi ((a * 64) + b)), .ref c6]) rfl (by simp only [zi_add, zi_sub, zi_mul, zi_neg, zi_and1, zi_and7, zi_and15, zi_and31, zi_and255]) (by simp only [zi_add, zi_sub, zi_mul, zi_neg, zi_and1, zi_and7, zi_and15, zi_and31, zi_and255]) ?_
            have hl7 : 256 ≤ h.2.2.2.1 c6 ∧ h.2.2.2.1 c6 ≤ 256 := gJ.rowl (G := gGG) hS.1 tc6 rfl
            refine gs_ald rfl (by decide) hS.1 tc6 rfl rfl rfl (by decide) (fun _ => rfl) (by omega) (by omega) (fun z8 ez8 az8 bz8 => ?_)
            refine gz_s 3 (pc' := 71) (L' := [some (.ref x), some (.int (zi a)), some (.int (zi b)), some (.int (zi v)), some (.int (zi z8))]) (S' := [.int (zi (-1)), .int (zi v)]) rfl ?_
            refine gy_icT (pc' := 86) rfl (by decide) (by decide) (by omega) (by omega) (by first | (simp [zc]; done) | (simp only [zc]; omega)) ?_
            refine gz_s 1 (pc' := 88) (L' := [some (.ref x), some (.int (zi a)), some (.int (zi b)), some (.int (zi v)), some (.int (zi z8))]) (S' := [.int (zi z8)]) rfl ?_
            exact gz_end (I := .ireturn) (len := 1) rfl (Or.inl rfl) ⟨hS, Or.inl ⟨z8, rfl, (by omega), (by omega)⟩⟩
          · refine gy_icF rfl (by decide) (by decide) (by omega) (by omega) hc5 ?_
            refine gz_s 2 (pc' := 36) (L' := [some (.ref x), some (.int (zi a)), some (.int (zi b)), some (.int (zi v)), none]) (S' := [.int (zi 1), .int (zi v)]) rfl ?_
            by_cases hc9 : (v : Int) < 1
            · refine gy_icT (pc' := 46) rfl (by decide) (by decide) (by omega) (by omega) hc9 ?_
              exact gz_end (I := .new 134) (len := 3) rfl (Or.inr (by decide)) ⟨hS, Or.inr ⟨rfl, Or.inr (rfl)⟩⟩
            · refine gy_icF rfl (by decide) (by decide) (by omega) (by omega) hc9 ?_
              refine gz_s 2 (pc' := 43) (L' := [some (.ref x), some (.int (zi a)), some (.int (zi b)), some (.int (zi v)), none]) (S' := [.int (zi 255), .int (zi v)]) rfl ?_
              by_cases hc10 : (v : Int) ≤ 255
              · refine gy_icT (pc' := 56) rfl (by decide) (by decide) (by omega) (by omega) hc10 ?_
                refine gz_s 1 (pc' := 57) (L' := [some (.ref x), some (.int (zi a)), some (.int (zi b)), some (.int (zi v)), none]) (S' := [.ref x]) rfl ?_
                refine gs_gtr rfl (by decide) rfl hS.1 tx rfl rfl rfl (fun c11 ec11 tc11 => ?_)
                refine gy_s 5 (pc' := 66) (L' := [some (.ref x), some (.int (zi a)), some (.int (zi b)), some (.int (zi v)), none]) (S' := [.int (((zi a) * (zi 64)) + (zi b)), .ref c11]) (L2 := [some (.ref x), some (.int (zi a)), some (.int (zi b)), some (.int (zi v)), none]) (S2 := [.int (zi ((a * 64) + b)), .ref c11]) rfl (by simp only [zi_add, zi_sub, zi_mul, zi_neg, zi_and1, zi_and7, zi_and15, zi_and31, zi_and255]) (by simp only [zi_add, zi_sub, zi_mul, zi_neg, zi_and1, zi_and7, zi_and15, zi_and31, zi_and255]) ?_
                have hl12 : 256 ≤ h.2.2.2.1 c11 ∧ h.2.2.2.1 c11 ≤ 256 := gJ.rowl (G := gGG) hS.1 tc11 rfl
                refine gs_ald rfl (by decide) hS.1 tc11 rfl rfl rfl (by decide) (fun _ => rfl) (by omega) (by omega) (fun z13 ez13 az13 bz13 => ?_)
                refine gz_s 3 (pc' := 71) (L' := [some (.ref x), some (.int (zi a)), some (.int (zi b)), some (.int (zi v)), some (.int (zi z13))]) (S' := [.int (zi (-1)), .int (zi v)]) rfl ?_
                refine gy_icF rfl (by decide) (by decide) (by omega) (by omega) (by first | (simp [zc]; done) | (simp only [zc]; omega)) ?_
                refine gz_s 1 (pc' := 75) (L' := [some (.ref x), some (.int (zi a)), some (.int (zi b)), some (.int (zi v)), some (.int (zi z13))]) (S' := [.ref x]) rfl ?_
                refine gs_gtk rfl (by decide) rfl hS.1 tx rfl rfl ec11 ?_
                refine gy_s 6 (pc' := 85) (L' := [some (.ref x), some (.int (zi a)), some (.int (zi b)), some (.int (zi v)), some (.int (zi z13))]) (S' := [.int (zi v), .int (((zi a) * (zi 64)) + (zi b)), .ref c11]) (L2 := [some (.ref x), some (.int (zi a)), some (.int (zi b)), some (.int (zi v)), some (.int (zi z13))]) (S2 := [.int (zi v), .int (zi ((a * 64) + b)), .ref c11]) rfl (by simp only [zi_add, zi_sub, zi_mul, zi_neg, zi_and1, zi_and7, zi_and15, zi_and31, zi_and255]) (by simp only [zi_add, zi_sub, zi_mul, zi_neg, zi_and1, zi_and7, zi_and15, zi_and31, zi_and255]) ?_
                have hl14 : 256 ≤ h.2.2.2.1 c11 ∧ h.2.2.2.1 c11 ≤ 256 := gJ.rowl (G := gGG) hS.1 tc11 rfl
                refine gs_ast rfl (by decide) hS tc11 rfl rfl rfl (by decide) (fun _ => rfl) (by omega) (by omega) (fun _ => (by decide : (53999 : Nat) ∈ ([53999] : List Nat))) (by omega) (by omega) (fun h15 sh15 eh15 fh15 => ?_)
                have s16 := (fh15 x 1 (fun q => absurd (((tx).symm.trans (congrArg ty q.1)).trans tc11) (by decide))).trans ec11
                have pr17 := gEl.set (i := (a * 64) + b) (z := v) uq tc11 (by decide) eh15 (by omega) (by omega)
                refine gz_s 1 (pc' := 88) (L' := [some (.ref x), some (.int (zi a)), some (.int (zi b)), some (.int (zi v)), some (.int (zi z13))]) (S' := [.int (zi z13)]) rfl ?_
                exact gz_end (I := .ireturn) (len := 1) rfl (Or.inl rfl) ⟨sh15, Or.inl ⟨z13, rfl, (by omega), (by omega)⟩⟩
              · refine gy_icF rfl (by decide) (by decide) (by omega) (by omega) hc10 ?_
                exact gz_end (I := .new 134) (len := 3) rfl (Or.inr (by decide)) ⟨hS, Or.inr ⟨rfl, Or.inr (rfl)⟩⟩
        · refine gy_icF rfl (by decide) (by decide) (by omega) (by omega) hc4 ?_
          exact gz_end (I := .new 84) (len := 3) rfl (Or.inr (by decide)) ⟨hS, Or.inr ⟨rfl, Or.inl rfl⟩⟩
set_option maxRecDepth 20000 in
set_option maxHeartbeats 4000000 in
theorem cl_DctFilter_point (d : Nat) {ty : Nat → Nat} {h : gH} (hJ : gJ rT 1027 ty h) (x : Nat) (tx : ty x = 50) (a : Int) (ra : (-2147483648) ≤ a ∧ a ≤ 2147483647) (b : Int) (rb : (-2147483648) ≤ b ∧ b ≤ 2147483647) (v : Int) (rv : (-2147483648) ≤ v ∧ v ≤ 2147483647) (uq : gUq ty) : gz gPP gGG gcn (d + 2) gt86 0 (gent [.ref x, .int (zi a), .int (zi b), .int (zi v)] 4) [] h (fun q _ => gSs rT 1027 ty [55001, 55002, 59999] h q.2.2 ∧ ((∃ z : Int, gfin gt86 q.1 q.2.1 = some (some (.int (zi z))) ∧ 0 ≤ z ∧ z ≤ 255) ∨ (q.2.1 = [] ∧ ((q.1 = 20) ∨ (q.1 = 41))))) := by
  have hS : gSs rT 1027 ty [55001, 55002, 59999] h h := gSs.rf hJ
  refine gz_s 1 (pc' := 1) (L' := [some (.ref x), some (.int (zi a)), some (.int (zi b)), some (.int (zi v))]) (S' := [.int (zi a)]) rfl ?_
  by_cases hc1 : (a : Int) < 0
  · refine gy_ifT (pc' := 20) rfl (by decide) (by decide) (by omega) hc1 ?_
    exact gz_end (I := .new 84) (len := 3) rfl (Or.inr (by decide)) ⟨hS, Or.inr ⟨rfl, Or.inl rfl⟩⟩
  · refine gy_ifF rfl (by decide) (by decide) (by omega) hc1 ?_
    refine gz_s 2 (pc' := 7) (L' := [some (.ref x), some (.int (zi a)), some (.int (zi b)), some (.int (zi v))]) (S' := [.int (zi 32), .int (zi a)]) rfl ?_
    by_cases hc2 : (32 : Int) ≤ a
    · refine gy_icT (pc' := 20) rfl (by decide) (by decide) (by omega) (by omega) hc2 ?_
      exact gz_end (I := .new 84) (len := 3) rfl (Or.inr (by decide)) ⟨hS, Or.inr ⟨rfl, Or.inl rfl⟩⟩
    · refine gy_icF rfl (by decide) (by decide) (by omega) (by omega) hc2 ?_
      refine gz_s 1 (pc' := 11) (L' := [some (.ref x), some (.int (zi a)), some (.int (zi b)), some (.int (zi v))]) (S' := [.int (zi b)]) rfl ?_
      by_cases hc3 : (b : Int) < 0
      · refine gy_ifT (pc' := 20) rfl (by decide) (by decide) (by omega) hc3 ?_
        exact gz_end (I := .new 84) (len := 3) rfl (Or.inr (by decide)) ⟨hS, Or.inr ⟨rfl, Or.inl rfl⟩⟩
      · refine gy_ifF rfl (by decide) (by decide) (by omega) hc3 ?_
        refine gz_s 2 (pc' := 17) (L' := [some (.ref x), some (.int (zi a)), some (.int (zi b)), some (.int (zi v))]) (S' := [.int (zi 32), .int (zi b)]) rfl ?_
        by_cases hc4 : (b : Int) < 32
        · refine gy_icT (pc' := 30) rfl (by decide) (by decide) (by omega) (by omega) hc4 ?_
          refine gz_s 1 (pc' := 31) (L' := [some (.ref x), some (.int (zi a)), some (.int (zi b)), some (.int (zi v))]) (S' := [.int (zi v)]) rfl ?_
          by_cases hc5 : (v : Int) < 0
          · refine gy_ifT (pc' := 41) rfl (by decide) (by decide) (by omega) hc5 ?_
            exact gz_end (I := .new 134) (len := 3) rfl (Or.inr (by decide)) ⟨hS, Or.inr ⟨rfl, Or.inr (rfl)⟩⟩
          · refine gy_ifF rfl (by decide) (by decide) (by omega) hc5 ?_
            refine gz_s 2 (pc' := 38) (L' := [some (.ref x), some (.int (zi a)), some (.int (zi b)), some (.int (zi v))]) (S' := [.int (zi 255), .int (zi v)]) rfl ?_
            by_cases hc6 : (v : Int) ≤ 255
            · refine gy_icT (pc' := 51) rfl (by decide) (by decide) (by omega) (by omega) hc6 ?_
              refine gz_s 1 (pc' := 52) (L' := [some (.ref x), some (.int (zi a)), some (.int (zi b)), some (.int (zi v))]) (S' := [.ref x]) rfl ?_
              refine gs_gtr rfl (by decide) rfl hS.1 tx rfl rfl rfl (fun c7 ec7 tc7 => ?_)
              refine gz_s 3 (pc' := 58) (L' := [some (.ref x), some (.int (zi a)), some (.int (zi b)), some (.int (zi v))]) (S' := [.int (zi v), .int (zi b), .int (zi a), .ref c7]) rfl ?_
              obtain ⟨z8, ez8, az8, bz8⟩ := gJ.int (k := 1) (G := gGG) hS.1 tc7 rfl rfl rfl
              obtain ⟨z9, ez9, az9, bz9⟩ := gJ.int (k := 2) (G := gGG) hS.1 tc7 rfl rfl rfl
              refine gz_call rfl (by decide) rfl (by decide) (by decide) (gcal_of rfl rfl rfl (Nat.le_of_ble_eq_true rfl) (gJ.recv (G := gGG) hS.1 tc7 rfl rfl)) (cl_Draft_putPoint _ hS.1 c7 tc7 a (by omega) b (by omega) v (by omega) z8 ez8 (by omega) z9 ez9 (by omega) uq) (fun q10 _ wq10 => ?_)
              obtain ⟨pq10, oq10, hq10⟩ := q10
              obtain ⟨xq10, zq10, fq10_0, fq10_1, gq10, aq10, bq10, efq10_0, afq10_0, bfq10_0, efq10_1, afq10_1, bfq10_1, uq10_0, uq10_1⟩ := wq10
              refine ⟨_, gq10, ?_⟩
              show gz gPP gGG gcn _ _ 61 [some (.ref x), some (.int (zi a)), some (.int (zi b)), some (.int (zi v))] [.int (zi zq10)] hq10 _
              have sq10 : gSs rT 1027 ty [55001, 55002, 59999] h hq10 := gSs.tr hS xq10 (by decide)
              have s11 := (xq10.2.2.2.2.2 x 3 (by rw [tx]; decide)).trans ec7
              exact gz_end (I := .ireturn) (len := 1) rfl (Or.inl rfl) ⟨sq10, Or.inl ⟨zq10, rfl, (by omega), (by omega)⟩⟩
            · refine gy_icF rfl (by decide) (by decide) (by omega) (by omega) hc6 ?_
              exact gz_end (I := .new 134) (len := 3) rfl (Or.inr (by decide)) ⟨hS, Or.inr ⟨rfl, Or.inr (rfl)⟩⟩
        · refine gy_icF rfl (by decide) (by decide) (by omega) (by omega) hc4 ?_
          exact gz_end (I := .new 84) (len := 3) rfl (Or.inr (by decide)) ⟨hS, Or.inr ⟨rfl, Or.inl rfl⟩⟩
set_option maxRecDepth 20000 in
set_option maxHeartbeats 4000000 in
theorem cl_DctFilter_scan (d : Nat) {ty : Nat → Nat} {h : gH} (hJ : gJ rT 1027 ty h) (x : Nat) (tx : ty x = 50) (a : Int) (ra : (-2147483648) ≤ a ∧ a ≤ 2147483647) (b : Int) (rb : (-2147483648) ≤ b ∧ b ≤ 2147483647) (t : Int) (rt : (-2147483648) ≤ t ∧ t ≤ 2147483647) (dr : Nat) (edr : h.2.2.2.2 x 3 = .ref dr) (tdr : ty dr = 55) (n0 : Int) (en0 : h.2.2.2.2 dr 8 = .int (zi n0)) (rn0 : 0 ≤ n0 ∧ n0 ≤ 10) (uq : gUq ty) (hytc : gTc ty n0 h) : gz gPP gGG gcn (d + 3) gt61 0 (gent [.ref x, .int (zi a), .int (zi b), .int (zi t)] 4) [] h (fun q _ => gSs rT 1027 ty [55008, 60999, 61999, 62999, 63999, 64999] h q.2.2 ∧ ∃ z n1 : Int, gfin gt61 q.1 q.2.1 = some (some (.int (zi z))) ∧ 0 ≤ z ∧ z ≤ 10 ∧ q.2.2.2.2.2.2 dr 8 = .int (zi n1) ∧ 0 ≤ n1 ∧ n1 ≤ 10 ∧ (gTc ty n1 q.2.2)) := by
  have hS : gSs rT 1027 ty [55008, 60999, 61999, 62999, 63999, 64999] h h := gSs.rf hJ
  refine gz_s 1 (pc' := 1) (L' := [some (.ref x), some (.int (zi a)), some (.int (zi b)), some (.int (zi t))]) (S' := [.ref x]) rfl ?_
  refine gs_gtk rfl (by decide) rfl hS.1 tx rfl rfl edr ?_
  refine gz_s 3 (pc' := 7) (L' := [some (.ref x), some (.int (zi a)), some (.int (zi b)), some (.int (zi t))]) (S' := [.int (zi t), .int (zi b), .int (zi a), .ref dr]) rfl ?_
  refine gz_call rfl (by decide) rfl (by decide) (by decide) (gcal_of rfl rfl rfl (Nat.le_of_ble_eq_true rfl) (gJ.recv (G := gGG) hS.1 tdr rfl rfl)) (cl_Draft_tellScan _ hS.1 dr tdr a (by omega) b (by omega) t (by omega) n0 en0 (by omega) uq hytc) (fun q1 _ wq1 => ?_)
  obtain ⟨pq1, oq1, hq1⟩ := q1
  obtain ⟨xq1, zq1, fq1_0, gq1, aq1, bq1, efq1_0, afq1_0, bfq1_0, yq1_0⟩ := wq1
  refine ⟨_, gq1, ?_⟩
  show gz gPP gGG gcn _ _ 10 [some (.ref x), some (.int (zi a)), some (.int (zi b)), some (.int (zi t))] [.int (zi zq1)] hq1 _
  have sq1 : gSs rT 1027 ty [55008, 60999, 61999, 62999, 63999, 64999] h hq1 := gSs.tr hS xq1 (by decide)
  have s2 := (xq1.2.2.2.2.2 x 3 (by rw [tx]; decide)).trans edr
  exact gz_end (I := .ireturn) (len := 1) rfl (Or.inl rfl) ⟨sq1, zq1, fq1_0, rfl, (by omega), (by omega), efq1_0, (by omega), (by omega), yq1_0⟩
set_option maxRecDepth 20000 in
set_option maxHeartbeats 4000000 in
theorem cl_DctFilter_restart (d : Nat) {ty : Nat → Nat} {h : gH} (hJ : gJ rT 1027 ty h) (x : Nat) (tx : ty x = 50) (n : Int) (rn : (-2147483648) ≤ n ∧ n ≤ 2147483647) (dr : Nat) (edr : h.2.2.2.2 x 3 = .ref dr) (tdr : ty dr = 55) (iv0 : Int) (eiv0 : h.2.2.2.2 dr 3 = .int (zi iv0)) (riv0 : 0 ≤ iv0 ∧ iv0 ≤ 100) (uq : gUq ty) : gz gPP gGG gcn (d + 0) gt88 0 (gent [.ref x, .int (zi n)] 3) [] h (fun q _ => gSs rT 1027 ty [55003] h q.2.2 ∧ ∃ iv1 : Int, q.2.2.2.2.2.2 dr 3 = .int (zi iv1) ∧ 0 ≤ iv1 ∧ iv1 ≤ 100 ∧ ((∃ z : Int, gfin gt88 q.1 q.2.1 = some (some (.int (zi z))) ∧ 0 ≤ z ∧ z ≤ 100 ∧ (z = iv0) ∧ (iv1 = n) ∧ (0 ≤ n) ∧ (n ≤ 100)) ∨ (q.2.1 = [] ∧ ((q.1 = 10 ∧ (¬ (0 ≤ n ∧ n ≤ 100)))) ∧ (iv1 = iv0)))) := by
  have hS : gSs rT 1027 ty [55003] h h := gSs.rf hJ
  refine gz_s 1 (pc' := 1) (L' := [some (.ref x), some (.int (zi n)), none]) (S' := [.int (zi n)]) rfl ?_
  by_cases hc1 : (n : Int) < 0
  · refine gy_ifT (pc' := 10) rfl (by decide) (by decide) (by omega) hc1 ?_
    exact gz_end (I := .new 134) (len := 3) rfl (Or.inr (by decide)) ⟨hS, iv0, eiv0, (by omega), (by omega), Or.inr ⟨rfl, ⟨rfl, (by omega)⟩, (by omega)⟩⟩
  · refine gy_ifF rfl (by decide) (by decide) (by omega) hc1 ?_
    refine gz_s 2 (pc' := 7) (L' := [some (.ref x), some (.int (zi n)), none]) (S' := [.int (zi 100), .int (zi n)]) rfl ?_
    by_cases hc2 : (n : Int) ≤ 100
    · refine gy_icT (pc' := 20) rfl (by decide) (by decide) (by omega) (by omega) hc2 ?_
      refine gz_s 1 (pc' := 21) (L' := [some (.ref x), some (.int (zi n)), none]) (S' := [.ref x]) rfl ?_
      refine gs_gtk rfl (by decide) rfl hS.1 tx rfl rfl edr ?_
      refine gs_gtk rfl (by decide) rfl hS.1 tdr rfl rfl eiv0 ?_
      refine gz_s 2 (pc' := 29) (L' := [some (.ref x), some (.int (zi n)), some (.int (zi iv0))]) (S' := [.ref x]) rfl ?_
      refine gs_gtk rfl (by decide) rfl hS.1 tx rfl rfl edr ?_
      refine gz_s 1 (pc' := 33) (L' := [some (.ref x), some (.int (zi n)), some (.int (zi iv0))]) (S' := [.int (zi n), .ref dr]) rfl ?_
      refine gs_put rfl (by decide) rfl hS tdr rfl rfl rfl rfl (Or.inl rfl) (by decide) (by omega) (by omega) (fun h3 sh3 eh3 fh3 => ?_)
      have s4 := (fh3 x 3 (fun q => absurd (((tx).symm.trans (congrArg ty q.1)).trans tdr) (by decide))).trans edr
      refine gz_s 1 (pc' := 37) (L' := [some (.ref x), some (.int (zi n)), some (.int (zi iv0))]) (S' := [.int (zi iv0)]) rfl ?_
      exact gz_end (I := .ireturn) (len := 1) rfl (Or.inl rfl) ⟨sh3, n, eh3, (by omega), (by omega), Or.inl ⟨iv0, rfl, (by omega), (by omega), (by omega), (by omega), (by omega), (by omega)⟩⟩
    · refine gy_icF rfl (by decide) (by decide) (by omega) (by omega) hc2 ?_
      exact gz_end (I := .new 134) (len := 3) rfl (Or.inr (by decide)) ⟨hS, iv0, eiv0, (by omega), (by omega), Or.inr ⟨rfl, ⟨rfl, (by omega)⟩, (by omega)⟩⟩
set_option maxRecDepth 20000 in
set_option maxHeartbeats 4000000 in
theorem cl_DctFilter_octet (d : Nat) {ty : Nat → Nat} {h : gH} (hJ : gJ rT 1027 ty h) (x : Nat) (tx : ty x = 50) (i : Int) (ri : (-2147483648) ≤ i ∧ i ≤ 2147483647) (sk : Nat) (esk : h.2.2.2.2 x 4 = .ref sk) (tsk : ty sk = 56) (by : Nat) (eby : h.2.2.2.2 sk 0 = .ref by) (tby : ty by = 114) (c0 : Int) (ec0 : h.2.2.2.2 sk 1 = .int (zi c0)) (rc0 : 0 ≤ c0 ∧ c0 ≤ 500000) (pp0 : c0 ≤ (h.2.2.2.1 by : Int)) (uq : gUq ty) : gz gPP gGG gcn (d + 0) gt129 0 (gent [.ref x, .int (zi i)] 2) [] h (fun q _ => gSs rT 1027 ty [] h q.2.2 ∧ ((∃ z : Int, gfin gt129 q.1 q.2.1 = some (some (.int (zi z))) ∧ (-128) ≤ z ∧ z ≤ 127) ∨ (q.2.1 = [] ∧ ((q.1 = 15))))) := by
  have hS : gSs rT 1027 ty [] h h := gSs.rf hJ
  refine gz_s 1 (pc' := 1) (L' := [some (.ref x), some (.int (zi i))]) (S' := [.int (zi i)]) rfl ?_
  by_cases hc1 : (i : Int) < 0
  · refine gy_ifT (pc' := 15) rfl (by decide) (by decide) (by omega) hc1 ?_
    exact gz_end (I := .new 108) (len := 3) rfl (Or.inr (by decide)) ⟨hS, Or.inr ⟨rfl, rfl⟩⟩
  · refine gy_ifF rfl (by decide) (by decide) (by omega) hc1 ?_
    refine gz_s 2 (pc' := 6) (L' := [some (.ref x), some (.int (zi i))]) (S' := [.ref x, .int (zi i)]) rfl ?_
    refine gs_gtk rfl (by decide) rfl hS.1 tx rfl rfl esk ?_
    refine gs_gtk rfl (by decide) rfl hS.1 tsk rfl rfl ec0 ?_
    by_cases hc2 : (i : Int) < c0
    · refine gy_icT (pc' := 25) rfl (by decide) (by decide) (by omega) (by omega) hc2 ?_
      refine gz_s 1 (pc' := 26) (L' := [some (.ref x), some (.int (zi i))]) (S' := [.ref x]) rfl ?_
      refine gs_gtk rfl (by decide) rfl hS.1 tx rfl rfl esk ?_
      refine gs_gtk rfl (by decide) rfl hS.1 tsk rfl rfl eby ?_
      refine gz_s 1 (pc' := 33) (L' := [some (.ref x), some (.int (zi i))]) (S' := [.int (zi i), .ref by]) rfl ?_
      have hl3 : 1024 ≤ h.2.2.2.1 by ∧ h.2.2.2.1 by ≤ 1000000 := gJ.rowl (G := gGG) hS.1 tby rfl
      have hl4 : h.2.2.2.1 by = h.2.2.2.1 by := congrFun hS.2.2.2.2.1 by
      refine gs_bald rfl (by decide) hS.1 tby rfl rfl (Or.inl rfl) (by decide) (fun _ => rfl) (by omega) (by omega) (fun z5 ez5 az5 bz5 => ?_)
      exact gz_end (I := .ireturn) (len := 1) rfl (Or.inl rfl) ⟨hS, Or.inl ⟨z5, (gfin_b rfl rfl ez5), (by omega), (by omega)⟩⟩
    · refine gy_icF rfl (by decide) (by decide) (by omega) (by omega) hc2 ?_
      exact gz_end (I := .new 108) (len := 3) rfl (Or.inr (by decide)) ⟨hS, Or.inr ⟨rfl, rfl⟩⟩
set_option maxRecDepth 20000 in
set_option maxHeartbeats 4000000 in
theorem cl_DctFilter_take (d : Nat) {ty : Nat → Nat} {h : gH} (hJ : gJ rT 1027 ty h) (x : Nat) (tx : ty x = 50) (sk : Nat) (esk : h.2.2.2.2 x 4 = .ref sk) (tsk : ty sk = 56) (by : Nat) (eby : h.2.2.2.2 sk 0 = .ref by) (tby : ty by = 114) (col : Nat) (ecol : h.2.2.2.2 x 0 = .ref col) (tcol : ty col = 51) (c0 : Int) (ec0 : h.2.2.2.2 sk 1 = .int (zi c0)) (rc0 : 0 ≤ c0 ∧ c0 ≤ 500000) (pp0 : c0 ≤ (h.2.2.2.1 by : Int)) (uq : gUq ty) : gz gPP gGG gcn (d + 1) gt67 0 (gent [.ref x] 2) [] h (fun q _ => gSs rT 1027 ty [51001, 52999] h q.2.2 ∧ ∃ z : Int, gfin gt67 q.1 q.2.1 = some (some (.int (zi z))) ∧ 0 ≤ z ∧ z ≤ 2000) := by
  have hS : gSs rT 1027 ty [51001, 52999] h h := gSs.rf hJ
  refine gz_s 1 (pc' := 1) (L' := [some (.ref x), none]) (S' := [.ref x]) rfl ?_
  refine gs_gtk rfl (by decide) rfl hS.1 tx rfl rfl esk ?_
  refine gs_gtk rfl (by decide) rfl hS.1 tsk rfl rfl ec0 ?_
  refine gz_s 1 (pc' := 10) (L' := [some (.ref x), none]) (S' := [.int (zi 2000), .int (zi c0)]) rfl ?_
  refine gz_call rfl (by decide) rfl (by decide) (by decide) (gcal_of rfl rfl rfl (Nat.le_of_ble_eq_true rfl) rfl) (cl_Math_min _ hS.1 c0 (by omega) 2000 (by omega) ) (fun q1 _ wq1 => ?_)
  obtain ⟨pq1, oq1, hq1⟩ := q1
  obtain ⟨xq1, zq1, gq1, aq1, bq1, uq1_0, uq1_1, uq1_2⟩ := wq1
  refine ⟨_, gq1, ?_⟩
  show gz gPP gGG gcn _ _ 13 [some (.ref x), none] [.int (zi zq1)] hq1 _
  have sq1 : gSs rT 1027 ty [51001, 52999] h hq1 := gSs.tr hS xq1 (by decide)
  have s2 := (xq1.2.2.2.2.2 x 4 (by rw [tx]; decide)).trans esk
  have s3 := (xq1.2.2.2.2.2 sk 0 (by rw [tsk]; decide)).trans eby
  have s4 := (xq1.2.2.2.2.2 x 0 (by rw [tx]; decide)).trans ecol
  have s5 := (xq1.2.2.2.2.2 sk 1 (by rw [tsk]; decide)).trans ec0
  refine gz_s 2 (pc' := 15) (L' := [some (.ref x), some (.int (zi zq1))]) (S' := [.ref x]) rfl ?_
  refine gs_gtk rfl (by decide) rfl sq1.1 tx rfl rfl s2 ?_
  refine gs_gtk rfl (by decide) rfl sq1.1 tsk rfl rfl s3 ?_
  refine gz_s 2 (pc' := 23) (L' := [some (.ref x), some (.int (zi zq1))]) (S' := [.ref x, .int (zi 0), .ref by]) rfl ?_
  refine gs_gtk rfl (by decide) rfl sq1.1 tx rfl rfl s4 ?_
  refine gs_gtr rfl (by decide) rfl sq1.1 tcol rfl rfl rfl (fun c6 ec6 tc6 => ?_)
  refine gz_s 2 (pc' := 31) (L' := [some (.ref x), some (.int (zi zq1))]) (S' := [.int (zi zq1), .int (zi 0), .ref c6, .int (zi 0), .ref by]) rfl ?_
  have k8 := sq1.2.1
  have k8b := sq1.2.2.1
  have hl9 : hq1.2.2.2.1 by = h.2.2.2.1 by := congrFun sq1.2.2.2.2.1 by
  have hl10 : 2000 ≤ hq1.2.2.2.1 c6 ∧ hq1.2.2.2.1 c6 ≤ 2000 := gJ.rowl (G := gGG) sq1.1 tc6 rfl
  have hl11 : 1024 ≤ hq1.2.2.2.1 by ∧ hq1.2.2.2.1 by ≤ 1000000 := gJ.rowl (G := gGG) sq1.1 tby rfl
  refine gs_copy rfl (by decide) (by omega) rfl sq1 tc6 rfl rfl tby rfl rfl (Or.inr ⟨rfl, rfl⟩) (by decide) (by decide) (fun _ => rfl) (fun _ => rfl) (by decide) (by decide) (by omega) (by omega) (by omega) (by omega) (by omega) (by decide) (fun _ => (by decide : (52999 : Nat) ∈ ([51001, 52999] : List Nat))) (fun h7 sh7 f9h7 => ?_)
  have fh7 : ∀ b j, ¬ (b = c6 ∧ True) → h7.2.2.2.2 b j = hq1.2.2.2.2 b j := fun b j hn => f9h7 b j (fun e => hn ⟨e, trivial⟩)
  have s12 := (fh7 x 4 (fun q => absurd (((tx).symm.trans (congrArg ty q.1)).trans tc6) (by decide))).trans s2
  have s13 := (fh7 sk 0 (fun q => absurd (((tsk).symm.trans (congrArg ty q.1)).trans tc6) (by decide))).trans s3
  have s14 := (fh7 x 0 (fun q => absurd (((tx).symm.trans (congrArg ty q.1)).trans tc6) (by decide))).trans s4
  have s15 := (fh7 sk 1 (fun q => absurd (((tsk).symm.trans (congrArg ty q.1)).trans tc6) (by decide))).trans s5
  have s16 := (fh7 col 0 (fun q => absurd (((tcol).symm.trans (congrArg ty q.1)).trans tc6) (by decide))).trans ec6
  refine gz_s 1 (pc' := 35) (L' := [some (.ref x), some (.int (zi zq1))]) (S' := [.ref x]) rfl ?_
  refine gs_gtk rfl (by decide) rfl sh7.1 tx rfl rfl s14 ?_
  refine gz_s 1 (pc' := 39) (L' := [some (.ref x), some (.int (zi zq1))]) (S' := [.int (zi zq1), .ref col]) rfl ?_
  refine gs_put rfl (by decide) rfl sh7 tcol rfl rfl rfl rfl (Or.inl rfl) (by decide) (by omega) (by omega) (fun h17 sh17 eh17 fh17 => ?_)
  have s18 := (fh17 x 4 (fun q => absurd q.2 (by decide))).trans s12
  have s19 := (fh17 sk 0 (fun q => absurd q.2 (by decide))).trans s13
  have s20 := (fh17 x 0 (fun q => absurd q.2 (by decide))).trans s14
  have s21 := (fh17 sk 1 (fun q => absurd (((tsk).symm.trans (congrArg ty q.1)).trans tcol) (by decide))).trans s15
  have s22 := (fh17 col 0 (fun q => absurd q.2 (by decide))).trans s16
  refine gz_s 1 (pc' := 43) (L' := [some (.ref x), some (.int (zi zq1))]) (S' := [.int (zi zq1)]) rfl ?_
  exact gz_end (I := .ireturn) (len := 1) rfl (Or.inl rfl) ⟨sh17, zq1, rfl, (by omega), (by omega)⟩
set_option maxRecDepth 20000 in
set_option maxHeartbeats 4000000 in
theorem cl_read0 (d : Nat) {ty : Nat → Nat} {h : gH} (hJ : gJ rT 1027 ty h) (x : Nat) (tx : ty x = 50) (pic : Nat) (epic : h.2.2.2.2 x 2 = .ref pic) (tpic : ty pic = 54) (bn : Nat) (ebn : h.2.2.2.2 pic 0 = .ref bn) (tbn : ty bn = 57) (b0 : Nat) (eb0 : h.2.2.2.2 bn 0 = .ref b0) (tb0 : ty b0 = 82) (b1 : Nat) (eb1 : h.2.2.2.2 bn 1 = .ref b1) (tb1 : ty b1 = 83) (b2 : Nat) (eb2 : h.2.2.2.2 bn 2 = .ref b2) (tb2 : ty b2 = 84) (col : Nat) (ecol : h.2.2.2.2 x 0 = .ref col) (tcol : ty col = 51) (nu0 : h.2.2.2.2 x 5 = .null) (no0 : gNo [65, 66, 67, 68, 69, 70] ty) (ld : Int) (rld : 0 ≤ ld ∧ ld ≤ 192) (uq : gUq ty) (hypc : gPC ty pic b0 b1 b2 ld h) : gz gPP gGG gcn (d + 8) gt7 0 (gent [.ref x] 2) [] h (fun q _ => ∃ ty9 : Nat → Nat, gSg [65, 66, 67, 68, 69, 70, 101, 102, 103, 112, 113, 200] [] [50005, 51001, 54002, 54003, 54004, 54005, 54006, 54007, 54008, 54009, 54010, 54011, 54012, 54013, 58999, 65003, 66001, 66002, 66003, 66004, 66005, 66010, 66011, 66012, 66013, 66014, 67001, 67002, 67003, 69999, 70999, 82000, 82001, 82002, 82003, 82004, 82005, 82006, 82007, 82008, 82009, 82010, 82011, 83000, 83001, 83002, 83003, 83004, 83005, 83006, 83007, 83008, 83009, 83010, 83011, 84000, 84001, 84002, 84003, 84004, 84005, 84006, 84007, 84008, 84009, 84010, 84011, 102999, 103999, 112999, 113999] ty h ty9 q.2.2 ∧ ∃ rd2 : Nat, True ∧ ∃ z ld1 : Int, q.2.2.2.2.2.2 x 5 = .ref rd2 ∧ ty9 rd2 = 65 ∧ gfin gt7 q.1 q.2.1 = some (some (.int (zi z))) ∧ (-2147483648) ≤ z ∧ z ≤ 2147483647 ∧ 0 ≤ ld1 ∧ ld1 ≤ 192 ∧ (ld ≤ ld1) ∧ (((q.2.2.1 : Int) - h.1) ≤ 30 + 2 * (ld1 - ld)) ∧ (((q.2.2.2.1 : Int) - h.2.1) ≤ 2255 + 12480 * (ld1 - ld)) ∧ (gPC ty9 pic b0 b1 b2 ld1 q.2.2) ∧ gUq ty9) := by
  have hS : gSs rT 1027 ty [50005, 51001, 54002, 54003, 54004, 54005, 54006, 54007, 54008, 54009, 54010, 54011, 54012, 54013, 58999, 65003, 66001, 66002, 66003, 66004, 66005, 66010, 66011, 66012, 66013, 66014, 67001, 67002, 67003, 69999, 70999, 82000, 82001, 82002, 82003, 82004, 82005, 82006, 82007, 82008, 82009, 82010, 82011, 83000, 83001, 83002, 83003, 83004, 83005, 83006, 83007, 83008, 83009, 83010, 83011, 84000, 84001, 84002, 84003, 84004, 84005, 84006, 84007, 84008, 84009, 84010, 84011, 102999, 103999, 112999, 113999] h h := gSs.rf hJ
  have G0 : gSg [65, 66, 67, 68, 69, 70, 101, 102, 103, 112, 113, 200] [] [50005, 51001, 54002, 54003, 54004, 54005, 54006, 54007, 54008, 54009, 54010, 54011, 54012, 54013, 58999, 65003, 66001, 66002, 66003, 66004, 66005, 66010, 66011, 66012, 66013, 66014, 67001, 67002, 67003, 69999, 70999, 82000, 82001, 82002, 82003, 82004, 82005, 82006, 82007, 82008, 82009, 82010, 82011, 83000, 83001, 83002, 83003, 83004, 83005, 83006, 83007, 83008, 83009, 83010, 83011, 84000, 84001, 84002, 84003, 84004, 84005, 84006, 84007, 84008, 84009, 84010, 84011, 102999, 103999, 112999, 113999] ty h ty h := gSg.rf hJ (fun x hx => by cases hx)
  refine gz_s 1 (pc' := 1) (L' := [some (.ref x), none]) (S' := [.ref x]) rfl ?_
  refine gs_gtk rfl (by decide) rfl hS.1 tx rfl rfl nu0 ?_
  refine gz_s 2 (pc' := 8) (L' := [some (.ref x), none]) (S' := [.ref x]) rfl ?_
  refine gs_newo rfl (by decide) rfl hS.1 (Nat.le_of_lt (Nat.lt_of_le_of_lt (gJ.cell hS.1 tx rfl).1 (gJ.cell hS.1 tx rfl).2.1)) (fun ty1 h2 c3 g4 tc3 kc3 zc3 nc3 mc3 ec3 dc3 => ?_)
  have mfc3 : h2.2.1 = h.2.1 + 4 := mc3
  have gac3 : h.1 ≤ c3 := by have h8 := G0.2.1; have h9 := hS.2.1; omega
  have nnc3 : 1027 ≤ c3 := by have h8 := (Nat.le_of_lt (Nat.lt_of_le_of_lt (gJ.cell hS.1 tx rfl).1 (gJ.cell hS.1 tx rfl).2.1)); omega
  have llc3 : c3 < _ := by rw [nc3, ec3]; exact Nat.lt_succ_self _
  have G5 : gSg [65, 66, 67, 68, 69, 70, 101, 102, 103, 112, 113, 200] [] [50005, 51001, 54002, 54003, 54004, 54005, 54006, 54007, 54008, 54009, 54010, 54011, 54012, 54013, 58999, 65003, 66001, 66002, 66003, 66004, 66005, 66010, 66011, 66012, 66013, 66014, 67001, 67002, 67003, 69999, 70999, 82000, 82001, 82002, 82003, 82004, 82005, 82006, 82007, 82008, 82009, 82010, 82011, 83000, 83001, 83002, 83003, 83004, 83005, 83006, 83007, 83008, 83009, 83010, 83011, 84000, 84001, 84002, 84003, 84004, 84005, 84006, 84007, 84008, 84009, 84010, 84011, 102999, 103999, 112999, 113999] ty h ty1 h2 := gSg.tr (gSg.ss G0 hS (by decide)) g4 (by decide) (by decide) (fun x hx => by cases hx)
  have t6 : ty1 x = 50 := gSg.typ g4 hS.1 tx rfl
  have t7 : ty1 pic = 54 := gSg.typ g4 hS.1 tpic rfl
  have t8 : ty1 bn = 57 := gSg.typ g4 hS.1 tbn rfl
  have t9 : ty1 b0 = 82 := gSg.typ g4 hS.1 tb0 rfl
  have t10 : ty1 b1 = 83 := gSg.typ g4 hS.1 tb1 rfl
  have t11 : ty1 b2 = 84 := gSg.typ g4 hS.1 tb2 rfl
  have t12 : ty1 col = 51 := gSg.typ g4 hS.1 tcol rfl
  have s13 := gSg.at g4 hS.1 tx rfl (by decide) epic
  have s14 := gSg.at g4 hS.1 tpic rfl (by decide) ebn
  have s15 := gSg.at g4 hS.1 tbn rfl (by decide) eb0
  have s16 := gSg.at g4 hS.1 tbn rfl (by decide) eb1
  have s17 := gSg.at g4 hS.1 tbn rfl (by decide) eb2
  have s18 := gSg.at g4 hS.1 tx rfl (by decide) ecol
  have s19 := gSg.at g4 hS.1 tx rfl (by decide) nu0
  have pr20 : gNo [65, 66, 67, 68, 69, 70] ty1 := gNo.gr g4 (by decide) (gNo.sub (by decide) no0)
  have pr21 := gPC.gr g4 hS.1 (by decide) hypc
  have uq22 := gSg.uq g4 uq (by decide)
  have sS23 : gSs rT 1027 ty1 [50005, 51001, 54002, 54003, 54004, 54005, 54006, 54007, 54008, 54009, 54010, 54011, 54012, 54013, 58999, 65003, 66001, 66002, 66003, 66004, 66005, 66010, 66011, 66012, 66013, 66014, 67001, 67002, 67003, 69999, 70999, 82000, 82001, 82002, 82003, 82004, 82005, 82006, 82007, 82008, 82009, 82010, 82011, 83000, 83001, 83002, 83003, 83004, 83005, 83006, 83007, 83008, 83009, 83010, 83011, 84000, 84001, 84002, 84003, 84004, 84005, 84006, 84007, 84008, 84009, 84010, 84011, 102999, 103999, 112999, 113999] h2 h2 := gSs.rf g4.1
  refine gz_s 2 (pc' := 13) (L' := [some (.ref x), none]) (S' := [.ref x, .ref c3, .ref c3, .ref x]) rfl ?_
  refine gs_gtk rfl (by decide) rfl sS23.1 t6 rfl rfl s18 ?_
  refine gz_s 1 (pc' := 17) (L' := [some (.ref x), none]) (S' := [.ref x, .ref col, .ref c3, .ref c3, .ref x]) rfl ?_
  refine gs_gtk rfl (by decide) rfl sS23.1 t6 rfl rfl s13 ?_
  refine gz_call rfl (by decide) rfl (by decide) (by decide) (gcal_of rfl rfl rfl (Nat.le_of_ble_eq_true rfl) rfl) (ct_Reader _ sS23.1 c3 tc3 nnc3 llc3 kc3 zc3 dc3 col t12 pic t7 pr20 uq22) (fun q24 _ wq24 => ?_)
  obtain ⟨pq24, oq24, hq24⟩ := q24
  obtain ⟨tyq24, xq24, trq24_0, gq24, uq24_0, uq24_1, uqq24⟩ := wq24
  dsimp only at uq24_0 uq24_1
  refine ⟨_, gq24, ?_⟩
  show gz gPP gGG gcn _ _ 23 [some (.ref x), none] [.ref c3, .ref x] hq24 _
  have G25 : gSg [65, 66, 67, 68, 69, 70, 101, 102, 103, 112, 113, 200] [] [50005, 51001, 54002, 54003, 54004, 54005, 54006, 54007, 54008, 54009, 54010, 54011, 54012, 54013, 58999, 65003, 66001, 66002, 66003, 66004, 66005, 66010, 66011, 66012, 66013, 66014, 67001, 67002, 67003, 69999, 70999, 82000, 82001, 82002, 82003, 82004, 82005, 82006, 82007, 82008, 82009, 82010, 82011, 83000, 83001, 83002, 83003, 83004, 83005, 83006, 83007, 83008, 83009, 83010, 83011, 84000, 84001, 84002, 84003, 84004, 84005, 84006, 84007, 84008, 84009, 84010, 84011, 102999, 103999, 112999, 113999] ty h tyq24 hq24 := gSg.tr (gSg.ss G5 sS23 (by decide)) xq24 (by decide) (by decide) (fun x hx => Or.inl (by rw [List.mem_singleton.mp hx]; exact gac3))
  have t26 : tyq24 x = 50 := gSg.typ xq24 sS23.1 t6 rfl
  have t27 : tyq24 pic = 54 := gSg.typ xq24 sS23.1 t7 rfl
  have t28 : tyq24 bn = 57 := gSg.typ xq24 sS23.1 t8 rfl
  have t29 : tyq24 b0 = 82 := gSg.typ xq24 sS23.1 t9 rfl
  have t30 : tyq24 b1 = 83 := gSg.typ xq24 sS23.1 t10 rfl
  have t31 : tyq24 b2 = 84 := gSg.typ xq24 sS23.1 t11 rfl
  have t32 : tyq24 col = 51 := gSg.typ xq24 sS23.1 t12 rfl
  have s33 := gSg.at xq24 sS23.1 t6 rfl (by decide) s13
  have s34 := gSg.at xq24 sS23.1 t7 rfl (by decide) s14
  have s35 := gSg.at xq24 sS23.1 t8 rfl (by decide) s15
  have s36 := gSg.at xq24 sS23.1 t8 rfl (by decide) s16
  have s37 := gSg.at xq24 sS23.1 t8 rfl (by decide) s17
  have s38 := gSg.at xq24 sS23.1 t6 rfl (by decide) s18
  have s39 := gSg.at xq24 sS23.1 t6 rfl (by decide) s19
  have pr40 := gPC.gr xq24 sS23.1 (by decide) pr21
  have sS41 : gSs rT 1027 tyq24 [50005, 51001, 54002, 54003, 54004, 54005, 54006, 54007, 54008, 54009, 54010, 54011, 54012, 54013, 58999, 65003, 66001, 66002, 66003, 66004, 66005, 66010, 66011, 66012, 66013, 66014, 67001, 67002, 67003, 69999, 70999, 82000, 82001, 82002, 82003, 82004, 82005, 82006, 82007, 82008, 82009, 82010, 82011, 83000, 83001, 83002, 83003, 83004, 83005, 83006, 83007, 83008, 83009, 83010, 83011, 84000, 84001, 84002, 84003, 84004, 84005, 84006, 84007, 84008, 84009, 84010, 84011, 102999, 103999, 112999, 113999] hq24 hq24 := gSs.rf xq24.1
  refine gs_ptr rfl (by decide) rfl sS41 t26 rfl rfl (Or.inr rfl) rfl (Or.inl rfl) (by decide) trq24_0 (fun h42 sh42 eh42 fh42 => ?_)
  have pr43 := gPC.pk fh42 (sh42.2.2.2.2.1.trans sS41.2.2.2.2.1.symm) t26 (by decide) pr40
  have s44 := (fh42 x 2 (fun q => absurd q.2 (by decide))).trans s33
  have s45 := (fh42 pic 0 (fun q => absurd q.2 (by decide))).trans s34
  have s46 := (fh42 bn 0 (fun q => absurd (((t28).symm.trans (congrArg tyq24 q.1)).trans t26) (by decide))).trans s35
  have s47 := (fh42 bn 1 (fun q => absurd (((t28).symm.trans (congrArg tyq24 q.1)).trans t26) (by decide))).trans s36
  have s48 := (fh42 bn 2 (fun q => absurd (((t28).symm.trans (congrArg tyq24 q.1)).trans t26) (by decide))).trans s37
  have s49 := (fh42 x 0 (fun q => absurd q.2 (by decide))).trans s38
  refine gz_s 1 (pc' := 27) (L' := [some (.ref x), none]) (S' := [.ref x]) rfl ?_
  refine gs_gtk rfl (by decide) rfl sh42.1 t26 rfl rfl eh42 ?_
  refine gz_s 1 (pc' := 31) (L' := [some (.ref x), none]) (S' := [.ref x, .ref c3]) rfl ?_
  refine gs_gtr rfl (by decide) rfl sh42.1 t26 rfl rfl rfl (fun c50 ec50 tc50 => ?_)
  have k51 := sh42.2.1
  have k51b := sh42.2.2.1
  obtain ⟨c52, ec52, tc52⟩ := gJ.ref (k := 0) (G := gGG) sh42.1 trq24_0 rfl rfl rfl
  have ee53 : col = c52 := uqq24 col c52 (t32.trans tc52.symm) (by rw [t32]; decide) (by rw [t32]; decide)
  subst ee53
  obtain ⟨c54, ec54, tc54⟩ := gJ.ref (k := 1) (G := gGG) sh42.1 trq24_0 rfl rfl rfl
  have ee55 : pic = c54 := uqq24 pic c54 (t27.trans tc54.symm) (by rw [t27]; decide) (by rw [t27]; decide)
  subst ee55
  obtain ⟨c56, ec56, tc56⟩ := gJ.ref (k := 2) (G := gGG) sh42.1 trq24_0 rfl rfl rfl
  obtain ⟨z57, ez57, az57, bz57⟩ := gJ.int (k := 1) (G := gGG) sh42.1 t32 rfl rfl rfl
  refine gz_call rfl (by decide) rfl (by decide) (by decide) (gcal_of rfl rfl rfl (Nat.le_of_ble_eq_true rfl) (gJ.recv (G := gGG) sh42.1 trq24_0 rfl rfl)) (cl_Reader_readPicture _ sh42.1 c3 trq24_0 c50 tc50 col ec52 t32 pic ec54 t27 bn s45 t28 b0 s46 t29 b1 s47 t30 b2 s48 t31 c56 ec56 tc56 z57 ez57 (by omega) ld (by omega) uqq24 pr43) (fun q58 _ wq58 => ?_)
  obtain ⟨pq58, oq58, hq58⟩ := q58
  obtain ⟨tyq58, xq58, zq58, xq58_0, gq58, aq58, bq58, axq58_0, bxq58_0, uq58_0, uq58_1, uq58_2, yq58_0⟩ := wq58
  dsimp only at uq58_0 uq58_1
  refine ⟨_, gq58, ?_⟩
  show gz gPP gGG gcn _ _ 37 [some (.ref x), none] [.int (zi zq58)] hq58 _
  have G59 : gSg [65, 66, 67, 68, 69, 70, 101, 102, 103, 112, 113, 200] [] [50005, 51001, 54002, 54003, 54004, 54005, 54006, 54007, 54008, 54009, 54010, 54011, 54012, 54013, 58999, 65003, 66001, 66002, 66003, 66004, 66005, 66010, 66011, 66012, 66013, 66014, 67001, 67002, 67003, 69999, 70999, 82000, 82001, 82002, 82003, 82004, 82005, 82006, 82007, 82008, 82009, 82010, 82011, 83000, 83001, 83002, 83003, 83004, 83005, 83006, 83007, 83008, 83009, 83010, 83011, 84000, 84001, 84002, 84003, 84004, 84005, 84006, 84007, 84008, 84009, 84010, 84011, 102999, 103999, 112999, 113999] ty h tyq58 hq58 := gSg.tr (gSg.ss G25 sh42 (by decide)) xq58 (by decide) (by decide) (fun x hx => by cases hx)
  have t60 : tyq58 x = 50 := gSg.typ xq58 sh42.1 t26 rfl
  have t61 : tyq58 pic = 54 := gSg.typ xq58 sh42.1 t27 rfl
  have t62 : tyq58 bn = 57 := gSg.typ xq58 sh42.1 t28 rfl
  have t63 : tyq58 b0 = 82 := gSg.typ xq58 sh42.1 t29 rfl
  have t64 : tyq58 b1 = 83 := gSg.typ xq58 sh42.1 t30 rfl
  have t65 : tyq58 b2 = 84 := gSg.typ xq58 sh42.1 t31 rfl
  have t66 : tyq58 col = 51 := gSg.typ xq58 sh42.1 t32 rfl
  have t67 : tyq58 c3 = 65 := gSg.typ xq58 sh42.1 trq24_0 rfl
  have t68 : tyq58 c50 = 53 := gSg.typ xq58 sh42.1 tc50 rfl
  have t69 : tyq58 c56 = 66 := gSg.typ xq58 sh42.1 tc56 rfl
  have s70 := gSg.at xq58 sh42.1 t26 rfl (by decide) s44
  have s71 := gSg.at xq58 sh42.1 t27 rfl (by decide) s45
  have s72 := gSg.at xq58 sh42.1 t28 rfl (by decide) s46
  have s73 := gSg.at xq58 sh42.1 t28 rfl (by decide) s47
  have s74 := gSg.at xq58 sh42.1 t28 rfl (by decide) s48
  have s75 := gSg.at xq58 sh42.1 t26 rfl (by decide) s49
  have s76 := gSg.at xq58 sh42.1 t26 rfl (by decide) eh42
  have s77 := gSg.at xq58 sh42.1 t26 rfl (by decide) ec50
  have s78 := gSg.at xq58 sh42.1 trq24_0 rfl (by decide) ec52
  have s79 := gSg.at xq58 sh42.1 trq24_0 rfl (by decide) ec54
  have s80 := gSg.at xq58 sh42.1 trq24_0 rfl (by decide) ec56
  have s81 := gSg.at xq58 sh42.1 t32 rfl (by decide) ez57
  have uq82 := gSg.uq xq58 uqq24 (by decide)
  have sS83 : gSs rT 1027 tyq58 [50005, 51001, 54002, 54003, 54004, 54005, 54006, 54007, 54008, 54009, 54010, 54011, 54012, 54013, 58999, 65003, 66001, 66002, 66003, 66004, 66005, 66010, 66011, 66012, 66013, 66014, 67001, 67002, 67003, 69999, 70999, 82000, 82001, 82002, 82003, 82004, 82005, 82006, 82007, 82008, 82009, 82010, 82011, 83000, 83001, 83002, 83003, 83004, 83005, 83006, 83007, 83008, 83009, 83010, 83011, 84000, 84001, 84002, 84003, 84004, 84005, 84006, 84007, 84008, 84009, 84010, 84011, 102999, 103999, 112999, 113999] hq58 hq58 := gSs.rf xq58.1
  refine gz_s 2 (pc' := 39) (L' := [some (.ref x), some (.int (zi zq58))]) (S' := [.ref x]) rfl ?_
  refine gs_gtk rfl (by decide) rfl sS83.1 t60 rfl rfl s75 ?_
  refine gz_s 1 (pc' := 43) (L' := [some (.ref x), some (.int (zi zq58))]) (S' := [.int (zi 0), .ref col]) rfl ?_
  refine gs_put rfl (by decide) rfl sS83 t66 rfl rfl rfl rfl (Or.inl rfl) (by decide) (by omega) (by omega) (fun h84 sh84 eh84 fh84 => ?_)
  have pr85 := gPC.pk fh84 (sh84.2.2.2.2.1.trans sS83.2.2.2.2.1.symm) t66 (by decide) yq58_0
  have s86 := (fh84 x 2 (fun q => absurd q.2 (by decide))).trans s70
  have s87 := (fh84 pic 0 (fun q => absurd q.2 (by decide))).trans s71
  have s88 := (fh84 bn 0 (fun q => absurd (((t62).symm.trans (congrArg tyq58 q.1)).trans t66) (by decide))).trans s72
  have s89 := (fh84 bn 1 (fun q => absurd (((t62).symm.trans (congrArg tyq58 q.1)).trans t66) (by decide))).trans s73
  have s90 := (fh84 bn 2 (fun q => absurd (((t62).symm.trans (congrArg tyq58 q.1)).trans t66) (by decide))).trans s74
  have s91 := (fh84 x 0 (fun q => absurd q.2 (by decide))).trans s75
  have s92 := (fh84 x 5 (fun q => absurd q.2 (by decide))).trans s76
  have s93 := (fh84 x 1 (fun q => absurd (((t60).symm.trans (congrArg tyq58 q.1)).trans t66) (by decide))).trans s77
  have s94 := (fh84 c3 0 (fun q => absurd q.2 (by decide))).trans s78
  have s95 := (fh84 c3 1 (fun q => absurd (((t67).symm.trans (congrArg tyq58 q.1)).trans t66) (by decide))).trans s79
  have s96 := (fh84 c3 2 (fun q => absurd q.2 (by decide))).trans s80
  refine gz_s 1 (pc' := 47) (L' := [some (.ref x), some (.int (zi zq58))]) (S' := [.int (zi zq58)]) rfl ?_
  have k97 := sh84.2.1
  have k97b := sh84.2.2.1
  have G98 : gSg [65, 66, 67, 68, 69, 70, 101, 102, 103, 112, 113, 200] [] [50005, 51001, 54002, 54003, 54004, 54005, 54006, 54007, 54008, 54009, 54010, 54011, 54012, 54013, 58999, 65003, 66001, 66002, 66003, 66004, 66005, 66010, 66011, 66012, 66013, 66014, 67001, 67002, 67003, 69999, 70999, 82000, 82001, 82002, 82003, 82004, 82005, 82006, 82007, 82008, 82009, 82010, 82011, 83000, 83001, 83002, 83003, 83004, 83005, 83006, 83007, 83008, 83009, 83010, 83011, 84000, 84001, 84002, 84003, 84004, 84005, 84006, 84007, 84008, 84009, 84010, 84011, 102999, 103999, 112999, 113999] ty h tyq58 h84 := gSg.ss G59 sh84 (by decide)
  exact gz_end (I := .ireturn) (len := 1) rfl (Or.inl rfl) ⟨tyq58, G98, c3, trivial, zq58, xq58_0, s92, t67, rfl, (by omega), (by omega), (by omega), (by omega), (by omega), (by dsimp only; omega), (by dsimp only; omega), pr85, uq82⟩
set_option maxRecDepth 20000 in
set_option maxHeartbeats 4000000 in
theorem cl_read1 (d : Nat) {ty : Nat → Nat} {h : gH} (hJ : gJ rT 1027 ty h) (x : Nat) (tx : ty x = 50) (pic : Nat) (epic : h.2.2.2.2 x 2 = .ref pic) (tpic : ty pic = 54) (bn : Nat) (ebn : h.2.2.2.2 pic 0 = .ref bn) (tbn : ty bn = 57) (b0 : Nat) (eb0 : h.2.2.2.2 bn 0 = .ref b0) (tb0 : ty b0 = 82) (b1 : Nat) (eb1 : h.2.2.2.2 bn 1 = .ref b1) (tb1 : ty b1 = 83) (b2 : Nat) (eb2 : h.2.2.2.2 bn 2 = .ref b2) (tb2 : ty b2 = 84) (col : Nat) (ecol : h.2.2.2.2 x 0 = .ref col) (tcol : ty col = 51) (rd : Nat) (erd : h.2.2.2.2 x 5 = .ref rd) (trd : ty rd = 65) (ld : Int) (rld : 0 ≤ ld ∧ ld ≤ 192) (uq : gUq ty) (hypc : gPC ty pic b0 b1 b2 ld h) : gz gPP gGG gcn (d + 8) gt7 0 (gent [.ref x] 2) [] h (fun q _ => ∃ ty9 : Nat → Nat, gSg [112, 113] [] [51001, 54002, 54003, 54004, 54005, 54006, 54007, 54008, 54009, 54010, 54011, 54012, 54013, 58999, 65003, 66001, 66002, 66003, 66004, 66005, 66010, 66011, 66012, 66013, 66014, 67001, 67002, 67003, 69999, 70999, 82000, 82001, 82002, 82003, 82004, 82005, 82006, 82007, 82008, 82009, 82010, 82011, 83000, 83001, 83002, 83003, 83004, 83005, 83006, 83007, 83008, 83009, 83010, 83011, 84000, 84001, 84002, 84003, 84004, 84005, 84006, 84007, 84008, 84009, 84010, 84011, 102999, 103999, 112999, 113999] ty h ty9 q.2.2 ∧ ∃ rd2 : Nat, True ∧ ∃ z ld1 : Int, q.2.2.2.2.2.2 x 5 = .ref rd2 ∧ ty9 rd2 = 65 ∧ gfin gt7 q.1 q.2.1 = some (some (.int (zi z))) ∧ (-2147483648) ≤ z ∧ z ≤ 2147483647 ∧ 0 ≤ ld1 ∧ ld1 ≤ 192 ∧ (ld ≤ ld1) ∧ (((q.2.2.1 : Int) - h.1) ≤ 2 * (ld1 - ld)) ∧ (((q.2.2.2.1 : Int) - h.2.1) ≤ 12480 * (ld1 - ld)) ∧ (gPC ty9 pic b0 b1 b2 ld1 q.2.2)) := by
  have hS : gSs rT 1027 ty [51001, 54002, 54003, 54004, 54005, 54006, 54007, 54008, 54009, 54010, 54011, 54012, 54013, 58999, 65003, 66001, 66002, 66003, 66004, 66005, 66010, 66011, 66012, 66013, 66014, 67001, 67002, 67003, 69999, 70999, 82000, 82001, 82002, 82003, 82004, 82005, 82006, 82007, 82008, 82009, 82010, 82011, 83000, 83001, 83002, 83003, 83004, 83005, 83006, 83007, 83008, 83009, 83010, 83011, 84000, 84001, 84002, 84003, 84004, 84005, 84006, 84007, 84008, 84009, 84010, 84011, 102999, 103999, 112999, 113999] h h := gSs.rf hJ
  have G0 : gSg [112, 113] [] [51001, 54002, 54003, 54004, 54005, 54006, 54007, 54008, 54009, 54010, 54011, 54012, 54013, 58999, 65003, 66001, 66002, 66003, 66004, 66005, 66010, 66011, 66012, 66013, 66014, 67001, 67002, 67003, 69999, 70999, 82000, 82001, 82002, 82003, 82004, 82005, 82006, 82007, 82008, 82009, 82010, 82011, 83000, 83001, 83002, 83003, 83004, 83005, 83006, 83007, 83008, 83009, 83010, 83011, 84000, 84001, 84002, 84003, 84004, 84005, 84006, 84007, 84008, 84009, 84010, 84011, 102999, 103999, 112999, 113999] ty h ty h := gSg.rf hJ (fun x hx => by cases hx)
  refine gz_s 1 (pc' := 1) (L' := [some (.ref x), none]) (S' := [.ref x]) rfl ?_
  refine gs_gtk rfl (by decide) rfl hS.1 tx rfl rfl erd ?_
  refine gz_s 2 (pc' := 27) (L' := [some (.ref x), none]) (S' := [.ref x]) rfl ?_
  refine gs_gtk rfl (by decide) rfl hS.1 tx rfl rfl erd ?_
  refine gz_s 1 (pc' := 31) (L' := [some (.ref x), none]) (S' := [.ref x, .ref rd]) rfl ?_
  refine gs_gtr rfl (by decide) rfl hS.1 tx rfl rfl rfl (fun c1 ec1 tc1 => ?_)
  obtain ⟨c2, ec2, tc2⟩ := gJ.ref (k := 0) (G := gGG) hS.1 trd rfl rfl rfl
  have ee3 : col = c2 := uq col c2 (tcol.trans tc2.symm) (by rw [tcol]; decide) (by rw [tcol]; decide)
  subst ee3
  obtain ⟨c4, ec4, tc4⟩ := gJ.ref (k := 1) (G := gGG) hS.1 trd rfl rfl rfl
  have ee5 : pic = c4 := uq pic c4 (tpic.trans tc4.symm) (by rw [tpic]; decide) (by rw [tpic]; decide)
  subst ee5
  obtain ⟨c6, ec6, tc6⟩ := gJ.ref (k := 2) (G := gGG) hS.1 trd rfl rfl rfl
  obtain ⟨z7, ez7, az7, bz7⟩ := gJ.int (k := 1) (G := gGG) hS.1 tcol rfl rfl rfl
  refine gz_call rfl (by decide) rfl (by decide) (by decide) (gcal_of rfl rfl rfl (Nat.le_of_ble_eq_true rfl) (gJ.recv (G := gGG) hS.1 trd rfl rfl)) (cl_Reader_readPicture _ hS.1 rd trd c1 tc1 col ec2 tcol pic ec4 tpic bn ebn tbn b0 eb0 tb0 b1 eb1 tb1 b2 eb2 tb2 c6 ec6 tc6 z7 ez7 (by omega) ld (by omega) uq hypc) (fun q8 _ wq8 => ?_)
  obtain ⟨pq8, oq8, hq8⟩ := q8
  obtain ⟨tyq8, xq8, zq8, xq8_0, gq8, aq8, bq8, axq8_0, bxq8_0, uq8_0, uq8_1, uq8_2, yq8_0⟩ := wq8
  dsimp only at uq8_0 uq8_1
  refine ⟨_, gq8, ?_⟩
  show gz gPP gGG gcn _ _ 37 [some (.ref x), none] [.int (zi zq8)] hq8 _
  have G9 : gSg [112, 113] [] [51001, 54002, 54003, 54004, 54005, 54006, 54007, 54008, 54009, 54010, 54011, 54012, 54013, 58999, 65003, 66001, 66002, 66003, 66004, 66005, 66010, 66011, 66012, 66013, 66014, 67001, 67002, 67003, 69999, 70999, 82000, 82001, 82002, 82003, 82004, 82005, 82006, 82007, 82008, 82009, 82010, 82011, 83000, 83001, 83002, 83003, 83004, 83005, 83006, 83007, 83008, 83009, 83010, 83011, 84000, 84001, 84002, 84003, 84004, 84005, 84006, 84007, 84008, 84009, 84010, 84011, 102999, 103999, 112999, 113999] ty h tyq8 hq8 := gSg.tr (gSg.ss G0 hS (by decide)) xq8 (by decide) (by decide) (fun x hx => by cases hx)
  have t10 : tyq8 x = 50 := gSg.typ xq8 hS.1 tx rfl
  have t11 : tyq8 pic = 54 := gSg.typ xq8 hS.1 tpic rfl
  have t12 : tyq8 bn = 57 := gSg.typ xq8 hS.1 tbn rfl
  have t13 : tyq8 b0 = 82 := gSg.typ xq8 hS.1 tb0 rfl
  have t14 : tyq8 b1 = 83 := gSg.typ xq8 hS.1 tb1 rfl
  have t15 : tyq8 b2 = 84 := gSg.typ xq8 hS.1 tb2 rfl
  have t16 : tyq8 col = 51 := gSg.typ xq8 hS.1 tcol rfl
  have t17 : tyq8 rd = 65 := gSg.typ xq8 hS.1 trd rfl
  have t18 : tyq8 c1 = 53 := gSg.typ xq8 hS.1 tc1 rfl
  have t19 : tyq8 c6 = 66 := gSg.typ xq8 hS.1 tc6 rfl
  have s20 := gSg.at xq8 hS.1 tx rfl (by decide) epic
  have s21 := gSg.at xq8 hS.1 tpic rfl (by decide) ebn
  have s22 := gSg.at xq8 hS.1 tbn rfl (by decide) eb0
  have s23 := gSg.at xq8 hS.1 tbn rfl (by decide) eb1
  have s24 := gSg.at xq8 hS.1 tbn rfl (by decide) eb2
  have s25 := gSg.at xq8 hS.1 tx rfl (by decide) ecol
  have s26 := gSg.at xq8 hS.1 tx rfl (by decide) erd
  have s27 := gSg.at xq8 hS.1 tx rfl (by decide) ec1
  have s28 := gSg.at xq8 hS.1 trd rfl (by decide) ec2
  have s29 := gSg.at xq8 hS.1 trd rfl (by decide) ec4
  have s30 := gSg.at xq8 hS.1 trd rfl (by decide) ec6
  have s31 := gSg.at xq8 hS.1 tcol rfl (by decide) ez7
  have uq32 := gSg.uq xq8 uq (by decide)
  have sS33 : gSs rT 1027 tyq8 [51001, 54002, 54003, 54004, 54005, 54006, 54007, 54008, 54009, 54010, 54011, 54012, 54013, 58999, 65003, 66001, 66002, 66003, 66004, 66005, 66010, 66011, 66012, 66013, 66014, 67001, 67002, 67003, 69999, 70999, 82000, 82001, 82002, 82003, 82004, 82005, 82006, 82007, 82008, 82009, 82010, 82011, 83000, 83001, 83002, 83003, 83004, 83005, 83006, 83007, 83008, 83009, 83010, 83011, 84000, 84001, 84002, 84003, 84004, 84005, 84006, 84007, 84008, 84009, 84010, 84011, 102999, 103999, 112999, 113999] hq8 hq8 := gSs.rf xq8.1
  refine gz_s 2 (pc' := 39) (L' := [some (.ref x), some (.int (zi zq8))]) (S' := [.ref x]) rfl ?_
  refine gs_gtk rfl (by decide) rfl sS33.1 t10 rfl rfl s25 ?_
  refine gz_s 1 (pc' := 43) (L' := [some (.ref x), some (.int (zi zq8))]) (S' := [.int (zi 0), .ref col]) rfl ?_
  refine gs_put rfl (by decide) rfl sS33 t16 rfl rfl rfl rfl (Or.inl rfl) (by decide) (by omega) (by omega) (fun h34 sh34 eh34 fh34 => ?_)
  have pr35 := gPC.pk fh34 (sh34.2.2.2.2.1.trans sS33.2.2.2.2.1.symm) t16 (by decide) yq8_0
  have s36 := (fh34 x 2 (fun q => absurd q.2 (by decide))).trans s20
  have s37 := (fh34 pic 0 (fun q => absurd q.2 (by decide))).trans s21
  have s38 := (fh34 bn 0 (fun q => absurd (((t12).symm.trans (congrArg tyq8 q.1)).trans t16) (by decide))).trans s22
  have s39 := (fh34 bn 1 (fun q => absurd (((t12).symm.trans (congrArg tyq8 q.1)).trans t16) (by decide))).trans s23
  have s40 := (fh34 bn 2 (fun q => absurd (((t12).symm.trans (congrArg tyq8 q.1)).trans t16) (by decide))).trans s24
  have s41 := (fh34 x 0 (fun q => absurd q.2 (by decide))).trans s25
  have s42 := (fh34 x 5 (fun q => absurd q.2 (by decide))).trans s26
  have s43 := (fh34 x 1 (fun q => absurd (((t10).symm.trans (congrArg tyq8 q.1)).trans t16) (by decide))).trans s27
  have s44 := (fh34 rd 0 (fun q => absurd q.2 (by decide))).trans s28
  have s45 := (fh34 rd 1 (fun q => absurd (((t17).symm.trans (congrArg tyq8 q.1)).trans t16) (by decide))).trans s29
  have s46 := (fh34 rd 2 (fun q => absurd q.2 (by decide))).trans s30
  refine gz_s 1 (pc' := 47) (L' := [some (.ref x), some (.int (zi zq8))]) (S' := [.int (zi zq8)]) rfl ?_
  have k47 := sh34.2.1
  have k47b := sh34.2.2.1
  have G48 : gSg [112, 113] [] [51001, 54002, 54003, 54004, 54005, 54006, 54007, 54008, 54009, 54010, 54011, 54012, 54013, 58999, 65003, 66001, 66002, 66003, 66004, 66005, 66010, 66011, 66012, 66013, 66014, 67001, 67002, 67003, 69999, 70999, 82000, 82001, 82002, 82003, 82004, 82005, 82006, 82007, 82008, 82009, 82010, 82011, 83000, 83001, 83002, 83003, 83004, 83005, 83006, 83007, 83008, 83009, 83010, 83011, 84000, 84001, 84002, 84003, 84004, 84005, 84006, 84007, 84008, 84009, 84010, 84011, 102999, 103999, 112999, 113999] ty h tyq8 h34 := gSg.ss G9 sh34 (by decide)
  exact gz_end (I := .ireturn) (len := 1) rfl (Or.inl rfl) ⟨tyq8, G48, rd, trivial, zq8, xq8_0, s42, t17, rfl, (by omega), (by omega), (by omega), (by omega), (by omega), (by dsimp only; omega), (by dsimp only; omega), pr35⟩
